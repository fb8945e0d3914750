/-! What the law's questions come to -/
theorem q_f0 {f : Nat → Int32} (hf : okF f) : (f 0 - 1).toInt = (tF f : Int) - 1 := by
  have h6 := hf.2.2.2.1
  have e : (f 0).toInt = tF f := by rw [hf.2.2.1, i_nI (by omega)]
  rw [i_sub (by rw [e, i_1]; omega) (by rw [e, i_1]; omega), e, i_1]
theorem q_isF {f : Nat → Int32} (hf : okF f) {i : Nat} (hi : i < tF f) : isF f (nI i) = true := by
  have h6 := hf.2.2.2.1
  unfold isF
  rw [inR_i, q_f0 hf, i_0, i_nI (by omega)]
  omega
theorem q_noF {f : Nat → Int32} (hf : okF f) : isF f (nI (tF f)) = false ∧ isF f (-1) = false := by
  have h6 := hf.2.2.2.1
  unfold isF
  refine ⟨Bool.of_not_eq_true fun a => ?_, Bool.of_not_eq_true fun a => ?_⟩
  · rw [inR_i, q_f0 hf, i_0, i_nI (by omega)] at a
    omega
  · rw [inR_i, q_f0 hf, i_0, show (-1 : Int32).toInt = -1 by decide] at a
    omega
theorem q_st {f : Nat → Int32} (hf : okF f) {i : Nat} (hi : i < tF f) (k : Nat) (z : Int32) : (if isF f (nI i) = true then sF f (nI i).toNatClampNeg k else z) = sF f i k := by
  have h6 := hf.2.2.2.1
  rw [if_pos (q_isF hf hi), nI_clamp (by omega)]
theorem q_fq {f : Nat → Int32} (hf : okF f) {i : Nat} (hi : i < tF f) (b : Bool) (z : Int32) : (if isF f (nI i) = true then fqR f (nI i).toNatClampNeg b (nF f) else z) = fqR f i b (nF f) := by
  have h6 := hf.2.2.2.1
  rw [if_pos (q_isF hf hi), nI_clamp (by omega)]
theorem q_n1 {n : Nat} (h : n ≤ 20) : (nI n - 1).toInt = (n : Int) - 1 := by
  have e : (nI n).toInt = n := i_nI (by omega)
  rw [i_sub (by rw [e, i_1]; omega) (by rw [e, i_1]; omega), e, i_1]
theorem q_at {f : Nat → Int32} (hf : okF f) {k : Nat} (hk : k < nF f) : inR (nI k) 0 (nI (nF f) - 1) = true ∧ oF f (nI k).toNatClampNeg 0 = oF f k 0 := by
  have h20 := hf.2.1
  refine ⟨?_, by rw [nI_clamp (by omega)]⟩
  rw [inR_i, q_n1 h20, i_0, i_nI (by omega)]
  omega
theorem q_noat {f : Nat → Int32} (hf : okF f) : inR (nI (nF f)) 0 (nI (nF f) - 1) = false ∧ inR (-1) 0 (nI (nF f) - 1) = false := by
  have h20 := hf.2.1
  refine ⟨Bool.of_not_eq_true fun a => ?_, Bool.of_not_eq_true fun a => ?_⟩
  · rw [inR_i, q_n1 h20, i_0, i_nI (by omega)] at a
    omega
  · rw [inR_i, q_n1 h20, i_0, show (-1 : Int32).toInt = -1 by decide] at a
    omega
theorem lst_one {q : Nat → Bool} {k : Nat} : ∀ {n : Nat}, k < n → q k = true → (∀ i, i < n → q i = true → i = k) → lst q n = some k
  | 0, h, _, _ => absurd h (by omega)
  | n + 1, h, hk, hu => by
    show (if q n = true then some n else lst q n) = some k
    by_cases c : q n = true
    · rw [if_pos c, hu n (by omega) c]
    · rw [if_neg c]
      have : k ≠ n := fun e => c (e ▸ hk)
      exact lst_one (by omega) hk (fun i hi => hu i (by omega))
theorem lst_no {q : Nat → Bool} : ∀ {n : Nat}, (∀ i, i < n → q i = false) → lst q n = none
  | 0, _ => rfl
  | n + 1, h => by
    show (if q n = true then some n else lst q n) = none
    rw [if_neg (by rw [h n (by omega)]; decide)]
    exact lst_no (fun i hi => h i (by omega))
theorem q_pl {f : Nat → Int32} (h : bK f) {k : Nat} (hk : k < nF f) : plF f (oF f k 0) (nF f) = some k := by
  unfold plF
  refine lst_one hk (decide_eq_true rfl) (fun i hi e => ?_)
  have e := of_decide_eq_true e
  rcases Nat.lt_trichotomy i k with l | l | l
  · have := h.2.2 i k l hk
    rw [e] at this
    omega
  · exact l
  · have := h.2.2 k i l hi
    rw [e] at this
    omega
theorem q_te {f : Nat → Int32} (h : bK f) {k : Nat} (hk : k < nF f) : teB f (oF f k 0) = true ∧ ∀ j, teV f (oF f k 0) j = oF f k j := by
  unfold teB teV
  rw [q_pl h hk]
  exact ⟨rfl, fun _ => rfl⟩
theorem q_note {f : Nat → Int32} (h : bK f) (h2 : (f 2).toInt ≤ 9999) : teB f 9999 = false ∧ teB f (-1) = false := by
  have key : ∀ x : Int32, (x.toInt = 9999 ∨ x.toInt = -1) → teB f x = false := fun x hx => by
    unfold teB
    rw [show plF f x (nF f) = none from lst_no (fun i hi => decide_eq_false (fun e => by
      have := (h.2.1 i hi).2.2.2.2
      rw [e] at this
      omega))]
    rfl
  exact ⟨key _ (Or.inl (by decide)), key _ (Or.inr (by decide))⟩
theorem q_mi {f : Nat → Int32} (h : bK f) {k : Nat} (hk : k < nF f) : (if miT f (oF f k 0) = 0 then teV f (oF f k 0) 5 else if miT f (oF f k 0) = 1 then -13 else -14) = if oF f k 5 = 0 then -14 else oF f k 5 := by
  obtain ⟨e1, e2⟩ := q_te h hk
  have em : miT f (oF f k 0) = if oF f k 5 = 0 then 2 else 0 := by
    unfold miT
    rw [e1, e2]
    exact if_pos (by decide)
  rw [em, e2]
  by_cases c : oF f k 5 = 0
  · rw [if_pos c, if_pos c]
    rfl
  · rw [if_neg c, if_neg c]
    rfl
theorem q_nomi {f : Nat → Int32} (h : bK f) (h2 : (f 2).toInt ≤ 9999) : (if miT f 9999 = 0 then teV f 9999 5 else if miT f 9999 = 1 then -13 else -14) = -13 := by
  have em : miT f 9999 = 1 := by
    unfold miT
    rw [(q_note h h2).1]
    exact if_neg (by decide)
  rw [em]
  rfl
/-! ranks -/
theorem sbR_at {f : Nat → Int32} {x : Int32} {t j : Nat} : ∀ {k : Nat}, (∀ i, i < k → (abR f i t = x ↔ i = j)) → sbR f x t k = if j < k then nI j else 0
  | 0, _ => by rw [if_neg (by omega)]; rfl
  | k + 1, h => by
    show (if abR f k t = x then nI k else sbR f x t k) = _
    by_cases c : k = j
    · rw [if_pos ((h k (by omega)).mpr c), if_pos (by omega), c]
    · rw [if_neg (fun e => c ((h k (by omega)).mp e)), sbR_at (k := k) (fun i hi => h i (by omega))]
      by_cases l : j < k
      · rw [if_pos l, if_pos (by omega)]
      · rw [if_neg l, if_neg (by omega)]
/-- the stall of rank r -/
theorem q_sb {B : Int} {S : SV} {f : Nat → Int32} (hS : Rl S f) (h : Iz B f) {r : Nat} (hr : r < tF f) : ∃ j, j < tF f ∧ cN (ahN f j) (tF f) = r ∧ ∀ z : Int32, (if isF f (nI r) = true then sbV f (nI r) else z) = nI j := by
  have h6 := h.1.1.2.2.2.1
  obtain ⟨j, hj, e⟩ := pigeon (t := tF f) (g := fun i => cN (ahN f i) (tF f)) (fun i hi => rank_rg hi) (fun i j hi hj e => rank_inj hi hj e) r hr
  refine ⟨j, hj, e, fun z => ?_⟩
  rw [if_pos (q_isF h.1.1 hr)]
  unfold sbV
  rw [if_pos (q_isF h.1.1 hr), sbR_at (j := j) (fun i hi => ?_), if_pos hj]
  rw [(rank_ok hS h hi).2]
  have l := rank_rg (f := f) hi
  constructor
  · intro q
    have q := (nI_eq (by omega) (by omega)).mp q
    exact rank_inj hi hj (q.trans e.symm)
  · intro q
    rw [q]
    exact congrArg nI e
theorem q_ah {f : Nat → Int32} {t i j : Nat} (hi : i < t) (hj : j < t) (h : cN (ahN f i) t < cN (ahN f j) t) : (sF f j 0).toInt < (sF f i 0).toInt ∨ ((sF f i 0).toInt = (sF f j 0).toInt ∧ i < j) := by
  by_cases c : ahN f j i = true
  · unfold ahN at c
    rw [decide_eq_true_iff] at c
    exact c
  · exfalso
    by_cases e : i = j
    · rw [e] at h; omega
    · have hb : ahN f i j = true := by
        unfold ahN at c ⊢
        rw [decide_eq_true_iff] at c ⊢
        omega
      have := cN_lt (p := ahN f j) (q := ahN f i) (n := t) (j := j) (fun k _ hk => by
        unfold ahN at hb hk ⊢
        rw [decide_eq_true_iff] at hb hk ⊢
        omega) hj (by unfold ahN; rw [decide_eq_false_iff_not]; omega) hb
      omega
/-- free money and free drops are never below nothing -/
theorem q_free {B : Int} {f : Nat → Int32} (h : Iz B f) {i : Nat} (hi : i < tF f) (b : Bool) : ¬ fqR f i b (nF f) < 0 := by
  have e := (fq_int h hi b (Nat.le_refl _)).1
  have e3 := h.2.2.1 i hi
  rw [i_l, i_0, e]
  cases b
  · show ¬ (sF f i 1).toInt - zq (wD i) f < 0
    omega
  · show ¬ (sF f i 0).toInt - zq (wM i) f < 0
    omega
