/-! Questions: the same answers -/
theorem Rl.qAt {S : SV} {f : Nat → Int32} (h : Rl S f) (b : Bool) (x : Int32) : qAt S b x (nO S) = smF f b x x (nF f) := by
  unfold _root_.Jvm.Pilot.CDropMarketLaw_law_r1105_e9f6f8.qAt smF
  rw [bS_sm, h.n]
  refine fr_congr fun k s hk => ?_
  have e : (decide (buyS S k = b) && decide (S.2.1 5 k = x)) = true ↔ smC f b x x k = true := by
    rw [smC_i, Bool.and_eq_true, decide_eq_true_iff, decide_eq_true_iff, h.buy hk, h.pri hk]
    constructor
    · rintro ⟨a, c⟩
      have := congrArg Int32.toInt c
      exact ⟨a, by omega, by omega⟩
    · rintro ⟨a, c, d⟩
      exact ⟨a, i_ext (by omega)⟩
  rw [h.qua hk]
  by_cases c : smC f b x x k = true
  · rw [if_pos c, if_pos (e.mpr c)]
  · rw [if_neg c, if_neg (fun a => c (e.mp a))]
/-- how many -/
def cN (p : Nat → Bool) : Nat → Nat
  | 0 => 0
  | n + 1 => cN p n + (if p n = true then 1 else 0)
theorem cN_le {p : Nat → Bool} : ∀ n : Nat, cN p n ≤ n
  | 0 => Nat.le_refl 0
  | n + 1 => by
    have := cN_le (p := p) n
    show cN p n + _ ≤ n + 1
    split <;> omega
theorem cN_congr {p q : Nat → Bool} : ∀ {n : Nat}, (∀ k, k < n → p k = q k) → cN p n = cN q n
  | 0, _ => rfl
  | n + 1, h => by
    show cN p n + _ = cN q n + _
    rw [cN_congr (fun k hk => h k (by omega)), h n (by omega)]
theorem cN_mono {p q : Nat → Bool} : ∀ {n : Nat}, (∀ k, k < n → p k = true → q k = true) → cN p n ≤ cN q n
  | 0, _ => Nat.le_refl 0
  | n + 1, h => by
    have h1 := cN_mono (n := n) (fun k hk => h k (by omega))
    have h2 := h n (by omega)
    show cN p n + _ ≤ cN q n + _
    by_cases c : p n = true
    · rw [if_pos c, if_pos (h2 c)]; omega
    · rw [if_neg c]; omega
theorem cN_lt {p q : Nat → Bool} : ∀ {n j : Nat}, (∀ k, k < n → p k = true → q k = true) → j < n → p j = false → q j = true → cN p n < cN q n
  | 0, _, _, h, _, _ => absurd h (by omega)
  | n + 1, j, h, hj, h1, h2 => by
    show cN p n + _ < cN q n + _
    by_cases c : j = n
    · rw [← c, h1, h2, if_neg (by decide), if_pos rfl]
      have := cN_mono (n := j) (p := p) (q := q) (fun k hk => h k (by omega))
      omega
    · have := cN_lt (n := n) (j := j) (fun k hk => h k (by omega)) (by omega) h1 h2
      have h3 := h n (by omega)
      by_cases d : p n = true
      · rw [if_pos d, if_pos (h3 d)]; omega
      · rw [if_neg d]; omega
theorem bS_one {p : Nat → Bool} : ∀ n : Nat, bS p (fun _ => 1) n = nI (cN p n)
  | 0 => rfl
  | n + 1 => by
    show (if p n = true then bS p (fun _ => 1) n + 1 else bS p (fun _ => 1) n) = nI (cN p n + _)
    rw [bS_one n]
    by_cases c : p n = true
    · rw [if_pos c, if_pos c]; exact nI_s _ 1
    · rw [if_neg c, if_neg c]; rfl
theorem fr_one {p : Nat → Bool} : ∀ n : Nat, fr (fun o a => a + (if p o = true then (1 : Int32) else 0)) n 0 = nI (cN p n)
  | 0 => rfl
  | n + 1 => by
    show fr (fun o a => a + (if p o = true then (1 : Int32) else 0)) n 0 + (if p n = true then (1 : Int32) else 0) = nI (cN p n + _)
    rw [fr_one n]
    by_cases c : p n = true
    · rw [if_pos c, if_pos c]; exact nI_s _ 1
    · rw [if_neg c, if_neg c, Int32.add_zero]; rfl
/-- as many different numbers below t as t: all of them -/
theorem pigeon : ∀ {t : Nat} {g : Nat → Nat}, (∀ i, i < t → g i < t) → (∀ i j, i < t → j < t → g i = g j → i = j) → ∀ r, r < t → ∃ i, i < t ∧ g i = r
  | 0, _, _, _, _, h => absurd h (by omega)
  | t + 1, g, h1, h2, r, hr => by
    by_cases c : r = g t
    · exact ⟨t, by omega, c.symm⟩
    · have k1 : ∀ i, i < t → (if g i = t then g t else g i) < t := fun i hi => by
        have a := h1 i (by omega)
        have b := h1 t (by omega)
        by_cases d : g i = t
        · rw [if_pos d]
          by_cases e : g t = t
          · have := h2 i t (by omega) (by omega) (by rw [d, e]); omega
          · omega
        · rw [if_neg d]; omega
      have k2 : ∀ i j, i < t → j < t → (if g i = t then g t else g i) = (if g j = t then g t else g j) → i = j := fun i j hi hj e => by
        by_cases di : g i = t
        · by_cases dj : g j = t
          · exact h2 i j (by omega) (by omega) (by rw [di, dj])
          · rw [if_pos di, if_neg dj] at e
            have := h2 t j (by omega) (by omega) e
            omega
        · by_cases dj : g j = t
          · rw [if_neg di, if_pos dj] at e
            have := h2 i t (by omega) (by omega) e
            omega
          · rw [if_neg di, if_neg dj] at e
            exact h2 i j (by omega) (by omega) e
      have ht := h1 t (by omega)
      by_cases d : r = t
      · obtain ⟨i, hi, e⟩ := pigeon k1 k2 (g t) (by omega)
        by_cases f : g i = t
        · exact ⟨i, by omega, by rw [f, d]⟩
        · rw [if_neg f] at e
          have := h2 i t (by omega) (by omega) e
          omega
      · obtain ⟨i, hi, e⟩ := pigeon k1 k2 r (by omega)
        by_cases f : g i = t
        · rw [if_pos f] at e; exact absurd e.symm c
        · rw [if_neg f] at e; exact ⟨i, by omega, e⟩
/-- stall o is ahead of stall i -/
def ahN (f : Nat → Int32) (i o : Nat) : Bool := decide ((sF f i 0).toInt < (sF f o 0).toInt ∨ ((sF f o 0).toInt = (sF f i 0).toInt ∧ o < i))
theorem rank_ok {B : Int} {S : SV} {f : Nat → Int32} (hS : Rl S f) (h : Iv B f (fun _ => 0) (fun _ => 0) 0) {i : Nat} (hi : i < tF f) : rkS S (tF f) i = nI (cN (ahN f i) (tF f)) ∧ abR f i (tF f) = nI (cN (ahN f i) (tF f)) := by
  have h6 := h.1.1.2.2.2.1
  have si := h.st hi
  have es : ∀ k, k < tF f → S.2.1 0 k = sF f k 0 := fun k hk => by rw [(hS.2.2.1 k (by omega)).1, if_pos hk]
  constructor
  · unfold rkS
    rw [bS_one]
    congr 1
    refine cN_congr fun o ho => ?_
    have so := h.st ho
    unfold rkC ahN
    rw [es o ho, es i hi]
    have d : (sF f o 0 - sF f i 0).toInt = (sF f o 0).toInt - (sF f i 0).toInt := i_sub (by omega) (by omega)
    have e1 : decide (0 < sF f o 0 - sF f i 0) = decide ((sF f i 0).toInt < (sF f o 0).toInt) := decide_eq_decide.mpr (by rw [i_l, d, i_0]; omega)
    have e2 : decide (sF f o 0 - sF f i 0 = 0) = decide ((sF f o 0).toInt = (sF f i 0).toInt) := decide_eq_decide.mpr ⟨fun e => by have := congrArg Int32.toInt e; rw [d, i_0] at this; omega, fun e => i_ext (by rw [d, i_0]; omega)⟩
    have e3 : (!decide (nI i ≤ nI o)) = decide (o < i) := by
      rw [← decide_not]
      exact decide_eq_decide.mpr (by rw [i_le, i_nI (by omega), i_nI (by omega)]; omega)
    rw [e1, e2, e3, ← Bool.decide_and, ← Bool.decide_or]
  · unfold abR
    rw [fr_one]
    congr 1
    refine cN_congr fun o ho => ?_
    have so := h.st ho
    unfold abC ahN
    have d : (sF f o 0 - sF f i 0).toInt = (sF f o 0).toInt - (sF f i 0).toInt := i_sub (by omega) (by omega)
    have e1 : (!decide (sF f o 0 - sF f i 0 ≤ 0)) = decide ((sF f i 0).toInt < (sF f o 0).toInt) := by
      rw [← decide_not]
      exact decide_eq_decide.mpr (by rw [i_le, d, i_0]; omega)
    have e2 : decide (sF f o 0 - sF f i 0 = 0) = decide ((sF f o 0).toInt = (sF f i 0).toInt) := decide_eq_decide.mpr ⟨fun e => by have := congrArg Int32.toInt e; rw [d, i_0] at this; omega, fun e => i_ext (by rw [d, i_0]; omega)⟩
    rw [e1, e2, ← Bool.decide_and, ← Bool.decide_or]
theorem rank_inj {f : Nat → Int32} {t i j : Nat} (hi : i < t) (hj : j < t) (h : cN (ahN f i) t = cN (ahN f j) t) : i = j := by
  have key : ∀ a b, a < t → ahN f b a = true → cN (ahN f a) t < cN (ahN f b) t := fun a b ha hb => by
    refine cN_lt (j := a) (fun k _ hk => ?_) ha ?_ hb
    · unfold ahN at hb hk ⊢
      rw [decide_eq_true_iff] at hb hk ⊢
      omega
    · unfold ahN
      rw [decide_eq_false_iff_not]
      omega
  by_cases c : i = j
  · exact c
  · exfalso
    have : ahN f j i = true ∨ ahN f i j = true := by
      unfold ahN
      rw [decide_eq_true_iff, decide_eq_true_iff]
      omega
    rcases this with e | e
    · have := key i j hi e; omega
    · have := key j i hj e; omega
theorem rank_rg {f : Nat → Int32} {t i : Nat} (hi : i < t) : cN (ahN f i) t < t := by
  have h1 : cN (ahN f i) t < cN (fun _ => true) t := cN_lt (j := i) (fun _ _ _ => rfl) hi (by unfold ahN; rw [decide_eq_false_iff_not]; omega) rfl
  have h2 := cN_le (p := fun _ => true) t
  omega
/-- the stall with a rank -/
theorem rk_ok {B : Int} {S : SV} {f : Nat → Int32} (hS : Rl S f) (h : Iv B f (fun _ => 0) (fun _ => 0) 0) (x : Int32) : (isF f x = true ∧ ∃ i, i < tF f ∧ rkF S (nT S) x = some i ∧ sbV f x = nI i) ∨ (isF f x = false ∧ rkF S (nT S) x = none) := by
  have h6 := h.1.1.2.2.2.1
  rw [hS.t]
  have hp : ∀ i, i < tF f → decide (rkS S (tF f) i = x) = decide (abR f i (tF f) = x) := fun i hi => by rw [(rank_ok hS h hi).1, (rank_ok hS h hi).2]
  have hu : ∀ i j, i < tF f → j < tF f → decide (abR f i (tF f) = x) = true → decide (abR f j (tF f) = x) = true → i = j := fun i j hi hj a b => by
    have a := of_decide_eq_true a
    have b := of_decide_eq_true b
    rw [← b, (rank_ok hS h hi).2, (rank_ok hS h hj).2] at a
    have r1 := rank_rg (f := f) hi
    have r2 := rank_rg (f := f) hj
    exact rank_inj hi hj (nI_ij (by omega) (by omega) a)
  have hf : rkF S (tF f) x = lst (fun i => decide (abR f i (tF f) = x)) (tF f) := fnd_lst hp hu
  by_cases c : isF f x = true
  · left
    refine ⟨c, ?_⟩
    obtain ⟨e1, e2⟩ := isF_i h.1.1 c
    obtain ⟨i, hi, e⟩ := pigeon (t := tF f) (g := fun i => cN (ahN f i) (tF f)) (fun i hi => rank_rg hi) (fun i j hi hj e => rank_inj hi hj e) x.toNatClampNeg e2
    have ei : abR f i (tF f) = x := by rw [(rank_ok hS h hi).2, e1, ← e]
    have key : ∀ n, n ≤ tF f → lst (fun i => decide (abR f i (tF f) = x)) n = (if i < n then some i else none) ∧ sbR f x (tF f) n = (if i < n then nI i else 0) := fun n => by
      induction n with
      | zero => intro _; exact ⟨rfl, rfl⟩
      | succ n ih =>
        intro hn
        have ih := ih (by omega)
        have l1 : lst (fun i => decide (abR f i (tF f) = x)) (n + 1) = if decide (abR f n (tF f) = x) = true then some n else lst (fun i => decide (abR f i (tF f) = x)) n := rfl
        have l2 : sbR f x (tF f) (n + 1) = if abR f n (tF f) = x then nI n else sbR f x (tF f) n := rfl
        rw [l1, l2, ih.1, ih.2]
        by_cases d : abR f n (tF f) = x
        · have := hu i n hi (by omega) (decide_eq_true ei) (decide_eq_true d)
          rw [if_pos (decide_eq_true d), if_pos d, if_pos (by omega), if_pos (by omega), this]
          exact ⟨rfl, rfl⟩
        · have : i ≠ n := fun e => d (by rw [← e]; exact ei)
          rw [if_neg (by simpa using d), if_neg d]
          by_cases l : i < n
          · rw [if_pos l, if_pos l, if_pos (by omega), if_pos (by omega)]; exact ⟨rfl, rfl⟩
          · rw [if_neg l, if_neg l, if_neg (by omega), if_neg (by omega)]; exact ⟨rfl, rfl⟩
    have k := key (tF f) (Nat.le_refl _)
    rw [if_pos hi, if_pos hi] at k
    refine ⟨i, hi, by rw [hf, k.1], ?_⟩
    unfold sbV
    rw [if_pos c, k.2]
  · right
    have c' := Bool.of_not_eq_true c
    refine ⟨c', ?_⟩
    rw [hf]
    cases hl : lst (fun i => decide (abR f i (tF f) = x)) (tF f) with
    | none => rfl
    | some i =>
      exfalso
      have l := lst_lt hl
      have e := of_decide_eq_true l.2
      rw [(rank_ok hS h l.1).2] at e
      have r := rank_rg (f := f) l.1
      apply c
      rw [← isF_has h.1.1, ← e]
      unfold hasN
      rw [i_nI (by omega)]
      exact decide_eq_true ⟨by omega, by omega⟩
/-- buying orders -/
theorem bc_ok {S : SV} {f : Nat → Int32} (hS : Rl S f) (hb : bK f) : ∃ z : Nat, z < 21 ∧ bCnt S (nO S) = nI z ∧ bsF f (nF f) = nI z := by
  refine ⟨cN (byF f) (nF f), by have := cN_le (p := byF f) (nF f); have := hb.1.2.1; omega, ?_, ?_⟩
  · unfold bCnt
    rw [bS_one, hS.n]
    congr 1
    exact cN_congr fun k hk => hS.buy hk
  · have key : ∀ n, n ≤ nF f → bsF f n = nI (cN (byF f) n) := fun n => by
      induction n with
      | zero => intro _; rfl
      | succ n ih =>
        intro hn
        show bsF f n + oF f n 2 = nI (cN (byF f) n + _)
        rw [ih (by omega), ← nI_s]
        congr 1
        unfold byF
        rcases (hb.2.1 n (by omega)).1 with e | e
        · rw [e]; rfl
        · rw [e]; rfl
    exact key _ (Nat.le_refl _)
theorem vol_ok {S : SV} {f : Nat → Int32} (hS : Rl S f) (hb : bK f) (x : Int32) : mmin (dmd S x (nO S)) (sup S x (nO S)) = voF f (nF f) x := by
  rw [hS.dmd hb, hS.sup hb]
  rfl
theorem at_ok {S : SV} {f : Nat → Int32} (hS : Rl S f) (hf : okF f) (x : Int32) : (inR x 0 (nI (nF f) - 1) = true ∧ ¬ x < 0 ∧ x < S.1 1 ∧ rget 20 (S.2.1 2) x = oF f x.toNatClampNeg 0) ∨ (inR x 0 (nI (nF f) - 1) = false ∧ (x < 0 ∨ ¬ x < S.1 1)) := by
  have h20 := hf.2.1
  have e1 : (nI (nF f) - 1).toInt = (nF f : Int) - 1 := by rw [i_sub (by rw [i_nI (by omega), i_1]; omega) (by rw [i_nI (by omega), i_1]; omega), i_nI (by omega), i_1]
  have e2 : (S.1 1).toInt = nF f := by rw [hS.1.2.1, hf.1, i_nI (by omega)]
  by_cases c : inR x 0 (nI (nF f) - 1) = true
  · left
    have c' := c
    rw [inR_i, e1, i_0] at c'
    refine ⟨c, by rw [i_l, i_0]; omega, by rw [i_l, e2]; omega, ?_⟩
    obtain ⟨k, hk⟩ : ∃ k : Nat, x = nI k ∧ k < nF f := ⟨x.toInt.toNat, i_ext (by rw [i_nI (by omega)]; omega), by omega⟩
    rw [hk.1, rget_nI (by omega) (by decide), nI_clamp (by omega), hS.num hk.2]
  · right
    have c' := Bool.of_not_eq_true c
    rw [inR_i, e1, i_0] at c
    refine ⟨c', ?_⟩
    rw [i_l, i_l, i_0, e2]
    omega
