/-! The second way: sums by price -/
theorem sm_s (f : Nat → Int32) (b : Bool) (lo hi : Int32) (n : Nat) : smF f b lo hi (n + 1) = smF f b lo hi n + (if smC f b lo hi n = true then oF f n 4 else 0) := rfl
/-- a sum that falls into two -/
theorem sm_two {f : Nat → Int32} {b : Bool} {l1 h1 l2 h2 l3 h3 : Int32} : ∀ {n : Nat}, (∀ k, k < n → (smC f b l1 h1 k = true ↔ (smC f b l2 h2 k = true ∨ smC f b l3 h3 k = true)) ∧ ¬ (smC f b l2 h2 k = true ∧ smC f b l3 h3 k = true)) → smF f b l1 h1 n = smF f b l2 h2 n + smF f b l3 h3 n
  | 0, _ => rfl
  | n + 1, h => by
    rw [sm_s, sm_s, sm_s, sm_two (fun k hk => h k (by omega))]
    have h0 := h n (by omega)
    by_cases c2 : smC f b l2 h2 n = true
    · have c3 : ¬ smC f b l3 h3 n = true := fun e => h0.2 ⟨c2, e⟩
      rw [if_pos (h0.1.mpr (Or.inl c2)), if_pos c2, if_neg c3, Int32.add_zero, Int32.add_assoc, Int32.add_assoc, Int32.add_comm (smF f b l3 h3 n)]
    · by_cases c3 : smC f b l3 h3 n = true
      · rw [if_pos (h0.1.mpr (Or.inr c3)), if_neg c2, if_pos c3, Int32.add_zero, Int32.add_assoc]
      · rw [if_neg (fun e => (h0.1.mp e).elim c2 c3), if_neg c2, if_neg c3, Int32.add_zero, Int32.add_zero, Int32.add_zero]
theorem sm_no {f : Nat → Int32} {b : Bool} {lo hi : Int32} : ∀ {n : Nat}, (∀ k, k < n → ¬ smC f b lo hi k = true) → smF f b lo hi n = 0
  | 0, _ => rfl
  | n + 1, h => by rw [sm_s, sm_no (fun k hk => h k (by omega)), if_neg (h n (by omega))]; rfl
theorem smC_i {f : Nat → Int32} {b : Bool} {lo hi : Int32} {k : Nat} : smC f b lo hi k = true ↔ byF f k = b ∧ lo.toInt ≤ (oF f k 3).toInt ∧ (oF f k 3).toInt ≤ hi.toInt := by
  unfold smC
  rw [Bool.and_eq_true, decide_eq_true_iff, inR_i]
/-- the rows gathered -/
theorem gu_sm {S : SV} {f : Nat → Int32} (hS : Rl S f) (hb : bK f) (r1 r2 : Nat → Int32) {j : Nat} (hj : j < 100) : ∀ {n : Nat}, n ≤ nF f → (guR S r1 r2 n).1 j = smF f true (nI j) (nI j) n ∧ (guR S r1 r2 n).2 j = smF f false (nI j) (nI j) n
  | 0, _ => by
    show rclr 100 r1 j = 0 ∧ rclr 100 r2 j = 0
    unfold rclr
    rw [if_pos hj, if_pos hj]
    exact ⟨rfl, rfl⟩
  | n + 1, hn => by
    obtain ⟨i1, i2⟩ := gu_sm hS hb r1 r2 hj (n := n) (by omega)
    obtain ⟨o2, o3, o4, o5, o0⟩ := hb.2.1 n (by omega)
    have e : guR S r1 r2 (n + 1) = guS S n (guR S r1 r2 n) := by unfold guR; rw [fr_s]
    have ej : (nI j).toInt = j := i_nI (by omega)
    obtain ⟨p, hp, p1, p2⟩ : ∃ p : Nat, oF f n 3 = nI p ∧ 1 ≤ p ∧ p ≤ 99 := ⟨(oF f n 3).toInt.toNat, i_ext (by rw [i_nI (by omega)]; omega), by omega, by omega⟩
    have ep : (oF f n 3).toInt = p := by rw [hp]; exact i_nI (by omega)
    have ec : ∀ b, smC f b (nI j) (nI j) n = true ↔ byF f n = b ∧ j = p := fun b => by
      rw [smC_i, ej, ep]
      constructor
      · rintro ⟨a, c, d⟩; exact ⟨a, by omega⟩
      · rintro ⟨a, c⟩; exact ⟨a, by omega, by omega⟩
    have eu : ∀ (g : Nat → Int32) (v : Int32), radd 100 g (nI p) v j = g j + (if j = p then v else 0) := fun g v => by
      rw [radd_nI (by omega) (by decide)]
      by_cases c : j = p
      · rw [if_pos c, c, pk_us]
      · rw [if_neg c, pk_un c, Int32.add_zero]
    rw [e, sm_s, sm_s]
    unfold guS
    rw [hS.buy (show n < nF f by omega), hS.pri (show n < nF f by omega), hS.qua (show n < nF f by omega), hp]
    cases hby : byF f n
    · rw [if_neg (by decide), if_neg (fun a => by have := (ec true).mp a; rw [hby] at this; exact absurd this.1 (by decide)), Int32.add_zero]
      refine ⟨i1, ?_⟩
      show radd 100 _ (nI p) _ j = _
      rw [eu, i2]
      by_cases c : j = p
      · rw [if_pos c, if_pos ((ec false).mpr ⟨hby, c⟩)]
      · rw [if_neg c, if_neg (fun a => c ((ec false).mp a).2)]
    · rw [if_pos rfl, if_neg (c := smC f false (nI j) (nI j) n = true) (fun a => by have := (ec false).mp a; rw [hby] at this; exact absurd this.1 (by decide)), Int32.add_zero]
      refine ⟨?_, i2⟩
      show radd 100 _ (nI p) _ j = _
      rw [eu, i1]
      by_cases c : j = p
      · rw [if_pos c, if_pos ((ec true).mpr ⟨hby, c⟩)]
      · rw [if_neg c, if_neg (fun a => c ((ec true).mp a).2)]
/-- rows of sums by price -/
def suR (f : Nat → Int32) (F G : Nat → Int32) : Prop := ∀ j, j < 100 → F j = smF f true (nI j) (nI j) (nF f) ∧ G j = smF f false (nI j) (nI j) (nF f)
theorem gu_su {S : SV} {f : Nat → Int32} (hS : Rl S f) (hb : bK f) (r1 r2 : Nat → Int32) : suR f (guR S r1 r2 (nO S)).1 (guR S r1 r2 (nO S)).2 := fun j hj => by
  rw [hS.n]
  exact gu_sm hS hb r1 r2 hj (Nat.le_refl _)
theorem su_D {f F G : Nat → Int32} (hb : bK f) (h : suR f F G) : ∀ k : Nat, k ≤ 99 → psD F k = smF f true (nI k) 99 (nF f)
  | 0, _ => by
    have key : ∀ n : Nat, n ≤ 100 → fr (fun k s => s + F k) n 0 + smF f true (nI n) 99 (nF f) = smF f true (nI 0) 99 (nF f) := fun n => by
      induction n with
      | zero => intro _; exact Int32.zero_add _
      | succ n ih =>
        intro hn
        rw [← ih (by omega)]
        show fr (fun k s => s + F k) n 0 + F n + smF f true (nI (n + 1)) 99 (nF f) = _
        rw [Int32.add_assoc, (h n (by omega)).1]
        congr 1
        refine (sm_two fun k hk => ?_).symm
        have e0 : (nI n).toInt = n := i_nI (by omega)
        have e1 : (nI (n + 1)).toInt = (n : Int) + 1 := i_nI (by omega)
        have o3 := (hb.2.1 k hk).2.1
        rw [smC_i, smC_i, smC_i, e0, e1, show (99 : Int32).toInt = 99 by decide]
        refine ⟨⟨fun a => ?_, fun a => ?_⟩, fun a => ?_⟩
        · by_cases c : (oF f k 3).toInt = n
          · exact Or.inl ⟨a.1, by omega, by omega⟩
          · exact Or.inr ⟨a.1, by omega, by omega⟩
        · rcases a with a | a
          · exact ⟨a.1, by omega, by omega⟩
          · exact ⟨a.1, by omega, by omega⟩
        · omega
    have h1 := key 100 (by omega)
    rw [sm_no (fun k hk => by
      have o3 := (hb.2.1 k hk).2.1
      rw [smC_i, show (nI 100).toInt = 100 from i_nI (by omega)]
      omega), Int32.add_zero] at h1
    exact h1
  | k + 1, hk => by
    have e0 : (nI k).toInt = k := i_nI (by omega)
    have e1 : (nI (k + 1)).toInt = (k : Int) + 1 := i_nI (by omega)
    show psD F k - F k = _
    rw [su_D hb h k (by omega), (h k (by omega)).1]
    have e : smF f true (nI k) 99 (nF f) = smF f true (nI (k + 1)) 99 (nF f) + smF f true (nI k) (nI k) (nF f) := sm_two fun i hi => by
      have o3 := (hb.2.1 i hi).2.1
      rw [smC_i, smC_i, smC_i, e0, e1, show (99 : Int32).toInt = 99 by decide]
      refine ⟨⟨fun a => ?_, fun a => ?_⟩, fun a => ?_⟩
      · by_cases c : (oF f i 3).toInt = k
        · exact Or.inr ⟨a.1, by omega, by omega⟩
        · exact Or.inl ⟨a.1, by omega, by omega⟩
      · rcases a with a | a
        · exact ⟨a.1, by omega, by omega⟩
        · exact ⟨a.1, by omega, by omega⟩
      · omega
    rw [e, Int32.sub_eq_add_neg, Int32.add_assoc, Int32.add_right_neg, Int32.add_zero]
theorem su_U {f F G : Nat → Int32} (hb : bK f) (h : suR f F G) : ∀ k : Nat, k ≤ 99 → psU G k = smF f false 1 (nI k) (nF f)
  | 0, _ => by
    show 0 = _
    rw [sm_no (fun k hk => by
      have o3 := (hb.2.1 k hk).2.1
      rw [smC_i, show (nI 0).toInt = 0 from rfl]
      omega)]
  | k + 1, hk => by
    have e0 : (nI k).toInt = k := i_nI (by omega)
    have e1 : (nI (k + 1)).toInt = (k : Int) + 1 := i_nI (by omega)
    show psU G k + G (k + 1) = _
    rw [su_U hb h k (by omega), (h (k + 1) (by omega)).2]
    refine (sm_two fun i hi => ?_).symm
    have o3 := (hb.2.1 i hi).2.1
    rw [smC_i, smC_i, smC_i, e0, e1, show (1 : Int32).toInt = 1 by decide]
    refine ⟨⟨fun a => ?_, fun a => ?_⟩, fun a => ?_⟩
    · by_cases c : (oF f i 3).toInt = k + 1
      · exact Or.inr ⟨a.1, by omega, by omega⟩
      · exact Or.inl ⟨a.1, by omega, by omega⟩
    · rcases a with a | a
      · exact ⟨a.1, by omega, by omega⟩
      · exact ⟨a.1, by omega, by omega⟩
    · omega
theorem su_P {f F G : Nat → Int32} (hb : bK f) (h : suR f F G) : ∀ k : Nat, k ≤ 99 → psR F G k = pcR (fun q => smF f true q 99 (nF f)) (fun q => smF f false 1 q (nF f)) k
  | 0, _ => rfl
  | k + 1, hk => by
    show pcs (nI (k + 1)) (psD F (k + 1)) (psU G (k + 1)) (psR F G k) = pcs (nI (k + 1)) (smF f true (nI (k + 1)) 99 (nF f)) (smF f false 1 (nI (k + 1)) (nF f)) (pcR _ _ k)
    rw [su_D hb h _ hk, su_U hb h _ hk, su_P hb h k (by omega)]
theorem su_pool {f F G : Nat → Int32} (hb : bK f) (h : suR f F G) : psR F G 99 = poR f (nF f) 99 := by
  rw [su_P hb h 99 (by omega)]
  exact (pc_po hb (d := fun x => smF f true x 99 (nF f)) (s := fun x => smF f false 1 x (nF f)) (fun _ => rfl) (fun _ => rfl) 99 (Nat.le_refl _)).1
/-! The spread -/
theorem ssH_1 {F : Nat → Int32} : ∀ {n i : Nat}, 1 ≤ i → i ≤ n → 0 < F i → (∀ j, i < j → j ≤ n → ¬ 0 < F j) → ssH F n = some i
  | 0, i, h1, h2, _, _ => absurd h2 (by omega)
  | n + 1, i, h1, h2, h3, h4 => by
    show (if 0 < F (n + 1) then some (n + 1) else ssH F n) = _
    by_cases c : i = n + 1
    · rw [← c, if_pos h3]
    · rw [if_neg (h4 (n + 1) (by omega) (by omega))]
      exact ssH_1 h1 (by omega) h3 (fun j a b => h4 j a (by omega))
theorem ssH_0 {F : Nat → Int32} : ∀ {n : Nat}, (∀ j, j ≤ n → ¬ 0 < F j) → ssH F n = none
  | 0, _ => rfl
  | n + 1, h => by
    show (if 0 < F (n + 1) then some (n + 1) else ssH F n) = _
    rw [if_neg (h (n + 1) (by omega))]
    exact ssH_0 (fun j a => h j (by omega))
theorem ssL_0 {F : Nat → Int32} : ∀ {n : Nat}, (∀ j, j ≤ n → ¬ 0 < F j) → ssL F n = none
  | 0, _ => rfl
  | n + 1, h => by
    show (match ssL F n with | some j => some j | none => if 0 < F (n + 1) then some (n + 1) else none) = _
    rw [ssL_0 (fun j a => h j (by omega))]
    exact if_neg (h (n + 1) (by omega))
theorem ssL_1 {F : Nat → Int32} : ∀ {n i : Nat}, 1 ≤ i → i ≤ n → 0 < F i → (∀ j, j < i → ¬ 0 < F j) → ssL F n = some i
  | 0, i, h1, h2, _, _ => absurd h2 (by omega)
  | n + 1, i, h1, h2, h3, h4 => by
    show (match ssL F n with | some j => some j | none => if 0 < F (n + 1) then some (n + 1) else none) = _
    by_cases c : i = n + 1
    · rw [ssL_0 (fun j a => h4 j (by omega)), ← c]
      exact if_pos h3
    · rw [ssL_1 h1 (by omega) h3 h4]
theorem sm_pos {f : Nat → Int32} (hb : bK f) {b : Bool} {j : Nat} (hj : j < 100) : 0 < smF f b (nI j) (nI j) (nF f) ↔ ∃ k, k < nF f ∧ byF f k = b ∧ (oF f k 3).toInt = j := by
  have ej : (nI j).toInt = j := i_nI (by omega)
  rw [i_l, i_0, (sm_int hb b (nI j) (nI j) (Nat.le_refl _)).1]
  constructor
  · intro h
    obtain ⟨k, hk, hz⟩ := zs_at (g := fun k => if smC f b (nI j) (nI j) k = true then (oF f k 4).toInt else 0) (n := nF f) (by omega)
    try dsimp only at hz
    by_cases c : smC f b (nI j) (nI j) k = true
    · rw [smC_i, ej] at c
      exact ⟨k, hk, c.1, by omega⟩
    · rw [if_neg c] at hz; exact absurd rfl hz
  · rintro ⟨k, hk, h1, h2⟩
    have o4 := (hb.2.1 k hk).2.2.1
    have := zs_ge (g := fun k => if smC f b (nI j) (nI j) k = true then (oF f k 4).toInt else 0) (n := nF f) (j := k) (fun i hi => by
      have := (hb.2.1 i hi).2.2.1
      try dsimp only
      split <;> omega) hk
    try dsimp only at this
    rw [if_pos (smC_i.mpr ⟨h1, by rw [ej]; omega, by rw [ej]; omega⟩)] at this
    omega
theorem su_ss {S : SV} {f F G : Nat → Int32} (hS : Rl S f) (hb : bK f) (h : suR f F G) : ssR F G = sprS S (nO S) ∧ (sprS S (nO S) = if spB f = true then spV f else 1000) ∧ (spB f = true → spV f ≠ 1000) := by
  have bt := hS.best hb true (n := nF f) (Nat.le_refl _)
  have bf := hS.best hb false (n := nF f) (Nat.le_refl _)
  have eH : ssH F 99 = (mbF f true (nF f)).map (fun i => (oF f i 3).toInt.toNat) := by
    cases hm : mbF f true (nF f) with
    | none =>
      refine ssH_0 fun j hj => ?_
      rw [(h j (by omega)).1, sm_pos hb (by omega)]
      rintro ⟨k, hk, h1, -⟩
      exact mb_none hm k hk h1
    | some i =>
      have hi := mb_lt hm
      have o3 := (hb.2.1 i hi).2.1
      show ssH F 99 = some (oF f i 3).toInt.toNat
      refine ssH_1 (by omega) (by omega) ?_ (fun j h1 h2 => ?_)
      · rw [(h _ (by omega)).1, sm_pos hb (by omega)]
        exact ⟨i, hi, mb_by hm, by omega⟩
      · rw [(h _ (by omega)).1, sm_pos hb (by omega)]
        rintro ⟨k, hk, h3, h4⟩
        have := mb_max hb (Nat.le_refl _) hm k hk h3
        unfold nah at this
        rw [if_pos rfl] at this
        omega
  have eL : ssL G 99 = (mbF f false (nF f)).map (fun i => (oF f i 3).toInt.toNat) := by
    cases hm : mbF f false (nF f) with
    | none =>
      refine ssL_0 fun j hj => ?_
      rw [(h j (by omega)).2, sm_pos hb (by omega)]
      rintro ⟨k, hk, h1, -⟩
      exact mb_none hm k hk h1
    | some i =>
      have hi := mb_lt hm
      have o3 := (hb.2.1 i hi).2.1
      show ssL G 99 = some (oF f i 3).toInt.toNat
      refine ssL_1 (by omega) (by omega) ?_ (fun j h1 => ?_)
      · rw [(h _ (by omega)).2, sm_pos hb (by omega)]
        exact ⟨i, hi, mb_by hm, by omega⟩
      · rw [(h _ (by omega)).2, sm_pos hb (by omega)]
        rintro ⟨k, hk, h3, h4⟩
        have := mb_max hb (Nat.le_refl _) hm k hk h3
        unfold nah at this
        rw [if_neg (by decide)] at this
        omega
  unfold ssR sprS spV spB beB beV
  rw [eH, eL, hS.n, bt, bf]
  cases hm : mbF f true (nF f) with
  | none => exact ⟨rfl, rfl, fun e => absurd e (by simp)⟩
  | some i =>
    cases hn : mbF f false (nF f) with
    | none => exact ⟨rfl, rfl, fun e => absurd e (by simp)⟩
    | some j =>
      have hi := mb_lt hm
      have hj := mb_lt hn
      have oi := (hb.2.1 i hi).2.1
      have oj := (hb.2.1 j hj).2.1
      have ei : nI (oF f i 3).toInt.toNat = oF f i 3 := i_ext (by rw [i_nI (by omega)]; omega)
      have ej : nI (oF f j 3).toInt.toNat = oF f j 3 := i_ext (by rw [i_nI (by omega)]; omega)
      refine ⟨?_, ?_, fun _ => ?_⟩
      · show nI (oF f j 3).toInt.toNat - nI (oF f i 3).toInt.toNat = S.2.1 5 j - S.2.1 5 i
        rw [ei, ej, hS.pri hi, hS.pri hj]
      · show S.2.1 5 j - S.2.1 5 i = oF f j 3 - oF f i 3
        rw [hS.pri hi, hS.pri hj]
      · show oF f j 3 - oF f i 3 ≠ 1000
        intro e
        have := congrArg Int32.toInt e
        rw [i_sub (by omega) (by omega), show (1000 : Int32).toInt = 1000 by decide] at this
        omega
theorem cov_ok {B : Int} {S : SV} {f : Nat → Int32} (hS : Rl S f) (h : Iv B f (fun _ => 0) (fun _ => 0) 0) : covS S = true := by
  unfold covS
  rw [hS.t]
  have key : ∀ n, n ≤ tF f → fnd (ncov S) n = none := fun n => by
    induction n with
    | zero => intro _; rfl
    | succ n ih =>
      intro hn
      refine fnd_f (ih (by omega)) ?_
      have a := fq_int h (show n < tF f by omega) true (n := nF f) (Nat.le_refl _)
      have b := fq_int h (show n < tF f by omega) false (n := nF f) (Nat.le_refl _)
      have c := h.2.2.1 n (by omega)
      rw [if_pos rfl, if_pos rfl] at a
      rw [if_neg (by decide), if_neg (by decide)] at b
      unfold ncov
      rw [hS.frM h.1.1 (by omega), hS.frD h.1.1 (by omega)]
      have d1 : decide (fqR f n true (nF f) < 0) = false := by
        rw [decide_eq_false_iff_not, i_l, i_0, a.1]
        have : zq (wM n) f + 0 ≤ (sF f n 0).toInt := c.2.1
        unfold zq at this
        omega
      have d2 : decide (0 ≤ fqR f n false (nF f)) = true := by
        rw [decide_eq_true_iff, i_le, i_0, b.1]
        have : zq (wD n) f + 0 ≤ (sF f n 1).toInt := c.2.2
        unfold zq at this
        omega
      rw [d1, d2]
      rfl
  rw [key _ (Nat.le_refl _)]
  rfl
