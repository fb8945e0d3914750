/-! Orders placed and carried out at once -/
theorem inR_i {x lo hi : Int32} : inR x lo hi = true ↔ lo.toInt ≤ x.toInt ∧ x.toInt ≤ hi.toInt := by
  unfold inR
  rw [Bool.and_eq_true, Bool.not_eq_true', Bool.not_eq_true', decide_eq_false_iff_not, decide_eq_false_iff_not, i_l, i_l]
  omega
theorem isF_i {f : Nat → Int32} (h : okF f) {x : Int32} (hx : isF f x = true) : x = nI x.toNatClampNeg ∧ x.toNatClampNeg < tF f := by
  have h6 := h.2.2.2.1
  obtain ⟨i, hi, e⟩ := hasN_of (n := tF f) (x := x) (by rw [isF_has h]; exact hx) (by omega)
  rw [e, nI_clamp (by omega)]
  exact ⟨rfl, hi⟩
theorem nx_ok {B : Int} {f : Nat → Int32} (h : Iv B f (fun _ => 0) (fun _ => 0) 0) (hB : B + 1 ≤ 40000) {i : Nat} (hi : i < tF f) {b : Bool} {pr q : Int32} (hp : 1 ≤ pr.toInt ∧ pr.toInt ≤ 99) (hq : 1 ≤ q.toInt ∧ q.toInt ≤ 50)
    (hfr : if b = true then zq (wM i) f + pr.toInt * q.toInt ≤ (sF f i 0).toInt else zq (wD i) f + q.toInt ≤ (sF f i 1).toInt) :
    Iv (B + 1) (nxF f) (pM b i pr.toInt q.toInt) (pD b i q.toInt) q.toInt ∧ (∀ k, k ≠ 2 → nxF f k = f k) ∧ (nxF f 2).toInt = (f 2).toInt + 1 ∧ nF (nxF f) = nF f ∧ tF (nxF f) = tF f := by
  have e : ∀ k, k ≠ 2 → nxF f k = f k := fun k hk => pk_un hk
  obtain ⟨a1, a2, a3, a4, ⟨⟨a5, a6⟩, a7, a8, a9, a10⟩, a11, a12, a13, a14⟩ := h
  have e2 : (nxF f 2).toInt = (f 2).toInt + 1 := by
    unfold nxF
    rw [pk_us, i_add (by rw [i_1]; omega) (by rw [i_1]; omega), i_1]
  have en : nF (nxF f) = nF f := by unfold nF; rw [e 1 (by omega)]
  have et : tF (nxF f) = tF f := by unfold tF; rw [e 0 (by omega)]
  have eo : ∀ k j, oF (nxF f) k j = oF f k j := fun k j => e _ (by omega)
  have es : ∀ k j, sF (nxF f) k j = sF f k j := fun k j => e _ (by omega)
  have ez : ∀ w, zq w (nxF f) = zq w f := fun w => by
    unfold zq
    rw [en]
    refine zs_congr fun k _ => ?_
    unfold zw zk wF byF
    rw [eo, eo, eo, eo]
  have mp : 0 ≤ pr.toInt * q.toInt := Int.mul_nonneg (by omega) (by omega)
  refine ⟨⟨⟨(okF_nx a1.1).1, fun k hk => ?_, fun c d hcd hd => ?_⟩, by rw [e 4 (by omega)]; exact a2, fun k hk => ?_, ?_, ⟨⟨by rw [e 8 (by omega), e 7 (by omega), e 6 (by omega), e 5 (by omega)]; exact a5, by rw [e 8 (by omega), ez, e2]; omega⟩, by rw [e 6 (by omega)]; exact a7, by rw [e 6 (by omega), e 7 (by omega)]; exact a8, by rw [e 6 (by omega), e 7 (by omega)]; exact a9, by rw [e 7 (by omega), ez, e2]; omega⟩, by omega, by omega, by omega, hB⟩, e, e2, en, et⟩
  · rw [en] at hk
    have := a1.2.1 k hk
    unfold bO at this ⊢
    rw [eo, eo, eo, eo, eo]
    exact ⟨this.1, this.2.1, this.2.2.1, this.2.2.2.1, this.2.2.2.2.1, by omega⟩
  · rw [en] at hd
    rw [eo, eo]
    exact a1.2.2 c d hcd hd
  · rw [et] at hk
    have h3 := a3 k hk
    rw [ez, ez, es, es]
    unfold pM pD
    cases b
    · simp only [Bool.false_eq_true, if_false, false_and, true_and] at hfr ⊢
      by_cases c : k = i
      · simp only [if_pos c]; rw [c] at h3 ⊢; omega
      · simp only [if_neg c]; omega
    · simp only [Bool.true_eq_false, if_true, if_false, false_and, true_and] at hfr ⊢
      by_cases c : k = i
      · simp only [if_pos c]; rw [c] at h3 ⊢; omega
      · simp only [if_neg c]; omega
  · rw [et]
    have s0 : (fun k => (sF (nxF f) k 0).toInt) = fun k => (sF f k 0).toInt := funext fun k => by rw [es]
    have s1 : (fun k => (sF (nxF f) k 1).toInt) = fun k => (sF f k 1).toInt := funext fun k => by rw [es]
    rw [s0, s1]
    exact a4
/-- an order enters the book -/
theorem opW_ok {B : Int} {f : Nat → Int32} {i : Nat} {b : Bool} {pr q mi num : Int32} (h : Iv B f (pM b i pr.toInt q.toInt) (pD b i q.toInt) q.toInt) (hi : i < tF f) (hn : nF f < 20) (hp : 1 ≤ pr.toInt ∧ pr.toInt ≤ 99) (hq : 1 ≤ q.toInt ∧ q.toInt ≤ 50) (hm : 0 ≤ mi.toInt ∧ mi.toInt ≤ 60)
    (h1 : 0 ≤ num.toInt ∧ num.toInt < (f 2).toInt) (h2 : ∀ k, k < nF f → (oF f k 0).toInt < num.toInt) : Iv B (opW f num i b pr q mi) (fun _ => 0) (fun _ => 0) 0 ∧ ∀ S, Rl S f → Rl (enS S (nO S) num (nI i) b pr q mi) (opW f num i b pr q mi) := by
  have lo : ∀ k, k < 21 → k ≠ 1 → opW f num i b pr q mi k = f k := fun k hk h1 => by
    unfold opW opV
    rw [pk_un h1, pk_un (by omega), pk_un (by omega), pk_un (by omega), pk_un (by omega), pk_un (by omega), pk_un (by omega)]
  have e1 : opW f num i b pr q mi 1 = nI (nF f + 1) := by unfold opW; rw [pk_us]
  have en : nF (opW f num i b pr q mi) = nF f + 1 := by
    unfold nF
    rw [e1, nI_clamp (by omega)]
    rfl
  have et : tF (opW f num i b pr q mi) = tF f := by unfold tF; rw [lo 0 (by omega) (by omega)]
  have hof : ∀ k j, k < nF f → j < 6 → oF (opW f num i b pr q mi) k j = oF f k j := fun k j hk hj => by
    unfold oF opW opV
    rw [pk_un (by omega), pk_un (by omega), pk_un (by omega), pk_un (by omega), pk_un (by omega), pk_un (by omega), pk_un (by omega)]
  have hnew : oF (opW f num i b pr q mi) (nF f) 0 = num ∧ oF (opW f num i b pr q mi) (nF f) 1 = nI i ∧ oF (opW f num i b pr q mi) (nF f) 2 = bI b ∧ oF (opW f num i b pr q mi) (nF f) 3 = pr ∧ oF (opW f num i b pr q mi) (nF f) 4 = q ∧ oF (opW f num i b pr q mi) (nF f) 5 = mi := by
    unfold oF opW opV
    refine ⟨?_, ?_, ?_, ?_, ?_, ?_⟩
    · rw [pk_un (by omega), pk_un (by omega), pk_un (by omega), pk_un (by omega), pk_un (by omega), pk_un (by omega), Nat.add_zero, pk_us]
    · rw [pk_un (by omega), pk_un (by omega), pk_un (by omega), pk_un (by omega), pk_un (by omega), pk_us]
    · rw [pk_un (by omega), pk_un (by omega), pk_un (by omega), pk_un (by omega), pk_us]
    · rw [pk_un (by omega), pk_un (by omega), pk_un (by omega), pk_us]
    · rw [pk_un (by omega), pk_un (by omega), pk_us]
    · rw [pk_un (by omega), pk_us]
  obtain ⟨n0, n1, n2, n3, n4, n5⟩ := hnew
  obtain ⟨a1, a2, a3, a4, ⟨⟨a5, a6⟩, a7, a8, a9, a10⟩, a11, a12, a13, a14⟩ := h
  have h6 := a1.1.2.2.2.1
  have ewn : wF (opW f num i b pr q mi) (nF f) = i := by unfold wF; rw [n1, nI_clamp (by omega)]
  have eby : byF (opW f num i b pr q mi) (nF f) = b := by unfold byF; rw [n2]; cases b <;> decide
  have ez : ∀ w, zq w (opW f num i b pr q mi) = zq w f + w i b pr.toInt * q.toInt := fun w => by
    unfold zq
    rw [en]
    show zs _ (nF f) + zw w _ (nF f) = _
    rw [zs_congr (h := zw w f) (fun k hk => ?_)]
    · congr 1
      unfold zw zk
      rw [ewn, eby, n3, n4]
    · unfold zw zk wF byF
      rw [hof k 1 hk (by omega), hof k 2 hk (by omega), hof k 3 hk (by omega), hof k 4 hk (by omega)]
  have es : ∀ k j, k < tF f → j < 2 → sF (opW f num i b pr q mi) k j = sF f k j := fun k j hk hj => lo _ (by omega) (by omega)
  refine ⟨⟨⟨⟨by rw [en, e1], by rw [en]; omega, by rw [et, lo 0 (by omega) (by omega)]; exact a1.1.2.2.1, by rw [et]; exact h6, fun k hk => ?_⟩, fun k hk => ?_, fun c d hcd hd => ?_⟩, by rw [lo 4 (by omega) (by omega)]; exact a2, fun k hk => ?_, ?_, ⟨⟨by rw [lo 8 (by omega) (by omega), lo 7 (by omega) (by omega), lo 6 (by omega) (by omega), lo 5 (by omega) (by omega)]; exact a5, ?_⟩, by rw [lo 6 (by omega) (by omega)]; exact a7, by rw [lo 6 (by omega) (by omega), lo 7 (by omega) (by omega)]; exact a8, by rw [lo 6 (by omega) (by omega), lo 7 (by omega) (by omega)]; exact a9, ?_⟩, by omega, by rw [lo 2 (by omega) (by omega)]; exact a12, by rw [lo 2 (by omega) (by omega)]; exact a13, a14⟩, fun S hS => ?_⟩
  · rw [en] at hk
    rw [et]
    by_cases c : k = nF f
    · rw [c, ewn, n1]; exact ⟨rfl, hi⟩
    · have := a1.1.2.2.2.2 k (by omega)
      unfold wF at this ⊢
      rw [hof k 1 (by omega) (by omega)]
      exact this
  · rw [en] at hk
    unfold bO
    rw [lo 2 (by omega) (by omega)]
    by_cases c : k = nF f
    · rw [c, n0, n2, n3, n4, n5]
      refine ⟨?_, hp, hq, hm, h1⟩
      cases b
      · left; rfl
      · right; rfl
    · rw [hof k 0 (by omega) (by omega), hof k 2 (by omega) (by omega), hof k 3 (by omega) (by omega), hof k 4 (by omega) (by omega), hof k 5 (by omega) (by omega)]
      exact a1.2.1 k (by omega)
  · rw [en] at hd
    by_cases e : d = nF f
    · rw [e, n0, hof c 0 (by omega) (by omega)]
      exact h2 c (by omega)
    · rw [hof c 0 (by omega) (by omega), hof d 0 (by omega) (by omega)]
      exact a1.2.2 c d hcd (by omega)
  · rw [et] at hk
    have h3 := a3 k hk
    rw [ez, ez, es k 0 hk (by omega), es k 1 hk (by omega)]
    unfold pM pD at h3
    have vM : wM k i b pr.toInt = if b = true ∧ i = k then pr.toInt else 0 := rfl
    have vD : wD k i b pr.toInt = if b = false ∧ i = k then 1 else 0 := rfl
    rw [vM, vD]
    cases b
    · simp only [Bool.false_eq_true, if_false, false_and, true_and, Int.zero_mul] at h3 ⊢
      by_cases c : k = i
      · rw [if_pos c] at h3; rw [if_pos c.symm]; omega
      · rw [if_neg c] at h3; rw [if_neg (fun e => c e.symm)]; omega
    · simp only [Bool.true_eq_false, if_false, false_and, true_and, Int.zero_mul] at h3 ⊢
      by_cases c : k = i
      · rw [if_pos c] at h3; rw [if_pos c.symm]; omega
      · rw [if_neg c] at h3; rw [if_neg (fun e => c e.symm)]; omega
  · rw [et, zs_congr (h := fun k => (sF f k 0).toInt) (fun k hk => by rw [es k 0 hk (by omega)]), zs_congr (g := fun k => (sF (opW f num i b pr q mi) k 1).toInt) (h := fun k => (sF f k 1).toInt) (fun k hk => by rw [es k 1 hk (by omega)])]
    exact a4
  · rw [lo 8 (by omega) (by omega), lo 2 (by omega) (by omega), ez]
    show _ + 99 * (zq wQ f + 1 * q.toInt + 0) ≤ _
    omega
  · rw [lo 7 (by omega) (by omega), lo 2 (by omega) (by omega), ez]
    show _ + (zq wQ f + 1 * q.toInt) + 0 ≤ _
    omega
  · have hlen := a1.1.2.1
    refine ⟨⟨?_, ?_, ?_, ?_, ?_, ?_, ?_, ?_⟩, ?_, fun k hk => ?_, fun k hk j hj => ?_⟩
    · rw [lo _ (by omega) (by omega)]; exact hS.1.1
    · rw [e1, hS.n]; rfl
    · rw [lo _ (by omega) (by omega)]; exact hS.1.2.2.1
    · rw [lo _ (by omega) (by omega)]; exact hS.1.2.2.2.1
    · rw [lo _ (by omega) (by omega)]; exact hS.1.2.2.2.2.1
    · rw [lo _ (by omega) (by omega)]; exact hS.1.2.2.2.2.2.1
    · rw [lo _ (by omega) (by omega)]; exact hS.1.2.2.2.2.2.2.1
    · rw [lo _ (by omega) (by omega)]; exact hS.1.2.2.2.2.2.2.2
    · rw [lo _ (by omega) (by omega)]; exact hS.2.1
    · rw [et]
      have hr := hS.2.2.1 k hk
      have s0 : ∀ j, j < 2 → sF (opW f num i b pr q mi) k j = sF f k j := fun j hj => lo _ (by omega) (by omega)
      rw [s0 0 (by omega), s0 1 (by omega)]
      exact hr
    · rw [en] at hk
      rw [hS.n]
      have g : ∀ (r : Nat → Int32) (z : Int32), upd r (nF f) z k = if k = nF f then z else r k := fun r z => by
        by_cases c : k = nF f
        · rw [if_pos c, c, pk_us]
        · rw [if_neg c, pk_un c]
      by_cases c : k = nF f
      · rcases (show j = 0 ∨ j = 1 ∨ j = 2 ∨ j = 3 ∨ j = 4 ∨ j = 5 by omega) with rfl | rfl | rfl | rfl | rfl | rfl
        · rw [c, n0]; show upd (S.2.1 2) (nF f) num (nF f) = num; rw [pk_us]
        · rw [c, n1]; show upd (S.2.1 3) (nF f) _ (nF f) = _; rw [pk_us]
        · rw [c, n2]; show upd (S.2.1 4) (nF f) _ (nF f) = _; rw [pk_us]
        · rw [c, n3]; show upd (S.2.1 5) (nF f) _ (nF f) = _; rw [pk_us]
        · rw [c, n4]; show upd (S.2.1 6) (nF f) _ (nF f) = _; rw [pk_us]
        · rw [c, n5]; show upd (S.2.1 7) (nF f) _ (nF f) = _; rw [pk_us]
      · rw [hof k j (by omega) hj, ← hS.2.2.2 k (by omega) j hj]
        rcases (show j = 0 ∨ j = 1 ∨ j = 2 ∨ j = 3 ∨ j = 4 ∨ j = 5 by omega) with rfl | rfl | rfl | rfl | rfl | rfl
        · show upd (S.2.1 2) (nF f) _ k = _; rw [pk_un c]
        · show upd (S.2.1 3) (nF f) _ k = _; rw [pk_un c]
        · show upd (S.2.1 4) (nF f) _ k = _; rw [pk_un c]
        · show upd (S.2.1 5) (nF f) _ k = _; rw [pk_un c]
        · show upd (S.2.1 6) (nF f) _ k = _; rw [pk_un c]
        · show upd (S.2.1 7) (nF f) _ k = _; rw [pk_un c]
theorem opC_0 {f : Nat → Int32} {x : Int32} {b : Bool} {pr q mi : Int32} (h : opC f x b pr q mi = 0) : isF f x = true ∧ (inR pr 1 99 && inR q 1 50 && decide (mi ≤ 60)) = true ∧ (if mi = -1 then decide (f 4 = 1) else decide (f 1 = 20)) = false ∧ (if b = true then decide (fqR f x.toNatClampNeg true (nF f) < pr * q) else decide (fqR f x.toNatClampNeg false (nF f) < q)) = false := by
  unfold opC at h
  by_cases h1 : isF f x = false
  · rw [if_pos h1] at h; exact absurd h (by decide)
  rw [if_neg h1] at h
  by_cases h2 : (inR pr 1 99 && inR q 1 50 && decide (mi ≤ 60)) = false
  · rw [if_pos h2] at h; exact absurd h (by decide)
  rw [if_neg h2] at h
  by_cases h3 : (if mi = -1 then decide (f 4 = 1) else decide (f 1 = 20)) = true
  · rw [if_pos h3] at h; exact absurd h (by decide)
  rw [if_neg h3] at h
  by_cases h4 : (if b = true then decide (fqR f x.toNatClampNeg true (nF f) < pr * q) else decide (fqR f x.toNatClampNeg false (nF f) < q)) = true
  · rw [if_pos h4] at h; exact absurd h (by decide)
  exact ⟨Bool.of_not_eq_false h1, Bool.of_not_eq_false h2, Bool.of_not_eq_true h3, Bool.of_not_eq_true h4⟩
theorem op_free {B : Int} {f : Nat → Int32} (h : Iv B f (fun _ => 0) (fun _ => 0) 0) {x : Int32} {b : Bool} {pr q mi : Int32} (hc : opC f x b pr q mi = 0) :
    x = nI x.toNatClampNeg ∧ x.toNatClampNeg < tF f ∧ (1 ≤ pr.toInt ∧ pr.toInt ≤ 99) ∧ (1 ≤ q.toInt ∧ q.toInt ≤ 50) ∧
    (if b = true then zq (wM x.toNatClampNeg) f + pr.toInt * q.toInt ≤ (sF f x.toNatClampNeg 0).toInt else zq (wD x.toNatClampNeg) f + q.toInt ≤ (sF f x.toNatClampNeg 1).toInt) := by
  obtain ⟨c1, c2, c3, c4⟩ := opC_0 hc
  obtain ⟨e1, e2⟩ := isF_i h.1.1 c1
  rw [Bool.and_eq_true, Bool.and_eq_true, inR_i, inR_i] at c2
  have k1 : (1 : Int32).toInt = 1 := by decide
  have k2 : (99 : Int32).toInt = 99 := by decide
  have k3 : (50 : Int32).toInt = 50 := by decide
  rw [k1, k2, k3] at c2
  have hq := fq_int h e2 b (n := nF f) (Nat.le_refl _)
  refine ⟨e1, e2, c2.1.1, c2.1.2, ?_⟩
  have mm : pr.toInt * q.toInt ≤ 99 * q.toInt := Int.mul_le_mul_of_nonneg_right (by omega) (by omega)
  have m0 : 0 ≤ pr.toInt * q.toInt := Int.mul_nonneg (by omega) (by omega)
  cases b
  · rw [if_neg (by decide)] at c4 ⊢
    rw [if_neg (by decide), if_neg (by decide)] at hq
    have c4 := of_decide_eq_false c4
    rw [i_l, hq.1] at c4
    unfold zq
    omega
  · rw [if_pos rfl] at c4 ⊢
    rw [if_pos rfl, if_pos rfl] at hq
    have c4 := of_decide_eq_false c4
    rw [i_l, hq.1, i_mul (by omega) (by omega)] at c4
    unfold zq
    omega
theorem Rl.nx {S : SV} {f : Nat → Int32} (h : Rl S f) : Rl (sI S 4 (S.1 4 + 1)) (nxF f) := by
  have e : ∀ k, k ≠ 2 → nxF f k = f k := fun k hk => pk_un hk
  have en : nF (nxF f) = nF f := by unfold nF; rw [e 1 (by omega)]
  have et : tF (nxF f) = tF f := by unfold tF; rw [e 0 (by omega)]
  refine ⟨⟨?_, ?_, ?_, ?_, ?_, ?_, ?_, ?_⟩, ?_, fun k hk => ?_, fun k hk j hj => ?_⟩
  · rw [e _ (by omega)]; exact h.1.1
  · rw [e _ (by omega)]; exact h.1.2.1
  · rw [e _ (by omega)]; exact h.1.2.2.1
  · rw [e _ (by omega)]; exact h.1.2.2.2.1
  · unfold nxF; rw [pk_us, ← h.1.2.2.2.2.1]; rfl
  · rw [e _ (by omega)]; exact h.1.2.2.2.2.2.1
  · rw [e _ (by omega)]; exact h.1.2.2.2.2.2.2.1
  · rw [e _ (by omega)]; exact h.1.2.2.2.2.2.2.2
  · rw [e _ (by omega)]; exact h.2.1
  · rw [et]
    have s0 : ∀ j, sF (nxF f) k j = sF f k j := fun j => e _ (by omega)
    rw [s0, s0]
    exact h.2.2.1 k hk
  · rw [en] at hk
    have o0 : oF (nxF f) k j = oF f k j := e _ (by omega)
    rw [o0]
    exact h.2.2.2 k hk j hj
/-- a new order meets the book, or waits for the pool -/
theorem opT_go {B : Int} {f : Nat → Int32} {S : SV} (hS : Rl S f) (h : Iv B f (fun _ => 0) (fun _ => 0) 0) (hB : B + 1 ≤ 40000) {i : Nat} (hi : i < tF f) {b : Bool} {pr q : Int32} (hp : 1 ≤ pr.toInt ∧ pr.toInt ≤ 99) (hq : 1 ≤ q.toInt ∧ q.toInt ≤ 50)
    (hfr : if b = true then zq (wM i) f + pr.toInt * q.toInt ≤ (sF f i 0).toInt else zq (wD i) f + q.toInt ≤ (sF f i 1).toInt) :
    Iv (B + 1) (opT f i b pr q).1 (pM b i pr.toInt (opT f i b pr q).2.toInt) (pD b i (opT f i b pr q).2.toInt) (opT f i b pr q).2.toInt ∧ tF (opT f i b pr q).1 = tF f ∧ nF (opT f i b pr q).1 ≤ nF f ∧ (0 ≤ (opT f i b pr q).2.toInt ∧ (opT f i b pr q).2.toInt ≤ q.toInt) ∧ ((opT f i b pr q).1 2).toInt = (f 2).toInt + 1 ∧
    (∀ k, k < nF (opT f i b pr q).1 → (oF (opT f i b pr q).1 k 0).toInt < (f 2).toInt) ∧ (plL S b (nI i) pr q).2 = (opT f i b pr q).2 ∧ Rl (plL S b (nI i) pr q).1 (opT f i b pr q).1 := by
  obtain ⟨a1, a2, a3, a4, a5⟩ := nx_ok h hB hi hp hq hfr
  have hN : ∀ k, k < nF (nxF f) → (oF (nxF f) k 0).toInt < (f 2).toInt := fun k hk => by
    have o0 : oF (nxF f) k 0 = oF f k 0 := a2 _ (by omega)
    rw [a4] at hk
    rw [o0]
    exact (h.1.2.1 k hk).2.2.2.2.2
  have r0 := hS.nx
  have hlen := h.1.1.2.1
  unfold opT plL
  rw [a2 4 (by omega), hS.1.2.2.1]
  rcases h.2.1 with e | e
  · rw [e, if_neg (show ¬ (0 : Int32) = 1 by decide), if_pos rfl]
    obtain ⟨r1, r2, r3, r4, r5, r6, r7, r8, r9⟩ := mt_run hp (w := 20) (v := 21) (by omega) (by omega) (by rw [a5]; exact hi) r0 ⟨by omega, hq.2⟩ a1
    refine ⟨r1, r2.trans a5, by omega, r5, by rw [r7]; exact a3, r9 _ hN, ?_, r3⟩
    show q - (q - (tnR b (nI i) pr 20 (sI S 4 (S.1 4 + 1)) q).2) = _
    rw [r4]
    generalize (mtR b i pr 21 (nxF f) q).2 = y
    rw [Int32.sub_eq_add_neg, Int32.neg_sub, Int32.sub_eq_add_neg, ← Int32.add_assoc, Int32.add_comm q y, Int32.add_assoc, Int32.add_right_neg, Int32.add_zero]
  · rw [e, if_pos rfl, if_neg (show ¬ (1 : Int32) = 0 by decide)]
    exact ⟨a1, a5, by rw [a4]; exact Nat.le_refl _, ⟨by dsimp only; omega, Int.le_refl _⟩, a3, hN, rfl, r0⟩
def opG (f : Nat → Int32) (i : Nat) (b : Bool) (pr q mi : Int32) : Nat → Int32 := if (opT f i b pr q).2 ≤ 0 then (opT f i b pr q).1 else opW (opT f i b pr q).1 (f 2) i b pr (opT f i b pr q).2 mi
theorem place_ok {B : Int} {f : Nat → Int32} {S : SV} (hS : Rl S f) (h : Iv B f (fun _ => 0) (fun _ => 0) 0) (hB : B + 1 ≤ 40000) {x : Int32} {b : Bool} {pr q mi : Int32} (hc : opC f x b pr q mi = 0) (hm : 0 ≤ mi.toInt ∧ mi.toInt ≤ 60) :
    nO S < 20 ∧ Iv (B + 1) (opG f x.toNatClampNeg b pr q mi) (fun _ => 0) (fun _ => 0) 0 ∧ Rl (plS S b x pr q mi) (opG f x.toNatClampNeg b pr q mi) ∧ ∀ U : MV_, U.2 0 = f → opM U x b pr q mi = (mR U 0 (opG f x.toNatClampNeg b pr q mi), f 2) := by
  obtain ⟨e1, e2, e3, e4, e5⟩ := op_free h hc
  obtain ⟨-, -, c3, -⟩ := opC_0 hc
  have m1 : ¬ mi = -1 := fun e => by
    rw [e] at hm
    exact absurd hm.1 (by decide)
  rw [if_neg m1] at c3
  have c3 := of_decide_eq_false c3
  have hlen := h.1.1.2.1
  have hn : nF f < 20 := by
    by_cases c : nF f = 20
    · exfalso
      apply c3
      rw [h.1.1.1, c]
      rfl
    · omega
  obtain ⟨t1, t2, t3, t4, t5, t6, t7, t8⟩ := opT_go hS h hB e2 e3 e4 e5
  rw [← e1] at t7 t8
  have hu : ∀ U : MV_, U.2 0 = f → opM U x b pr q mi = (mR U 0 (opG f x.toNatClampNeg b pr q mi), f 2) := fun U hU => by
    unfold opM opE opG
    rw [hU, if_pos hc, if_neg m1]
    split <;> rfl
  refine ⟨by rw [hS.n]; exact hn, ?_, ?_, hu⟩
  · unfold opG
    by_cases c : (opT f x.toNatClampNeg b pr q).2 ≤ 0
    · rw [if_pos c]; exact t1.weak
    · rw [if_neg c]
      rw [i_le, i_0] at c
      exact (opW_ok t1 (by rw [t2]; exact e2) (by omega) e3 ⟨by omega, by omega⟩ hm ⟨h.2.2.2.2.2.2.1, by rw [t5]; omega⟩ t6).1
  · unfold opG plS
    rw [t7]
    by_cases c : (opT f x.toNatClampNeg b pr q).2 ≤ 0
    · rw [if_pos c, if_pos c]; exact t8
    · rw [if_neg c, if_neg c]
      rw [i_le, i_0] at c
      have := (opW_ok t1 (by rw [t2]; exact e2) (by omega) e3 ⟨by omega, by omega⟩ hm ⟨h.2.2.2.2.2.2.1, by rw [t5]; omega⟩ t6).2 _ t8
      rw [← e1] at this
      rw [hS.1.2.2.2.2.1]
      exact this
theorem take_ok {B : Int} {f : Nat → Int32} {S : SV} (hS : Rl S f) (h : Iv B f (fun _ => 0) (fun _ => 0) 0) (hB : B + 1 ≤ 40000) {x : Int32} {b : Bool} {pr q : Int32} (hc : opC f x b pr q (-1) = 0) :
    Iv (B + 1) (opT f x.toNatClampNeg b pr q).1 (fun _ => 0) (fun _ => 0) 0 ∧ Rl (tkS S b x pr q).1 (opT f x.toNatClampNeg b pr q).1 ∧ (∀ U : MV_, U.2 0 = f → opM U x b pr q (-1) = (mR U 0 (opT f x.toNatClampNeg b pr q).1, q - (opT f x.toNatClampNeg b pr q).2)) ∧ q - (tkS S b x pr q).2 = q - (opT f x.toNatClampNeg b pr q).2 := by
  obtain ⟨e1, e2, e3, e4, e5⟩ := op_free h hc
  obtain ⟨-, -, c3, -⟩ := opC_0 hc
  rw [if_pos rfl] at c3
  have c3 := of_decide_eq_false c3
  have c4 : S.1 2 = 0 := by
    rw [hS.1.2.2.1]
    exact h.2.1.resolve_right c3
  obtain ⟨t1, t2, t3, t4, t5, t6, t7, t8⟩ := opT_go hS h hB e2 e3 e4 e5
  rw [← e1] at t7 t8
  have eP : plL S b x pr q = ((tkS S b x pr q).1, q - (q - (tkS S b x pr q).2)) := by unfold plL tkS; rw [if_pos c4]
  rw [eP] at t7 t8
  dsimp only at t7 t8
  refine ⟨t1.weak, t8, fun U hU => ?_, ?_⟩
  · unfold opM opE
    rw [hU, if_pos hc, if_pos rfl]
  · rw [← t7]
    generalize (tkS S b x pr q).2 = y
    have e : q - (q - y) = y := by
      rw [Int32.sub_eq_add_neg, Int32.neg_sub, Int32.sub_eq_add_neg, ← Int32.add_assoc, Int32.add_comm q y, Int32.add_assoc, Int32.add_right_neg, Int32.add_zero]
    rw [e]
