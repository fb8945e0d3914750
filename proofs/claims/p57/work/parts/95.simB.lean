/-! Undo, snapshots, text and lines side by side -/
theorem cpy_at {f g : Nat → Int32} {s j : Nat} (hj : j < 147) : va_cpy f g s 0 147 j = f (s + j) := by
  rw [pk_cpy_in (by omega) (by omega), show s + (j - 0) = s + j by omega]
theorem sim_undo {c : Int} {D : CD} {U : MV_} (h : Sm c D U) : (D.dp = 0 → (unM U D.dp).1.1 2 = 1 ∧ Sm c D (unM U D.dp).1) ∧ (D.dp ≠ 0 → (unM U D.dp).1.1 2 = 0 ∧ (unM U D.dp).2 = nI (D.dp - 1) ∧ Sm c (cdm (D.V D.nw) D.B D.N D.V (rgP D.nw) (D.dp - 1) D.f D.g D.ut D.LT D.vb D.p0 D.gp D.ul D.LL D.F) (unM U D.dp).1) := by
  have hdp := h.dp
  have hnw := h.nw
  unfold unM
  refine ⟨fun e => ?_, fun e => ?_⟩
  · rw [if_pos e]
    exact ⟨rfl, h.thr 1⟩
  · rw [if_neg e]
    have p0 := h.ps 0 (by omega)
    rw [rgI_0 hnw] at p0
    have er : ∀ j, j < 147 → va_cpy (U.2 3) (U.2 0) (147 * (D.dp - 1)) 0 147 j = pst (U.2 3) (D.dp - 1 - 0) j := fun j hj => cpy_at hj
    refine ⟨rfl, rfl, ?_⟩
    exact Sm.mk (p0.1.ext p0.2.1.1 er) (p0.2.ext er) (by show rgP D.nw < 8; unfold rgP; split <;> omega) (by show D.dp - 1 ≤ 8; omega) (rfl) (fun i hi => by
              have hi : i < D.dp - 1 := hi
              have := h.ps (i + 1) (by omega)
              rw [← rgI_p hnw (by omega)] at this
              show Rl (D.V (rgI (rgP D.nw) i)) (pst (U.2 3) (D.dp - 1 - 1 - i)) ∧ Iz c (pst (U.2 3) (D.dp - 1 - 1 - i))
              rw [show D.dp - 1 - 1 - i = D.dp - 1 - (i + 1) by omega]
              exact this) (h.sv) (h.sb) (h.sn) (h.tt) (h.tl) (h.tn) (h.tc) (h.t7) (h.vb) (h.lt) (h.ll) (h.ln) (h.lc) (h.l7) (h.lh) (h.e1) (h.e2)
theorem sim_save {c : Int} {D : CD} {U : MV_} (h : Sm c D U) : (svM U).1.1 2 = 0 ∧ (svM U).2 = D.S.1 1 ∧ Sm c (cdm D.S D.B (D.S) D.V D.nw D.dp D.f D.g D.ut D.LT D.vb D.p0 D.gp D.ul D.LL (va_up D.F 0 1)) (svM U).1 := by
  unfold svM
  have er : ∀ j, j < 147 → va_cpy (U.2 0) (U.2 2) 0 0 147 j = U.2 0 j := fun j hj => by rw [cpy_at hj, Nat.zero_add]
  refine ⟨rfl, h.rl.1.2.1.symm, ?_⟩
  exact Sm.mk (h.rl) (h.iz) (h.nw) (h.dp) (h.pm) (h.ps) (rfl) (Or.inr rfl) (fun _ => ⟨h.rl.ext h.iz.1.1 er, h.iz.ext er⟩) (h.tt) (h.tl) (h.tn) (h.tc) (h.t7) (h.vb) (h.lt) (h.ll) (h.ln) (h.lc) (h.l7) (h.lh) (h.e1) (h.e2)
theorem sim_rest {c : Int} {D : CD} {U : MV_} (h : Sm c D U) : (D.F 0 = 0 → (reM U).1.1 2 = 1 ∧ Sm c D (reM U).1) ∧ (D.F 0 ≠ 0 → (reM U).1.1 2 = 0 ∧ (reM U).2 = D.N.1 1 ∧ Sm c (cdm (D.N) D.B D.N D.V D.nw (0) D.f D.g D.ut D.LT D.vb D.p0 D.gp D.ul D.LL D.F) (reM U).1) := by
  unfold reM
  rw [h.sv]
  refine ⟨fun e => ?_, fun e => ?_⟩
  · rw [if_pos e]
    exact ⟨rfl, h.thr 1⟩
  · rw [if_neg e]
    obtain ⟨n1, n2⟩ := h.sn e
    have er : ∀ j, j < 147 → va_cpy (U.2 2) (U.2 0) 0 0 147 j = U.2 2 j := fun j hj => by rw [cpy_at hj, Nat.zero_add]
    refine ⟨rfl, (er 1 (by omega)).trans n1.1.2.1.symm, ?_⟩
    exact Sm.mk (n1.ext n2.1.1 er) (n2.ext er) (h.nw) (Nat.zero_le _) (rfl) (fun i hi => absurd hi (Nat.not_lt_zero _)) (h.sv) (h.sb) (h.sn) (h.tt) (h.tl) (h.tn) (h.tc) (h.t7) (h.vb) (h.lt) (h.ll) (h.ln) (h.lc) (h.l7) (h.lh) (h.e1) (h.e2)
theorem c7_of {x : Int32} (h : inR x 32 126 = true) : c7 x := by
  rw [inR_i, show (32 : Int32).toInt = 32 by decide, show (126 : Int32).toInt = 126 by decide] at h
  exact ⟨x.toInt.toNat, by omega, i_ext (by rw [i_nI (by omega)]; omega)⟩
theorem chL_snoc {L : List Int32} {x : Int32} (h : chL L) (hx : c7 x) : chL (L ++ [x]) := fun j hj => by
  rw [List.length_append, List.length_singleton] at hj
  rw [List.getD_eq_getElem?_getD]
  by_cases e : j < L.length
  · rw [List.getElem?_append_left e, ← List.getD_eq_getElem?_getD]
    exact h j e
  · rw [List.getElem?_append_right (by omega), show j - L.length = 0 by omega]
    exact hx
theorem sim_type {c : Int} {D : CD} {U : MV_} (h : Sm c D U) (x : Int32) : (inR x 32 126 = false → (tyM U x D.LT.length).1.1 2 = 1 ∧ Sm c D (tyM U x D.LT.length).1) ∧ (inR x 32 126 = true → 60 ≤ D.LT.length → (tyM U x D.LT.length).1.1 2 = 2 ∧ Sm c D (tyM U x D.LT.length).1) ∧
    (inR x 32 126 = true → D.LT.length < 60 → (tyM U x D.LT.length).1.1 2 = 0 ∧ (tyM U x D.LT.length).2 = nI (D.LT.length + 1) ∧ ∀ z, sbT z (D.LT ++ [x]) → Sm c (cdm D.S D.B D.N D.V D.nw D.dp D.f D.g (z) (D.LT ++ [x]) D.vb D.p0 D.gp D.ul D.LL D.F) (tyM U x D.LT.length).1) := by
  have hl := h.tl
  unfold tyM
  refine ⟨fun e => ?_, fun e e1 => ?_, fun e e1 => ?_⟩
  · rw [if_pos e]; exact ⟨rfl, h.thr 1⟩
  · rw [if_neg (by rw [e]; decide), if_pos (by omega)]; exact ⟨rfl, h.thr 2⟩
  · rw [if_neg (by rw [e]; decide), if_neg (by omega), c7_nar (c7_of e)]
    refine ⟨rfl, rfl, fun z hz => ?_⟩
    have el : (D.LT ++ [x]).length = D.LT.length + 1 := by rw [List.length_append, List.length_singleton]
    exact Sm.mk (h.rl) (h.iz) (h.nw) (h.dp) (h.pm) (h.ps) (h.sv) (h.sb) (h.sn) (hz) (by show (D.LT ++ [x]).length ≤ 60; omega) (by show nI (D.LT.length + 1) = nI (D.LT ++ [x]).length; rw [el]) (fun k hk => by
              have hk : k < (D.LT ++ [x]).length := hk
              show upd (U.2 5) D.LT.length x k = (D.LT ++ [x]).getD k 0
              rw [List.getD_eq_getElem?_getD]
              by_cases e : k = D.LT.length
              · rw [e, pk_us, List.getElem?_append_right (Nat.le_refl _), Nat.sub_self]; rfl
              · rw [pk_un e, List.getElem?_append_left (by omega), h.tc k (by omega), List.getD_eq_getElem?_getD]) (chL_snoc h.t7 (c7_of e)) (h.vb) (h.lt) (h.ll) (h.ln) (h.lc) (h.l7) (h.lh) (h.e1) (h.e2)
/-- a line put down -/
theorem sim_line {c : Int} {D : CD} {U : MV_} (h : Sm c D U) {T : List Int32} (h7 : ∀ y, y ∈ T → c7 y) (hl : T.length ≤ 40) : (syU (mI (mI U 2 0) 3 0) 0 T).1 2 = 0 ∧ ∀ z, sbT z T → Sm c (cdm D.S D.B D.N D.V D.nw D.dp D.f D.g D.ut D.LT D.vb D.p0 D.gp (z) (T) D.F) (syU (mI (mI U 2 0) 3 0) 0 T) := by
  have ep := puL_at (f := U.2 4) (k := 0) h7
  refine ⟨rfl, fun z hz => ?_⟩
  exact Sm.mk (h.rl) (h.iz) (h.nw) (h.dp) (h.pm) (h.ps) (h.sv) (h.sb) (h.sn) (h.tt) (h.tl) (h.tn) (h.tc) (h.t7) (h.vb) (hz) (hl) (by show nI (0 + T.length) = nI T.length; rw [Nat.zero_add]) (fun k hk => by
            have hk : k < T.length := hk
            show puL (U.2 4) 0 T k = T.getD k 0
            rw [ep, if_pos (by omega), Nat.sub_zero]) (c7_all h7) (fun j => by
            show isCh (puL (U.2 4) 0 T j)
            rw [ep]
            split
            · rename_i hj
              obtain ⟨q, hq, e⟩ := c7_all h7 (j - 0) (by omega)
              exact ⟨q, by omega, e⟩
            · exact h.lh j) (h.e1) (h.e2)
theorem sim_wo {c : Int} {D : CD} {U : MV_} (h : Sm c D U) (x : Int32) : (slotF D.S x (nO D.S) = none → (woM U x).1.1 2 = 1 ∧ Sm c D (woM U x).1) ∧
    (∀ j, slotF D.S x (nO D.S) = some j → (woM U x).1.1 2 = 0 ∧ (woM U x).2 = nI ((((dgN x ++ [if buyS D.S j = true then nI 98 else nI 115]) ++ dgN (D.S.2.1 6 j)) ++ [nI 120]) ++ dgN (D.S.2.1 5 j)).length ∧ ∀ z, sbT z ((((dgN x ++ [if buyS D.S j = true then nI 98 else nI 115]) ++ dgN (D.S.2.1 6 j)) ++ [nI 120]) ++ dgN (D.S.2.1 5 j)) → Sm c (cdm D.S D.B D.N D.V D.nw D.dp D.f D.g D.ut D.LT D.vb D.p0 D.gp (z) (((((dgN x ++ [if buyS D.S j = true then nI 98 else nI 115]) ++ dgN (D.S.2.1 6 j)) ++ [nI 120]) ++ dgN (D.S.2.1 5 j))) D.F) (woM U x).1) := by
  unfold woM
  rw [h.rl.find h.iz]
  refine ⟨fun e => ?_, fun j e => ?_⟩
  · rw [e]; exact ⟨rfl, h.thr 1⟩
  · rw [e]
    obtain ⟨w1, w2, w3⟩ := wr_ok h.rl h.iz e
    rw [w1]
    obtain ⟨s1, s2⟩ := sim_line h w2 w3
    exact ⟨s1, by dsimp only; rw [Nat.zero_add], s2⟩
theorem sim_wb {c : Int} {D : CD} {U : MV_} (h : Sm c D U) : (syU (mI (mI U 2 0) 3 0) 0 (wbL (U.2 0))).1 2 = 0 ∧ nI (0 + (wbL (U.2 0)).length) = nI (bsL D.S false (bsL D.S true [] ++ [nI 47])).length ∧ ∀ z, sbT z (bsL D.S false (bsL D.S true [] ++ [nI 47])) → Sm c (cdm D.S D.B D.N D.V D.nw D.dp D.f D.g D.ut D.LT D.vb D.p0 D.gp (z) (bsL D.S false (bsL D.S true [] ++ [nI 47])) D.F) (syU (mI (mI U 2 0) 3 0) 0 (wbL (U.2 0))) := by
  obtain ⟨w1, w2, w3⟩ := wb_ok h.rl h.iz
  rw [w1]
  obtain ⟨s1, s2⟩ := sim_line h w2 w3
  exact ⟨s1, by rw [Nat.zero_add], s2⟩
theorem sim_la {c : Int} {D : CD} {U : MV_} (h : Sm c D U) (x : Int32) : (∀ i, i < D.LL.length → x = nI i → inR x 0 (nI D.LL.length - 1) = true ∧ U.2 4 x.toNatClampNeg = D.LL.getD i 0) ∧ ((x < 0 ∨ ¬ x < nI D.LL.length) → inR x 0 (nI D.LL.length - 1) = false) := by
  have hl := h.ll
  have e0 : (nI D.LL.length).toInt = D.LL.length := i_nI (by omega)
  have e1 : (nI D.LL.length - 1).toInt = (D.LL.length : Int) - 1 := by rw [i_sub (by rw [e0, i_1]; omega) (by rw [e0, i_1]; omega), e0, i_1]
  refine ⟨fun i hi e => ?_, fun e => ?_⟩
  · rw [e]
    refine ⟨by rw [inR_i, e1, i_0, i_nI (by omega)]; omega, ?_⟩
    rw [nI_clamp (by omega)]
    exact h.lc i hi
  · refine Bool.of_not_eq_true fun a => ?_
    rw [inR_i, e1, i_0] at a
    rw [i_l, i_l, e0, i_0] at e
    omega
theorem sim_tx {c : Int} {D : CD} {U : MV_} (h : Sm c D U) : tx D.LT U D.LT.length := ⟨rfl, h.tl, h.tc⟩
