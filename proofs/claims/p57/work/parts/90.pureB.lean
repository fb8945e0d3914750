/-! Lines: the same signs -/
def c7 (x : Int32) : Prop := ∃ k : Nat, k < 128 ∧ x = nI k
theorem c7_nar {x : Int32} (h : c7 x) : vp_nar .char x = x := by
  obtain ⟨k, hk, rfl⟩ := h
  have key : ∀ k, k < 128 → vp_nar .char (nI k) = nI k := by decide +kernel
  exact key k hk
theorem c7_ch {x : Int32} (h : c7 x) : isCh x := by
  obtain ⟨k, hk, rfl⟩ := h
  exact ⟨k, by omega, rfl⟩
theorem c7_all {L : List Int32} (h : ∀ x, x ∈ L → c7 x) : chL L := fun j hj => by
  have e : L.getD j 0 = L[j] := by rw [List.getD_eq_getElem?_getD, List.getElem?_eq_getElem hj]; rfl
  rw [e]
  exact h _ (List.getElem_mem hj)
theorem dgL_c7 : ∀ {t n : Nat} {x : Int32}, x ∈ dgL t n → c7 x
  | 0, n, x, h => by
    rw [show dgL 0 n = [nI (48 + n % 10)] from rfl, List.mem_singleton] at h
    exact ⟨_, by omega, h⟩
  | t + 1, n, x, h => by
    unfold dgL at h
    split at h
    · rw [List.mem_singleton] at h
      exact ⟨_, by omega, h⟩
    · rw [List.mem_append, List.mem_singleton] at h
      rcases h with h | h
      · exact dgL_c7 h
      · exact ⟨_, by omega, h⟩
theorem puL_at : ∀ {L : List Int32} {f : Nat → Int32} {k : Nat}, (∀ x, x ∈ L → c7 x) → ∀ j, puL f k L j = if k ≤ j ∧ j < k + L.length then L.getD (j - k) 0 else f j
  | [], f, k, _, j => by
    rw [if_neg (by rw [List.length_nil]; omega)]
    rfl
  | x :: L, f, k, h, j => by
    show puL (upd f k (vp_nar .char x)) (k + 1) L j = _
    rw [puL_at (fun y hy => h y (List.mem_cons_of_mem _ hy)), c7_nar (h x (List.mem_cons_self ..)), List.length_cons]
    by_cases c : k + 1 ≤ j ∧ j < k + 1 + L.length
    · rw [if_pos c, if_pos (by omega), show j - k = (j - (k + 1)) + 1 by omega]
      rfl
    · rw [if_neg c]
      by_cases d : j = k
      · rw [d, pk_us, if_pos (by omega), Nat.sub_self]
        rfl
      · rw [pk_un d, if_neg (by omega)]
theorem okL_ok {B : Int} {f : Nat → Int32} (h : Iv B f (fun _ => 0) (fun _ => 0) 0) : okL f := by
  have hB := h.2.2.2.2.2
  have nat : ∀ x : Int32, 0 ≤ x.toInt → x.toInt < 100000 → ∃ a, a < 100000 ∧ x = nI a := fun x h1 h2 => ⟨x.toInt.toNat, by omega, i_ext (by rw [i_nI (by omega)]; omega)⟩
  refine ⟨fun q hq => ?_, fun b j hj => ?_⟩
  · obtain ⟨o2, o3, o4, o5, o0⟩ := h.1.2.1 q hq
    exact ⟨nat _ (by omega) (by omega), nat _ (by omega) (by omega), nat _ (by omega) (by omega)⟩
  · have := (sm_int h.1 b (oF f j 3) (oF f j 3) (Nat.le_refl _)).2
    have := h.1.1.2.1
    exact nat _ (by omega) (by omega)
theorem smN_ok {B : Int} {S : SV} {f : Nat → Int32} (hS : Rl S f) (h : Iv B f (fun _ => 0) (fun _ => 0) 0) : (∀ b j, best S b (nO S) = some j → smN (qAt S b (S.2.1 5 j) (nO S)) ∧ smN (S.2.1 5 j)) ∧ ∀ x j, slotF S x (nO S) = some j → smN x ∧ smN (S.2.1 6 j) ∧ smN (S.2.1 5 j) := by
  have hL := okL_ok h
  refine ⟨fun b j hj => ?_, fun x j hj => ?_⟩
  · rw [hS.n, hS.best h.1 b (Nat.le_refl _)] at hj
    have l := mb_lt hj
    rw [hS.pri l, hS.qAt]
    exact ⟨hL.2 b j hj, (hL.1 j l).2.1⟩
  · rw [hS.find h] at hj
    have l := lst_lt hj
    rw [hS.qua l.1, hS.pri l.1, ← pl_is hj]
    exact ⟨(hL.1 j l.1).1, (hL.1 j l.1).2.2, (hL.1 j l.1).2.1⟩
theorem wr_ok {B : Int} {S : SV} {f : Nat → Int32} (hS : Rl S f) (h : Iv B f (fun _ => 0) (fun _ => 0) 0) {x : Int32} {j : Nat} (hj : plF f x (nF f) = some j) :
    (((dgN x ++ [if buyS S j = true then nI 98 else nI 115]) ++ dgN (S.2.1 6 j)) ++ [nI 120]) ++ dgN (S.2.1 5 j) = wrL f j ∧ (∀ y, y ∈ wrL f j → c7 y) ∧ (wrL f j).length ≤ 40 := by
  have l := lst_lt hj
  have e : (((dgN x ++ [if buyS S j = true then nI 98 else nI 115]) ++ dgN (S.2.1 6 j)) ++ [nI 120]) ++ dgN (S.2.1 5 j) = wrL f j := by
    unfold wrL amL dgN
    rw [hS.buy l.1, hS.qua l.1, hS.pri l.1, pl_is hj]
    simp only [List.append_assoc]
    rfl
  refine ⟨e, fun y hy => ?_, ?_⟩
  · rw [← e] at hy
    simp only [List.mem_append, List.mem_singleton] at hy
    rcases hy with (((hy | hy) | hy) | hy) | hy
    · exact dgL_c7 hy
    · rw [hy]
      split
      · exact ⟨98, by omega, rfl⟩
      · exact ⟨115, by omega, rfl⟩
    · exact dgL_c7 hy
    · exact ⟨120, by omega, hy⟩
    · exact dgL_c7 hy
  · rw [← e]
    have a := dg5 x.toNatClampNeg
    have b := dg5 (S.2.1 6 j).toNatClampNeg
    have c := dg5 (S.2.1 5 j).toNatClampNeg
    simp only [List.length_append, List.length_singleton, dgN]
    omega
theorem sb_ok {B : Int} {S : SV} {f : Nat → Int32} (hS : Rl S f) (h : Iv B f (fun _ => 0) (fun _ => 0) 0) (b : Bool) (L : List Int32) : bsL S b L = L ++ sbL f b ∧ ∀ y, y ∈ sbL f b → c7 y := by
  unfold bsL sbL
  rw [hS.n, hS.best h.1 b (Nat.le_refl _)]
  cases hm : mbF f b (nF f) with
  | none =>
    refine ⟨rfl, fun y hy => ?_⟩
    rw [List.mem_singleton] at hy
    exact ⟨45, by omega, hy⟩
  | some j =>
    have l := mb_lt hm
    refine ⟨?_, fun y hy => ?_⟩
    · show ((L ++ dgN (qAt S b (S.2.1 5 j) (nF f))) ++ [nI 120]) ++ dgN (S.2.1 5 j) = L ++ amL _ _
      rw [hS.pri l, ← hS.n, hS.qAt]
      unfold amL dgN
      simp only [List.append_assoc]
      rw [hS.n]
      rfl
    · unfold amL at hy
      simp only [List.mem_append, List.mem_singleton] at hy
      rcases hy with (hy | hy) | hy
      · exact dgL_c7 hy
      · exact ⟨120, by omega, hy⟩
      · exact dgL_c7 hy
theorem wb_ok {B : Int} {S : SV} {f : Nat → Int32} (hS : Rl S f) (h : Iv B f (fun _ => 0) (fun _ => 0) 0) : bsL S false (bsL S true [] ++ [nI 47]) = wbL f ∧ (∀ y, y ∈ wbL f → c7 y) ∧ (wbL f).length ≤ 40 := by
  have a := sb_ok hS h true []
  have b := sb_ok hS h false (bsL S true [] ++ [nI 47])
  refine ⟨by rw [b.1, a.1]; rfl, fun y hy => ?_, ?_⟩
  · unfold wbL at hy
    simp only [List.mem_append, List.mem_singleton] at hy
    rcases hy with (hy | hy) | hy
    · exact a.2 y hy
    · exact ⟨47, by omega, hy⟩
    · exact b.2 y hy
  · have l1 := sbL_len (f := f) (b := true)
    have l2 := sbL_len (f := f) (b := false)
    unfold wbL
    simp only [List.length_append, List.length_singleton]
    omega
