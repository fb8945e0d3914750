/-! Row: its contracts. What it does to a row that any world holds -/
def radd (n : Nat) (f : Nat → Int32) (i x : Int32) : Nat → Int32 := if 0 ≤ i.toInt ∧ i.toInt < n then upd f i.toNatClampNeg (f i.toNatClampNeg + x) else f
theorem radd_nI {n k : Nat} {f : Nat → Int32} {x : Int32} (h : k < n) (hn : n < 2 ^ 31) : radd n f (nI k) x = upd f k (f k + x) := by
  have h1 := nI_toInt (n := k) (by omega)
  rw [radd, if_pos (by omega), nI_clamp (by omega)]
def rsum (n : Nat) (f : Nat → Int32) : Int32 := fr (fun k s => s + f k) n 0
/-- the gap at i closed: those behind move up, a 0 follows them -/
def rgap (n : Nat) (f : Nat → Int32) (i : Nat) : Nat → Int32 := fun j => if j < i ∨ n ≤ j then f j else if j + 1 = n then 0 else f (j + 1)
def rclr (n : Nat) (f : Nat → Int32) : Nat → Int32 := fun j => if j < n then 0 else f j
theorem cell_same {cA : ClassId} {n : Nat} {f g : Nat → Int32} (h : ∀ j, j < n → f j = g j) : vp_cell cA (n, .inl f) = vp_cell cA (n, .inl g) := by
  have e : arrSlots n f = arrSlots n g := by
    unfold arrSlots
    congr 1
    funext j
    rw [h j.val j.isLt]
  show ({ cls := cA, slots := _, vm := .none } : Cell) = _
  simp only [vp_cell]
  first | (rw [show arrCell cA n f = arrCell cA n g from by unfold arrCell; rw [e]]) | (congr 1)
theorem row_same {G : Gx} {W : (Nat → Int32) → va_W} {q0 q1 r c n : Nat} (hR : RowW G W q0 q1 r c n) {f g : Nat → Int32} (h : ∀ j, j < n → f j = g j) {s : State} {H : Heap} {locs : List Loc} (hw : WH G s (W f) H locs) : WH G s (W g) H locs := by
  obtain ⟨h1, h2, hP, hD⟩ := hw
  have e := hR.2.2 f g
  refine ⟨h1, h2, ?_, ?_⟩
  · rw [← e]
    intro k q hk
    by_cases hkq : k = q1
    · subst hkq
      have hl := (List.getElem?_eq_some_iff.mp (hR.2.1 f)).1
      rw [List.getElem?_set_self hl] at hk
      cases hk
      have h3 := hP _ _ (hR.2.1 f)
      show H[c]? = some (vp_cell _ (n, .inl g))
      rw [← cell_same h]
      exact h3
    · rw [List.getElem?_set_ne (Ne.symm hkq)] at hk
      exact hP k q hk
  · rw [← e]
    exact va_D.set hD (hR.2.1 f)

set_option maxHeartbeats 4000000 in
set_option maxRecDepth 100000 in
theorem k7_get {l : Launch} {G : Gx} (hF : SF l G) {W : (Nat → Int32) → va_W} {q0 q1 r c n : Nat} (hR : RowW G W q0 q1 r c n) (hn : n < 2 ^ 31) {w0 : va_W} {f : Nat → Int32} (e0 : W f = w0) (i : Int32) : MI l G yX7_get cX7_get 2 .int 0 0 0 [.ref r, .int i] w0 (fun x (_ : Unit) => x = rget n f i) (fun _ => w0) := by
  subst e0
  refine mt_of hF (by decide) (Nat.le_of_ble_eq_true rfl) ?_
  intro p e s m below meth c0 C hin ls hl H locs hw
  have hl : lv_has ls 2 [(0, .ref r), (1, .int i)] := hl
  refine lv_iload_n C.1 C.2.1 dX7_get_0 rfl (lv_at hl 1 rfl) ?_
  refine lv_if_lt (tgt := 22) C.1 C.2.1 dX7_get_1 (by decide) (fun c_1 => ?_) (fun c_1 => ?_)
  · refine lv_iconst (v := 0) C.1 C.2.1 dX7_get_22 (by decide) ?_
    exact r_iret C hw rfl rfl () (by rw [rget, if_neg (by have := i_lt0 c_1; omega)]) rfl (Nat.le_of_ble_eq_true rfl) (Nat.le_of_ble_eq_true rfl) dX7_get_23
  · refine lv_iload_n C.1 C.2.1 dX7_get_4 rfl (lv_at hl 1 rfl) ?_
    refine lv_aload_n C.1 C.2.1 dX7_get_5 rfl (lv_at hl 0 rfl) ?_
    refine r_get C hw q0 (hR.1 f) rfl in_X7 0 (by decide) fl_X7_13 rfl (v := .ref c) rfl dX7_get_6 ?_
    refine r_alen C hw 0 q1 (hR.2.1 f) rfl dX7_get_9 ?_
    refine lv_icmp_ge (tgt := 22) C.1 C.2.1 dX7_get_10 (by decide) (fun c_10 => ?_) (fun c_10 => ?_)
    · refine lv_iconst (v := 0) C.1 C.2.1 dX7_get_22 (by decide) ?_
      exact r_iret C hw rfl rfl () (by rw [rget, if_neg (by have := i_ge hn c_10; omega)]) rfl (Nat.le_of_ble_eq_true rfl) (Nat.le_of_ble_eq_true rfl) dX7_get_23
    · refine lv_aload_n C.1 C.2.1 dX7_get_13 rfl (lv_at hl 0 rfl) ?_
      refine r_get C hw q0 (hR.1 f) rfl in_X7 0 (by decide) fl_X7_13 rfl (v := .ref c) rfl dX7_get_14 ?_
      refine lv_iload_n C.1 C.2.1 dX7_get_17 rfl (lv_at hl 1 rfl) ?_
      refine r_iald C hw q1 (hR.2.1 f) (vp_in_iff.mpr ⟨i_ge0 c_1, i_lt hn c_10⟩) dX7_get_18 ?_
      refine lv_goto (tgt := 23) C.1 C.2.1 dX7_get_19 (by decide) ?_
      exact r_iret C hw rfl rfl () (by rw [rget, if_pos ⟨i_ge0 c_1, i_lt hn c_10⟩]) rfl (Nat.le_of_ble_eq_true rfl) (Nat.le_of_ble_eq_true rfl) dX7_get_23

set_option maxHeartbeats 4000000 in
set_option maxRecDepth 100000 in
theorem k7_set {l : Launch} {G : Gx} (hF : SF l G) {W : (Nat → Int32) → va_W} {q0 q1 r c n : Nat} (hR : RowW G W q0 q1 r c n) (hn : n < 2 ^ 31) {w0 : va_W} {f : Nat → Int32} (e0 : W f = w0) (i x : Int32) : MV l G yX7_set cX7_set 3 0 0 0 [.ref r, .int i, .int x] w0 (fun _ : Unit => True) (fun _ => W (rset n f i x)) := by
  subst e0
  refine mt_of hF (by decide) (Nat.le_of_ble_eq_true rfl) ?_
  intro p e s m below meth c0 C hin ls hl H locs hw
  have hl : lv_has ls 3 [(0, .ref r), (1, .int i), (2, .int x)] := hl
  refine lv_iload_n C.1 C.2.1 dX7_set_0 rfl (lv_at hl 1 rfl) ?_
  refine lv_if_lt (tgt := 20) C.1 C.2.1 dX7_set_1 (by decide) (fun c_1 => ?_) (fun c_1 => ?_)
  · exact r_vret C hw rfl () (trivial) (by rw [rset, if_neg (by have := i_lt0 c_1; omega)]) (Nat.le_of_ble_eq_true rfl) (Nat.le_of_ble_eq_true rfl) dX7_set_20
  · refine lv_iload_n C.1 C.2.1 dX7_set_4 rfl (lv_at hl 1 rfl) ?_
    refine lv_aload_n C.1 C.2.1 dX7_set_5 rfl (lv_at hl 0 rfl) ?_
    refine r_get C hw q0 (hR.1 f) rfl in_X7 0 (by decide) fl_X7_13 rfl (v := .ref c) rfl dX7_set_6 ?_
    refine r_alen C hw 0 q1 (hR.2.1 f) rfl dX7_set_9 ?_
    refine lv_icmp_ge (tgt := 20) C.1 C.2.1 dX7_set_10 (by decide) (fun c_10 => ?_) (fun c_10 => ?_)
    · exact r_vret C hw rfl () (trivial) (by rw [rset, if_neg (by have := i_ge hn c_10; omega)]) (Nat.le_of_ble_eq_true rfl) (Nat.le_of_ble_eq_true rfl) dX7_set_20
    · refine lv_aload_n C.1 C.2.1 dX7_set_13 rfl (lv_at hl 0 rfl) ?_
      refine r_get C hw q0 (hR.1 f) rfl in_X7 0 (by decide) fl_X7_13 rfl (v := .ref c) rfl dX7_set_14 ?_
      refine lv_iload_n C.1 C.2.1 dX7_set_17 rfl (lv_at hl 1 rfl) ?_
      refine lv_iload_n C.1 C.2.1 dX7_set_18 rfl (lv_at hl 2 rfl) ?_
      refine r_iast C hw q1 (hR.2.1 f) (vp_in_iff.mpr ⟨i_ge0 c_1, i_lt hn c_10⟩) (w' := W ((upd f i.toNatClampNeg x))) (hR.2.2 f (upd f i.toNatClampNeg x)) dX7_set_19 (fun H locs hw => ?_)
      exact r_vret C hw rfl () (trivial) (by rw [rset, if_pos ⟨i_ge0 c_1, i_lt hn c_10⟩]) (Nat.le_of_ble_eq_true rfl) (Nat.le_of_ble_eq_true rfl) dX7_set_20

set_option maxHeartbeats 4000000 in
set_option maxRecDepth 100000 in
theorem k7_add {l : Launch} {G : Gx} (hF : SF l G) {W : (Nat → Int32) → va_W} {q0 q1 r c n : Nat} (hR : RowW G W q0 q1 r c n) (hn : n < 2 ^ 31) {w0 : va_W} {f : Nat → Int32} (e0 : W f = w0) (i x : Int32) : MV l G yX7_add cX7_add 3 0 0 0 [.ref r, .int i, .int x] w0 (fun _ : Unit => True) (fun _ => W (radd n f i x)) := by
  subst e0
  refine mt_of hF (by decide) (Nat.le_of_ble_eq_true rfl) ?_
  intro p e s m below meth c0 C hin ls hl H locs hw
  have hl : lv_has ls 3 [(0, .ref r), (1, .int i), (2, .int x)] := hl
  refine lv_iload_n C.1 C.2.1 dX7_add_0 rfl (lv_at hl 1 rfl) ?_
  refine lv_if_lt (tgt := 23) C.1 C.2.1 dX7_add_1 (by decide) (fun c_1 => ?_) (fun c_1 => ?_)
  · exact r_vret C hw rfl () (trivial) (by rw [radd, if_neg (by have := i_lt0 c_1; omega)]) (Nat.le_of_ble_eq_true rfl) (Nat.le_of_ble_eq_true rfl) dX7_add_23
  · refine lv_iload_n C.1 C.2.1 dX7_add_4 rfl (lv_at hl 1 rfl) ?_
    refine lv_aload_n C.1 C.2.1 dX7_add_5 rfl (lv_at hl 0 rfl) ?_
    refine r_get C hw q0 (hR.1 f) rfl in_X7 0 (by decide) fl_X7_13 rfl (v := .ref c) rfl dX7_add_6 ?_
    refine r_alen C hw 0 q1 (hR.2.1 f) rfl dX7_add_9 ?_
    refine lv_icmp_ge (tgt := 23) C.1 C.2.1 dX7_add_10 (by decide) (fun c_10 => ?_) (fun c_10 => ?_)
    · exact r_vret C hw rfl () (trivial) (by rw [radd, if_neg (by have := i_ge hn c_10; omega)]) (Nat.le_of_ble_eq_true rfl) (Nat.le_of_ble_eq_true rfl) dX7_add_23
    · refine lv_aload_n C.1 C.2.1 dX7_add_13 rfl (lv_at hl 0 rfl) ?_
      refine r_get C hw q0 (hR.1 f) rfl in_X7 0 (by decide) fl_X7_13 rfl (v := .ref c) rfl dX7_add_14 ?_
      refine lv_iload_n C.1 C.2.1 dX7_add_17 rfl (lv_at hl 1 rfl) ?_
      refine lv_dup2_11 C.1 C.2.1 dX7_add_18 rfl rfl ?_
      refine r_iald C hw q1 (hR.2.1 f) (vp_in_iff.mpr ⟨i_ge0 c_1, i_lt hn c_10⟩) dX7_add_19 ?_
      refine lv_iload_n C.1 C.2.1 dX7_add_20 rfl (lv_at hl 2 rfl) ?_
      refine lv_iadd C.1 C.2.1 dX7_add_21 ?_
      refine r_iast C hw q1 (hR.2.1 f) (vp_in_iff.mpr ⟨i_ge0 c_1, i_lt hn c_10⟩) (w' := W ((upd f i.toNatClampNeg ((f i.toNatClampNeg) + x)))) (hR.2.2 f (upd f i.toNatClampNeg ((f i.toNatClampNeg) + x))) dX7_add_22 (fun H locs hw => ?_)
      exact r_vret C hw rfl () (trivial) (by rw [radd, if_pos ⟨i_ge0 c_1, i_lt hn c_10⟩]) (Nat.le_of_ble_eq_true rfl) (Nat.le_of_ble_eq_true rfl) dX7_add_23

set_option maxHeartbeats 4000000 in
set_option maxRecDepth 100000 in
theorem k7_sum {l : Launch} {G : Gx} (hF : SF l G) {W : (Nat → Int32) → va_W} {q0 q1 r c n : Nat} (hR : RowW G W q0 q1 r c n) (hn : n < 2 ^ 31) {w0 : va_W} {f : Nat → Int32} (e0 : W f = w0) : MI l G yX7_sum cX7_sum 6 .int 0 0 0 [.ref r] w0 (fun x (_ : Unit) => x = rsum n f) (fun _ => w0) := by
  subst e0
  refine mt_of hF (by decide) (Nat.le_of_ble_eq_true rfl) ?_
  intro p e s m below meth c0 C hin ls hl H locs hw
  have hl : lv_has ls 6 [(0, .ref r)] := hl
  refine lv_iconst (v := 0) C.1 C.2.1 dX7_sum_0 (by decide) ?_
  refine lv_istore_n (lv' := [(1, .int 0), (0, .ref r)]) C.1 C.2.1 dX7_sum_1 rfl hl (by decide) rfl (fun ls hl => ?_)
  refine lv_aload_n C.1 C.2.1 dX7_sum_2 rfl (lv_at hl 1 rfl) ?_
  refine r_get C hw q0 (hR.1 f) rfl in_X7 0 (by decide) fl_X7_13 rfl (v := .ref c) rfl dX7_sum_3 ?_
  refine lv_astore_n (lv' := [(2, .ref c), (1, .int 0), (0, .ref r)]) C.1 C.2.1 dX7_sum_6 rfl hl (by decide) rfl (fun ls hl => ?_)
  refine lv_aload_n C.1 C.2.1 dX7_sum_7 rfl (lv_at hl 0 rfl) ?_
  refine r_alen C hw 0 q1 (hR.2.1 f) rfl dX7_sum_8 ?_
  refine lv_istore_n (lv' := [(3, .int (nI n)), (2, .ref c), (1, .int 0), (0, .ref r)]) C.1 C.2.1 dX7_sum_9 rfl hl (by decide) rfl (fun ls hl => ?_)
  refine lv_iconst (v := 0) C.1 C.2.1 dX7_sum_10 (by decide) ?_
  refine lv_istore (lv' := [(4, .int 0), (3, .int (nI n)), (2, .ref c), (1, .int 0), (0, .ref r)]) C.1 C.2.1 dX7_sum_11 hl (by decide) rfl (fun ls hl => ?_)
  refine w_loop (σ := Nat × Int32) G (fun u ⟨k, x1⟩ => k ≤ n ∧ n < k + u ∧ x1 = fr (fun k s => s + f k) k 0) (fun ⟨k, x1⟩ => W f) (fun ⟨k, x1⟩ => 0) (fun ⟨k, x1⟩ => 0) (fun ⟨k, x1⟩ => [(0, .ref r), (1, .int x1), (2, .ref c), (3, .int (nI n)), (4, .int (nI k))]) 6 ?_ ?_ (n + 1) (0, 0) (⟨Nat.zero_le _, by omega, rfl⟩) hw (lv_sub hl [4, 3, 2, 1, 0] rfl)
  · rintro n13 ⟨k, x1⟩ ⟨h1, h2, h3⟩ ih13 H locs hw ls hl
    replace hw : WH G s (W f) H locs := hw
    replace hl : lv_has ls 6 [(0, .ref r), (1, .int x1), (2, .ref c), (3, .int (nI n)), (4, .int (nI k))] := hl
    refine lv_iload C.1 C.2.1 dX7_sum_13 (lv_at hl 4 rfl) ?_
    refine lv_iload_n C.1 C.2.1 dX7_sum_15 rfl (lv_at hl 3 rfl) ?_
    refine lv_icmp_ge (tgt := 36) C.1 C.2.1 dX7_sum_16 (by decide) (fun c_16 => ?_) (fun c_16 => ?_)
    · obtain rfl := le_T h1 hn c_16
      refine lv_iload_n C.1 C.2.1 dX7_sum_36 rfl (lv_at hl 1 rfl) ?_
      exact r_iret C hw rfl rfl () (h3) rfl (Nat.le_of_ble_eq_true rfl) (Nat.le_of_ble_eq_true rfl) dX7_sum_37
    · have hk := le_F h1 hn c_16
      refine lv_aload_n C.1 C.2.1 dX7_sum_19 rfl (lv_at hl 2 rfl) ?_
      refine lv_iload C.1 C.2.1 dX7_sum_20 (lv_at hl 4 rfl) ?_
      refine r_iald C hw q1 (hR.2.1 f) (vp_in_nI hk hn) dX7_sum_22 ?_
      refine r_toe (show _ = f k from congrArg f (nI_clamp (by omega))) ?_
      refine lv_istore (lv' := [(5, .int (f k)), (0, .ref r), (1, .int x1), (2, .ref c), (3, .int (nI n)), (4, .int (nI k))]) C.1 C.2.1 dX7_sum_23 hl (by decide) rfl (fun ls hl => ?_)
      refine lv_iload_n C.1 C.2.1 dX7_sum_25 rfl (lv_at hl 2 rfl) ?_
      refine lv_iload C.1 C.2.1 dX7_sum_26 (lv_at hl 0 rfl) ?_
      refine lv_iadd C.1 C.2.1 dX7_sum_28 ?_
      refine lv_istore_n (lv' := [(1, .int (x1 + (f k))), (5, .int (f k)), (0, .ref r), (2, .ref c), (3, .int (nI n)), (4, .int (nI k))]) C.1 C.2.1 dX7_sum_29 rfl hl (by decide) rfl (fun ls hl => ?_)
      refine lv_iinc (v := nI (k + 1)) (lv' := [(4, .int (nI (k + 1))), (1, .int (x1 + (f k))), (5, .int (f k)), (0, .ref r), (2, .ref c), (3, .int (nI n))]) C.1 C.2.1 dX7_sum_30 hl (k := 5) rfl (inc_nI k) (by decide) rfl (fun ls hl => ?_)
      refine lv_goto (tgt := 13) C.1 C.2.1 dX7_sum_33 (by decide) ?_
      exact ih13 (k + 1, x1 + f k) (⟨by omega, by omega, by rw [h3]; rfl⟩) _ _ hw _ (lv_sub hl [3, 1, 4, 5, 0] rfl)
  · rintro ⟨k, x1⟩ ⟨h1, h2, h3⟩; omega

set_option maxHeartbeats 4000000 in
set_option maxRecDepth 100000 in
theorem k7_clear {l : Launch} {G : Gx} (hF : SF l G) {W : (Nat → Int32) → va_W} {q0 q1 r c n : Nat} (hR : RowW G W q0 q1 r c n) (hn : n < 2 ^ 31) {w0 : va_W} {f : Nat → Int32} (e0 : W f = w0) : MV l G yX7_clear cX7_clear 2 0 0 0 [.ref r] w0 (fun _ : Unit => True) (fun _ => W (rclr n f)) := by
  subst e0
  refine mt_of hF (by decide) (Nat.le_of_ble_eq_true rfl) ?_
  intro p e s m below meth c0 C hin ls hl H locs hw
  have hl : lv_has ls 2 [(0, .ref r)] := hl
  refine lv_iconst (v := 0) C.1 C.2.1 dX7_clear_0 (by decide) ?_
  refine lv_istore_n (lv' := [(1, .int 0), (0, .ref r)]) C.1 C.2.1 dX7_clear_1 rfl hl (by decide) rfl (fun ls hl => ?_)
  replace hw : WH G s (W (rpre 0 (fun _ => 0) f)) H locs := hw.to (congrArg W rpre_0)
  refine w_loop (σ := Nat) G (fun u k => k ≤ n ∧ n < k + u) (fun k => W (rpre k (fun _ => 0) f)) (fun k => 0) (fun k => 0) (fun k => [(0, .ref r), (1, .int (nI k))]) 2 ?_ ?_ (n + 1) 0 (⟨Nat.zero_le _, by omega⟩) hw (lv_sub hl [1, 0] rfl)
  · rintro n2 k ⟨h1, h2⟩ ih2 H locs hw ls hl
    replace hw : WH G s (W (rpre k (fun _ => 0) f)) H locs := hw
    replace hl : lv_has ls 2 [(0, .ref r), (1, .int (nI k))] := hl
    refine lv_iload_n C.1 C.2.1 dX7_clear_2 rfl (lv_at hl 1 rfl) ?_
    refine lv_aload_n C.1 C.2.1 dX7_clear_3 rfl (lv_at hl 0 rfl) ?_
    refine r_get C hw q0 (hR.1 (rpre k (fun _ => 0) f)) rfl in_X7 0 (by decide) fl_X7_13 rfl (v := .ref c) rfl dX7_clear_4 ?_
    refine r_alen C hw 0 q1 (hR.2.1 (rpre k (fun _ => 0) f)) rfl dX7_clear_7 ?_
    refine lv_icmp_ge (tgt := 24) C.1 C.2.1 dX7_clear_8 (by decide) (fun c_8 => ?_) (fun c_8 => ?_)
    · obtain rfl := le_T h1 hn c_8
      exact r_vret C hw rfl () (trivial) rfl (Nat.le_of_ble_eq_true rfl) (Nat.le_of_ble_eq_true rfl) dX7_clear_24
    · have hk := le_F h1 hn c_8
      refine lv_aload_n C.1 C.2.1 dX7_clear_11 rfl (lv_at hl 0 rfl) ?_
      refine r_get C hw q0 (hR.1 (rpre k (fun _ => 0) f)) rfl in_X7 0 (by decide) fl_X7_13 rfl (v := .ref c) rfl dX7_clear_12 ?_
      refine lv_iload_n C.1 C.2.1 dX7_clear_15 rfl (lv_at hl 1 rfl) ?_
      refine lv_iconst (v := 0) C.1 C.2.1 dX7_clear_16 (by decide) ?_
      refine r_iast C hw q1 (hR.2.1 (rpre k (fun _ => 0) f)) (vp_in_nI hk hn) (w' := W ((upd (rpre k (fun _ => 0) f) (nI k).toNatClampNeg 0))) (hR.2.2 (rpre k (fun _ => 0) f) (upd (rpre k (fun _ => 0) f) (nI k).toNatClampNeg 0)) dX7_clear_17 (fun H locs hw => ?_)
      replace hw : WH G s (W (rpre (k + 1) (fun _ => 0) f)) H locs := hw.to (congrArg W (by rw [nI_clamp (show k < 2 ^ 31 by omega)]; exact rpre_s rfl))
      refine lv_iinc (v := nI (k + 1)) (lv' := [(1, .int (nI (k + 1))), (0, .ref r)]) C.1 C.2.1 dX7_clear_18 hl (k := 1) rfl (inc_nI k) (by decide) rfl (fun ls hl => ?_)
      refine lv_goto (tgt := 2) C.1 C.2.1 dX7_clear_21 (by decide) ?_
      exact ih2 (k + 1) (⟨by omega, by omega⟩) _ _ hw _ (lv_sub hl [1, 0] rfl)
  · rintro k ⟨h1, h2⟩; omega

theorem rgap_e {n i k : Nat} {f : Nat → Int32} (hi : i < n) (hk : k + 1 = n) : upd (rmid i k f) (n - 1) 0 = rgap n f i := by
  funext j
  simp only [upd, rmid, rgap]
  by_cases h1 : j = n - 1
  · rw [if_pos h1, if_neg (by omega), if_pos (by omega)]
  · rw [if_neg h1]
    by_cases h2 : i ≤ j ∧ j < k
    · rw [if_pos h2, if_neg (by omega), if_neg (by omega)]
    · rw [if_neg h2, if_pos (by omega)]
set_option maxHeartbeats 4000000 in
set_option maxRecDepth 100000 in
theorem k7_closeGap {l : Launch} {G : Gx} (hF : SF l G) {W : (Nat → Int32) → va_W} {q0 q1 r c n : Nat} (hR : RowW G W q0 q1 r c n) (hn : n < 2 ^ 31) {i : Nat} (hi : i < n) {w0 : va_W} {f : Nat → Int32} (e0 : W f = w0) : MV l G yX7_closeGap cX7_closeGap 3 0 0 0 [.ref r, .int (nI i)] w0 (fun _ : Unit => True) (fun _ => W (rgap n f i)) := by
  subst e0
  refine mt_of hF (by decide) (Nat.le_of_ble_eq_true rfl) ?_
  intro p e s m below meth c0 C hin ls hl H locs hw
  have hl : lv_has ls 3 [(0, .ref r), (1, .int (nI i))] := hl
  refine lv_iload_n C.1 C.2.1 dX7_closeGap_0 rfl (lv_at hl 1 rfl) ?_
  refine lv_if_lt (tgt := 13) C.1 C.2.1 dX7_closeGap_1 (by decide) (fun c_1 => absurd c_1 (nI_pos (by omega))) (fun c_1 => ?_)
  refine lv_iload_n C.1 C.2.1 dX7_closeGap_4 rfl (lv_at hl 1 rfl) ?_
  refine lv_aload_n C.1 C.2.1 dX7_closeGap_5 rfl (lv_at hl 0 rfl) ?_
  refine r_get C hw q0 (hR.1 f) rfl in_X7 0 (by decide) fl_X7_13 rfl (v := .ref c) rfl dX7_closeGap_6 ?_
  refine r_alen C hw 0 q1 (hR.2.1 f) rfl dX7_closeGap_9 ?_
  refine lv_icmp_lt (tgt := 14) C.1 C.2.1 dX7_closeGap_10 (by decide) (fun c_10 => ?_) (fun c_10 => absurd (nI_lt hi hn) c_10)
  refine lv_iload_n C.1 C.2.1 dX7_closeGap_14 rfl (lv_at hl 1 rfl) ?_
  refine lv_istore_n (lv' := [(2, .int (nI i)), (0, .ref r), (1, .int (nI i))]) C.1 C.2.1 dX7_closeGap_15 rfl hl (by decide) rfl (fun ls hl => ?_)
  replace hw : WH G s (W (rmid i i f)) H locs := hw.to (congrArg W rmid_0)
  refine w_loop (σ := Nat) G (fun u k => i ≤ k ∧ k + 1 ≤ n ∧ n < k + 1 + u) (fun k => W (rmid i k f)) (fun k => 0) (fun k => 0) (fun k => [(0, .ref r), (1, .int (nI i)), (2, .int (nI k))]) 3 ?_ ?_ (n + 1) i (⟨Nat.le_refl _, by omega, by omega⟩) hw (lv_sub hl [1, 2, 0] rfl)
  · rintro n16 k ⟨h0, h1, h2⟩ ih16 H locs hw ls hl
    replace hw : WH G s (W (rmid i k f)) H locs := hw
    replace hl : lv_has ls 3 [(0, .ref r), (1, .int (nI i)), (2, .int (nI k))] := hl
    refine lv_iload_n C.1 C.2.1 dX7_closeGap_16 rfl (lv_at hl 2 rfl) ?_
    refine lv_iconst (v := 1) C.1 C.2.1 dX7_closeGap_17 (by decide) ?_
    refine lv_iadd C.1 C.2.1 dX7_closeGap_18 ?_
    refine r_toe (show _ = nI (k + 1) from nI_1 k) ?_
    refine lv_aload_n C.1 C.2.1 dX7_closeGap_19 rfl (lv_at hl 0 rfl) ?_
    refine r_get C hw q0 (hR.1 (rmid i k f)) rfl in_X7 0 (by decide) fl_X7_13 rfl (v := .ref c) rfl dX7_closeGap_20 ?_
    refine r_alen C hw 0 q1 (hR.2.1 (rmid i k f)) rfl dX7_closeGap_23 ?_
    refine lv_icmp_ge (tgt := 47) C.1 C.2.1 dX7_closeGap_24 (by decide) (fun c_24 => ?_) (fun c_24 => ?_)
    · have hk := le_T h1 hn c_24
      refine lv_aload_n C.1 C.2.1 dX7_closeGap_47 rfl (lv_at hl 0 rfl) ?_
      refine r_get C hw q0 (hR.1 (rmid i k f)) rfl in_X7 0 (by decide) fl_X7_13 rfl (v := .ref c) rfl dX7_closeGap_48 ?_
      refine lv_aload_n C.1 C.2.1 dX7_closeGap_51 rfl (lv_at hl 0 rfl) ?_
      refine r_get C hw q0 (hR.1 (rmid i k f)) rfl in_X7 0 (by decide) fl_X7_13 rfl (v := .ref c) rfl dX7_closeGap_52 ?_
      refine r_alen C hw 0 q1 (hR.2.1 (rmid i k f)) rfl dX7_closeGap_55 ?_
      refine lv_iconst (v := 1) C.1 C.2.1 dX7_closeGap_56 (by decide) ?_
      refine lv_isub C.1 C.2.1 dX7_closeGap_57 ?_
      refine r_toe (show _ = nI (n - 1) from nI_p1 (by omega)) ?_
      refine lv_iconst (v := 0) C.1 C.2.1 dX7_closeGap_58 (by decide) ?_
      refine r_iast C hw q1 (hR.2.1 (rmid i k f)) (vp_in_nI (by omega) hn) (w' := W ((upd (rmid i k f) (nI (n - 1)).toNatClampNeg 0))) (hR.2.2 (rmid i k f) (upd (rmid i k f) (nI (n - 1)).toNatClampNeg 0)) dX7_closeGap_59 (fun H locs hw => ?_)
      exact r_vret C hw rfl () (trivial) (by rw [nI_clamp (show n - 1 < 2 ^ 31 by omega)]; exact congrArg W (rgap_e (by omega) hk)) (Nat.le_of_ble_eq_true rfl) (Nat.le_of_ble_eq_true rfl) dX7_closeGap_60
    · have hk := le_F h1 hn c_24
      refine lv_aload_n C.1 C.2.1 dX7_closeGap_27 rfl (lv_at hl 0 rfl) ?_
      refine r_get C hw q0 (hR.1 (rmid i k f)) rfl in_X7 0 (by decide) fl_X7_13 rfl (v := .ref c) rfl dX7_closeGap_28 ?_
      refine lv_iload_n C.1 C.2.1 dX7_closeGap_31 rfl (lv_at hl 2 rfl) ?_
      refine lv_aload_n C.1 C.2.1 dX7_closeGap_32 rfl (lv_at hl 0 rfl) ?_
      refine r_get C hw q0 (hR.1 (rmid i k f)) rfl in_X7 0 (by decide) fl_X7_13 rfl (v := .ref c) rfl dX7_closeGap_33 ?_
      refine lv_iload_n C.1 C.2.1 dX7_closeGap_36 rfl (lv_at hl 2 rfl) ?_
      refine lv_iconst (v := 1) C.1 C.2.1 dX7_closeGap_37 (by decide) ?_
      refine lv_iadd C.1 C.2.1 dX7_closeGap_38 ?_
      refine r_toe (show _ = nI (k + 1) from nI_1 k) ?_
      refine r_iald C hw q1 (hR.2.1 (rmid i k f)) (vp_in_nI hk hn) dX7_closeGap_39 ?_
      refine r_iast C hw q1 (hR.2.1 (rmid i k f)) (vp_in_nI (by omega) hn) (w' := W ((upd (rmid i k f) (nI k).toNatClampNeg ((rmid i k f) (nI (k + 1)).toNatClampNeg)))) (hR.2.2 (rmid i k f) (upd (rmid i k f) (nI k).toNatClampNeg ((rmid i k f) (nI (k + 1)).toNatClampNeg))) dX7_closeGap_40 (fun H locs hw => ?_)
      replace hw : WH G s (W (rmid i (k + 1) f)) H locs := hw.to (congrArg W (by rw [nI_clamp (show k < 2 ^ 31 by omega), nI_clamp (show k + 1 < 2 ^ 31 by omega)]; exact rmid_s h0))
      refine lv_iinc (v := nI (k + 1)) (lv' := [(2, .int (nI (k + 1))), (0, .ref r), (1, .int (nI i))]) C.1 C.2.1 dX7_closeGap_41 hl (k := 2) rfl (inc_nI k) (by decide) rfl (fun ls hl => ?_)
      refine lv_goto (tgt := 16) C.1 C.2.1 dX7_closeGap_44 (by decide) ?_
      exact ih16 (k + 1) (⟨by omega, by omega, by omega⟩) _ _ hw _ (lv_sub hl [1, 2, 0] rfl)
  · rintro k ⟨h0, h1, h2⟩; omega

set_option maxHeartbeats 4000000 in
set_option maxRecDepth 100000 in
theorem k7_copyFrom {l : Launch} {G : Gx} (hF : SF l G) {W : (Nat → Int32) → va_W} {q0 q1 r c n : Nat} (hR : RowW G W q0 q1 r c n) (hn : n < 2 ^ 31) {w0 : va_W} {f : Nat → Int32} (e0 : W f = w0) {q2 q3 o oc : Nat} {g : Nat → Int32} (hO : (∀ f, (W f)[q2]? = some (o, .inr (9, [.ref oc]))) ∧ ∀ f, (W f)[q3]? = some (oc, .inl (G.2.2.1 0, n, .inl g))) : MV l G yX7_copyFrom cX7_copyFrom 3 0 0 0 [.ref r, .ref o] w0 (fun _ : Unit => True) (fun _ => W g) := by
  subst e0
  refine mt_of hF (by decide) (Nat.le_of_ble_eq_true rfl) ?_
  intro p e s m below meth c0 C hin ls hl H locs hw
  have hl : lv_has ls 3 [(0, .ref r), (1, .ref o)] := hl
  refine lv_iconst (v := 0) C.1 C.2.1 dX7_copyFrom_0 (by decide) ?_
  refine lv_istore_n (lv' := [(2, .int 0), (0, .ref r), (1, .ref o)]) C.1 C.2.1 dX7_copyFrom_1 rfl hl (by decide) rfl (fun ls hl => ?_)
  replace hw : WH G s (W (rpre 0 g f)) H locs := hw.to (congrArg W rpre_0)
  refine w_loop (σ := Nat) G (fun u k => k ≤ n ∧ n < k + u) (fun k => W (rpre k g f)) (fun k => 0) (fun k => 0) (fun k => [(0, .ref r), (1, .ref o), (2, .int (nI k))]) 3 ?_ ?_ (n + 1) 0 (⟨Nat.zero_le _, by omega⟩) hw (lv_sub hl [1, 2, 0] rfl)
  · rintro n2 k ⟨h1, h2⟩ ih2 H locs hw ls hl
    replace hw : WH G s (W (rpre k g f)) H locs := hw
    replace hl : lv_has ls 3 [(0, .ref r), (1, .ref o), (2, .int (nI k))] := hl
    refine lv_iload_n C.1 C.2.1 dX7_copyFrom_2 rfl (lv_at hl 2 rfl) ?_
    refine lv_aload_n C.1 C.2.1 dX7_copyFrom_3 rfl (lv_at hl 0 rfl) ?_
    refine r_get C hw q0 (hR.1 (rpre k g f)) rfl in_X7 0 (by decide) fl_X7_13 rfl (v := .ref c) rfl dX7_copyFrom_4 ?_
    refine r_alen C hw 0 q1 (hR.2.1 (rpre k g f)) rfl dX7_copyFrom_7 ?_
    refine lv_icmp_ge (tgt := 38) C.1 C.2.1 dX7_copyFrom_8 (by decide) (fun c_8 => ?_) (fun c_8 => ?_)
    · have hk := le_T h1 hn c_8
      replace hw : WH G s (W g) H locs := row_same hR (fun j hj => by rw [rpre, if_pos (by omega)]) hw
      exact r_vret C hw rfl () (trivial) rfl (Nat.le_of_ble_eq_true rfl) (Nat.le_of_ble_eq_true rfl) dX7_copyFrom_38
    · have hk := le_F h1 hn c_8
      refine lv_iload_n C.1 C.2.1 dX7_copyFrom_11 rfl (lv_at hl 2 rfl) ?_
      refine lv_aload_n C.1 C.2.1 dX7_copyFrom_12 rfl (lv_at hl 1 rfl) ?_
      refine r_get C hw q2 (hO.1 (rpre k g f)) rfl in_X7 0 (by decide) fl_X7_13 rfl (v := .ref oc) rfl dX7_copyFrom_13 ?_
      refine r_alen C hw 0 q3 (hO.2 (rpre k g f)) rfl dX7_copyFrom_16 ?_
      refine lv_icmp_ge (tgt := 38) C.1 C.2.1 dX7_copyFrom_17 (by decide) (fun c_17 => absurd c_17 (nI_ge hk hn)) (fun c_17 => ?_)
      refine lv_aload_n C.1 C.2.1 dX7_copyFrom_20 rfl (lv_at hl 0 rfl) ?_
      refine r_get C hw q0 (hR.1 (rpre k g f)) rfl in_X7 0 (by decide) fl_X7_13 rfl (v := .ref c) rfl dX7_copyFrom_21 ?_
      refine lv_iload_n C.1 C.2.1 dX7_copyFrom_24 rfl (lv_at hl 2 rfl) ?_
      refine lv_aload_n C.1 C.2.1 dX7_copyFrom_25 rfl (lv_at hl 1 rfl) ?_
      refine r_get C hw q2 (hO.1 (rpre k g f)) rfl in_X7 0 (by decide) fl_X7_13 rfl (v := .ref oc) rfl dX7_copyFrom_26 ?_
      refine lv_iload_n C.1 C.2.1 dX7_copyFrom_29 rfl (lv_at hl 2 rfl) ?_
      refine r_iald C hw q3 (hO.2 (rpre k g f)) (vp_in_nI hk hn) dX7_copyFrom_30 ?_
      refine r_iast C hw q1 (hR.2.1 (rpre k g f)) (vp_in_nI hk hn) (w' := W ((upd (rpre k g f) (nI k).toNatClampNeg (g (nI k).toNatClampNeg)))) (hR.2.2 (rpre k g f) (upd (rpre k g f) (nI k).toNatClampNeg (g (nI k).toNatClampNeg))) dX7_copyFrom_31 (fun H locs hw => ?_)
      replace hw : WH G s (W (rpre (k + 1) g f)) H locs := hw.to (congrArg W (by rw [nI_clamp (show k < 2 ^ 31 by omega)]; exact rpre_s rfl))
      refine lv_iinc (v := nI (k + 1)) (lv' := [(2, .int (nI (k + 1))), (0, .ref r), (1, .ref o)]) C.1 C.2.1 dX7_copyFrom_32 hl (k := 2) rfl (inc_nI k) (by decide) rfl (fun ls hl => ?_)
      refine lv_goto (tgt := 2) C.1 C.2.1 dX7_copyFrom_35 (by decide) ?_
      exact ih2 (k + 1) (⟨by omega, by omega⟩) _ _ hw _ (lv_sub hl [1, 2, 0] rfl)
  · rintro k ⟨h1, h2⟩; omega

