/-! History: a ring of eight states -/
def riW (G : Gx) (r : Nat → Nat → Nat) (V : Nat → SV) : va_W := stW G (r 0) (V 0) ++ (stW G (r 1) (V 1) ++ (stW G (r 2) (V 2) ++ (stW G (r 3) (V 3) ++ (stW G (r 4) (V 4) ++ (stW G (r 5) (V 5) ++ (stW G (r 6) (V 6) ++ (stW G (r 7) (V 7) ++ [])))))))
def hiO (G : Gx) (h : Nat → Nat) (r : Nat → Nat → Nat) (nw dp : Int32) : va_W := [(h 0, .inr (6, [.ref (h 1), .int nw, .int dp])), (h 1, .inl (G.2.2.1 3, 8, .inr (.inr (.inr (.inr (fun i => some (r i 0)))))))]
def hiW (G : Gx) (h : Nat → Nat) (r : Nat → Nat → Nat) (V : Nat → SV) (nw dp : Int32) : va_W := hiO G h r nw dp ++ riW G r V
/-- the ring without its state i -/
def riX (G : Gx) (r : Nat → Nat → Nat) (V : Nat → SV) (i : Nat) : va_W := match i with
  | 0 => stW G (r 1) (V 1) ++ (stW G (r 2) (V 2) ++ (stW G (r 3) (V 3) ++ (stW G (r 4) (V 4) ++ (stW G (r 5) (V 5) ++ (stW G (r 6) (V 6) ++ (stW G (r 7) (V 7) ++ []))))))
  | 1 => stW G (r 0) (V 0) ++ (stW G (r 2) (V 2) ++ (stW G (r 3) (V 3) ++ (stW G (r 4) (V 4) ++ (stW G (r 5) (V 5) ++ (stW G (r 6) (V 6) ++ (stW G (r 7) (V 7) ++ []))))))
  | 2 => stW G (r 0) (V 0) ++ (stW G (r 1) (V 1) ++ (stW G (r 3) (V 3) ++ (stW G (r 4) (V 4) ++ (stW G (r 5) (V 5) ++ (stW G (r 6) (V 6) ++ (stW G (r 7) (V 7) ++ []))))))
  | 3 => stW G (r 0) (V 0) ++ (stW G (r 1) (V 1) ++ (stW G (r 2) (V 2) ++ (stW G (r 4) (V 4) ++ (stW G (r 5) (V 5) ++ (stW G (r 6) (V 6) ++ (stW G (r 7) (V 7) ++ []))))))
  | 4 => stW G (r 0) (V 0) ++ (stW G (r 1) (V 1) ++ (stW G (r 2) (V 2) ++ (stW G (r 3) (V 3) ++ (stW G (r 5) (V 5) ++ (stW G (r 6) (V 6) ++ (stW G (r 7) (V 7) ++ []))))))
  | 5 => stW G (r 0) (V 0) ++ (stW G (r 1) (V 1) ++ (stW G (r 2) (V 2) ++ (stW G (r 3) (V 3) ++ (stW G (r 4) (V 4) ++ (stW G (r 6) (V 6) ++ (stW G (r 7) (V 7) ++ []))))))
  | 6 => stW G (r 0) (V 0) ++ (stW G (r 1) (V 1) ++ (stW G (r 2) (V 2) ++ (stW G (r 3) (V 3) ++ (stW G (r 4) (V 4) ++ (stW G (r 5) (V 5) ++ (stW G (r 7) (V 7) ++ []))))))
  | _ => stW G (r 0) (V 0) ++ (stW G (r 1) (V 1) ++ (stW G (r 2) (V 2) ++ (stW G (r 3) (V 3) ++ (stW G (r 4) (V 4) ++ (stW G (r 5) (V 5) ++ (stW G (r 6) (V 6) ++ []))))))
theorem rp_0 (A0 A1 A2 A3 A4 A5 A6 A7 Z : va_W) : List.Perm (A0 ++ (A1 ++ (A2 ++ (A3 ++ (A4 ++ (A5 ++ (A6 ++ (A7 ++ Z)))))))) (A0 ++ (A1 ++ (A2 ++ (A3 ++ (A4 ++ (A5 ++ (A6 ++ (A7 ++ Z)))))))) := List.Perm.refl _
theorem rp_1 (A0 A1 A2 A3 A4 A5 A6 A7 Z : va_W) : List.Perm (A0 ++ (A1 ++ (A2 ++ (A3 ++ (A4 ++ (A5 ++ (A6 ++ (A7 ++ Z)))))))) (A1 ++ (A0 ++ (A2 ++ (A3 ++ (A4 ++ (A5 ++ (A6 ++ (A7 ++ Z)))))))) := List.perm_append_comm_assoc _ _ _
theorem rp_2 (A0 A1 A2 A3 A4 A5 A6 A7 Z : va_W) : List.Perm (A0 ++ (A1 ++ (A2 ++ (A3 ++ (A4 ++ (A5 ++ (A6 ++ (A7 ++ Z)))))))) (A2 ++ (A0 ++ (A1 ++ (A3 ++ (A4 ++ (A5 ++ (A6 ++ (A7 ++ Z)))))))) := ((List.perm_append_comm_assoc _ _ _).append_left _).trans (List.perm_append_comm_assoc _ _ _)
theorem rp_3 (A0 A1 A2 A3 A4 A5 A6 A7 Z : va_W) : List.Perm (A0 ++ (A1 ++ (A2 ++ (A3 ++ (A4 ++ (A5 ++ (A6 ++ (A7 ++ Z)))))))) (A3 ++ (A0 ++ (A1 ++ (A2 ++ (A4 ++ (A5 ++ (A6 ++ (A7 ++ Z)))))))) := ((((List.perm_append_comm_assoc _ _ _).append_left _).trans (List.perm_append_comm_assoc _ _ _)).append_left _).trans (List.perm_append_comm_assoc _ _ _)
theorem rp_4 (A0 A1 A2 A3 A4 A5 A6 A7 Z : va_W) : List.Perm (A0 ++ (A1 ++ (A2 ++ (A3 ++ (A4 ++ (A5 ++ (A6 ++ (A7 ++ Z)))))))) (A4 ++ (A0 ++ (A1 ++ (A2 ++ (A3 ++ (A5 ++ (A6 ++ (A7 ++ Z)))))))) := ((((((List.perm_append_comm_assoc _ _ _).append_left _).trans (List.perm_append_comm_assoc _ _ _)).append_left _).trans (List.perm_append_comm_assoc _ _ _)).append_left _).trans (List.perm_append_comm_assoc _ _ _)
theorem rp_5 (A0 A1 A2 A3 A4 A5 A6 A7 Z : va_W) : List.Perm (A0 ++ (A1 ++ (A2 ++ (A3 ++ (A4 ++ (A5 ++ (A6 ++ (A7 ++ Z)))))))) (A5 ++ (A0 ++ (A1 ++ (A2 ++ (A3 ++ (A4 ++ (A6 ++ (A7 ++ Z)))))))) := ((((((((List.perm_append_comm_assoc _ _ _).append_left _).trans (List.perm_append_comm_assoc _ _ _)).append_left _).trans (List.perm_append_comm_assoc _ _ _)).append_left _).trans (List.perm_append_comm_assoc _ _ _)).append_left _).trans (List.perm_append_comm_assoc _ _ _)
theorem rp_6 (A0 A1 A2 A3 A4 A5 A6 A7 Z : va_W) : List.Perm (A0 ++ (A1 ++ (A2 ++ (A3 ++ (A4 ++ (A5 ++ (A6 ++ (A7 ++ Z)))))))) (A6 ++ (A0 ++ (A1 ++ (A2 ++ (A3 ++ (A4 ++ (A5 ++ (A7 ++ Z)))))))) := ((((((((((List.perm_append_comm_assoc _ _ _).append_left _).trans (List.perm_append_comm_assoc _ _ _)).append_left _).trans (List.perm_append_comm_assoc _ _ _)).append_left _).trans (List.perm_append_comm_assoc _ _ _)).append_left _).trans (List.perm_append_comm_assoc _ _ _)).append_left _).trans (List.perm_append_comm_assoc _ _ _)
theorem rp_7 (A0 A1 A2 A3 A4 A5 A6 A7 Z : va_W) : List.Perm (A0 ++ (A1 ++ (A2 ++ (A3 ++ (A4 ++ (A5 ++ (A6 ++ (A7 ++ Z)))))))) (A7 ++ (A0 ++ (A1 ++ (A2 ++ (A3 ++ (A4 ++ (A5 ++ (A6 ++ Z)))))))) := ((((((((((((List.perm_append_comm_assoc _ _ _).append_left _).trans (List.perm_append_comm_assoc _ _ _)).append_left _).trans (List.perm_append_comm_assoc _ _ _)).append_left _).trans (List.perm_append_comm_assoc _ _ _)).append_left _).trans (List.perm_append_comm_assoc _ _ _)).append_left _).trans (List.perm_append_comm_assoc _ _ _)).append_left _).trans (List.perm_append_comm_assoc _ _ _)
theorem ri_out (G : Gx) (r : Nat → Nat → Nat) (V : Nat → SV) {i : Nat} (hi : i < 8) : List.Perm (riW G r V) (stW G (r i) (V i) ++ riX G r V i) := by
  rcases (show i = 0 ∨ i = 1 ∨ i = 2 ∨ i = 3 ∨ i = 4 ∨ i = 5 ∨ i = 6 ∨ i = 7 by omega) with rfl | rfl | rfl | rfl | rfl | rfl | rfl | rfl
  · exact rp_0 _ _ _ _ _ _ _ _ _
  · exact rp_1 _ _ _ _ _ _ _ _ _
  · exact rp_2 _ _ _ _ _ _ _ _ _
  · exact rp_3 _ _ _ _ _ _ _ _ _
  · exact rp_4 _ _ _ _ _ _ _ _ _
  · exact rp_5 _ _ _ _ _ _ _ _ _
  · exact rp_6 _ _ _ _ _ _ _ _ _
  · exact rp_7 _ _ _ _ _ _ _ _ _
theorem ri_in (G : Gx) (r : Nat → Nat → Nat) (V : Nat → SV) {i : Nat} (hi : i < 8) (S : SV) : List.Perm (stW G (r i) S ++ riX G r V i) (riW G r (va_up V i S)) := by
  have h := (ri_out G r (va_up V i S) hi).symm
  rw [va_up_self] at h
  have e : riX G r (va_up V i S) i = riX G r V i := by
    rcases (show i = 0 ∨ i = 1 ∨ i = 2 ∨ i = 3 ∨ i = 4 ∨ i = 5 ∨ i = 6 ∨ i = 7 by omega) with rfl | rfl | rfl | rfl | rfl | rfl | rfl | rfl <;> rfl
  rw [e] at h
  exact h
/-- state i of the ring to the front, and back -/
theorem hi_out (G : Gx) (h : Nat → Nat) (r : Nat → Nat → Nat) (V : Nat → SV) (nw dp : Int32) (A X : va_W) {i : Nat} (hi : i < 8) : List.Perm (A ++ (hiW G h r V nw dp ++ X)) (stW G (r i) (V i) ++ (A ++ (hiO G h r nw dp ++ (riX G r V i ++ X)))) := by
  unfold hiW
  rw [List.append_assoc]
  have h1 : List.Perm (riW G r V ++ X) (stW G (r i) (V i) ++ (riX G r V i ++ X)) := by
    rw [← List.append_assoc]
    exact (ri_out G r V hi).append_right X
  exact (((h1.append_left _).trans (List.perm_append_comm_assoc _ _ _)).append_left _).trans (List.perm_append_comm_assoc _ _ _)
theorem hi_in (G : Gx) (h : Nat → Nat) (r : Nat → Nat → Nat) (V : Nat → SV) (nw dp : Int32) (A X : va_W) {i : Nat} (hi : i < 8) (S : SV) : List.Perm (stW G (r i) S ++ (A ++ (hiO G h r nw dp ++ (riX G r V i ++ X)))) (A ++ (hiW G h r (va_up V i S) nw dp ++ X)) := by
  have h2 := hi_out G h r (va_up V i S) nw dp A X hi
  rw [va_up_self] at h2
  have e : riX G r (va_up V i S) i = riX G r V i := by
    rcases (show i = 0 ∨ i = 1 ∨ i = 2 ∨ i = 3 ∨ i = 4 ∨ i = 5 ∨ i = 6 ∨ i = 7 by omega) with rfl | rfl | rfl | rfl | rfl | rfl | rfl | rfl <;> rfl
  rw [e] at h2
  exact h2.symm

set_option maxHeartbeats 4000000 in
set_option maxRecDepth 100000 in
theorem k4_newestRow {l : Launch} {G : Gx} (hF : SF l G) {a : Nat → Nat} {S : SV} {X : va_W} {h : Nat → Nat} {r : Nat → Nat → Nat} {V : Nat → SV} {nw dp : Nat} (hn8 : nw < 8) : ME l G yX4_newestRow cX4_newestRow 1 (.object "DropMarket$State") 0 0 0 [.ref (h 0)] (stW G a S ++ (hiW G h r V (nI nw) (nI dp) ++ X)) (fun i => r i 0) (fun o _ => o = some nw) (fun _ : Unit => stW G a S ++ (hiW G h r V (nI nw) (nI dp) ++ X)) := by
  refine mt_of hF (by decide) (Nat.le_of_ble_eq_true rfl) ?_
  intro p e s m below meth c C hin ls hl H locs hw
  have hl : lv_has ls 1 [(0, .ref (h 0))] := hl
  refine lv_aload_n C.1 C.2.1 dX4_newestRow_0 rfl (lv_at hl 0 rfl) ?_
  refine r_get C hw 19 rfl rfl in_X4 1 (by decide) fl_X4_17 rfl (v := .int (nI nw)) rfl dX4_newestRow_1 ?_
  refine lv_if_lt (tgt := 31) C.1 C.2.1 dX4_newestRow_4 (by decide) (fun c_4 => absurd c_4 (nI_pos (by omega))) (fun c_4 => ?_)
  refine lv_aload_n C.1 C.2.1 dX4_newestRow_7 rfl (lv_at hl 0 rfl) ?_
  refine r_get C hw 19 rfl rfl in_X4 1 (by decide) fl_X4_17 rfl (v := .int (nI nw)) rfl dX4_newestRow_8 ?_
  refine lv_aload_n C.1 C.2.1 dX4_newestRow_11 rfl (lv_at hl 0 rfl) ?_
  refine r_get C hw 19 rfl rfl in_X4 0 (by decide) fl_X4_11 rfl (v := .ref (h 1)) rfl dX4_newestRow_12 ?_
  refine r_alen C hw 3 20 rfl rfl dX4_newestRow_15 ?_
  refine lv_icmp_ge (tgt := 31) C.1 C.2.1 dX4_newestRow_16 (by decide) (fun c_16 => absurd c_16 (nI_ge hn8 (by decide))) (fun c_16 => ?_)
  refine lv_aload_n C.1 C.2.1 dX4_newestRow_19 rfl (lv_at hl 0 rfl) ?_
  refine r_get C hw 19 rfl rfl in_X4 0 (by decide) fl_X4_11 rfl (v := .ref (h 1)) rfl dX4_newestRow_20 ?_
  refine lv_aload_n C.1 C.2.1 dX4_newestRow_23 rfl (lv_at hl 0 rfl) ?_
  refine r_get C hw 19 rfl rfl in_X4 1 (by decide) fl_X4_17 rfl (v := .int (nI nw)) rfl dX4_newestRow_24 ?_
  refine r_aald C hw 20 rfl (n := 8) (f := fun i => some (r i 0)) (vp_in_nI hn8 (by decide)) (r := some (r nw 0)) (by rw [nI_clamp (by omega)]) dX4_newestRow_27 ?_
  refine lv_goto (tgt := 32) C.1 C.2.1 dX4_newestRow_28 (by decide) ?_
  exact r_eret C hw (v := some nw) (ad := fun i => r i 0) rfl (Or.inl ⟨_, rfl⟩) () rfl rfl (Nat.le_of_ble_eq_true rfl) (Nat.le_of_ble_eq_true rfl) dX4_newestRow_32

def rgN (nw : Nat) : Nat := if nw + 1 < 8 then nw + 1 else 0
def rgP (nw : Nat) : Nat := if 0 < nw then nw - 1 else 7
theorem rgN_lt (nw : Nat) : rgN nw < 8 := by unfold rgN; split <;> omega
theorem rgP_lt {nw : Nat} (h : nw < 8) : rgP nw < 8 := by unfold rgP; split <;> omega
set_option maxHeartbeats 4000000 in
set_option maxRecDepth 100000 in
theorem k4_push {l : Launch} {G : Gx} (hF : SF l G) {a : Nat → Nat} {S : SV} {X : va_W} {h : Nat → Nat} {r : Nat → Nat → Nat} {V : Nat → SV} {nw dp : Nat} (hn8 : nw < 8) (hd8 : dp ≤ 8) (hb : isB (S.1 2)) : MV l G yX4_push cX4_push 3 3 0 0 [.ref (h 0), .ref (a 0)] (stW G a S ++ (hiW G h r V (nI nw) (nI dp) ++ X)) (fun _ => True) (fun _ : Unit => stW G a S ++ (hiW G h r (va_up V (rgN nw) S) (nI (rgN nw)) (nI (min (dp + 1) 8)) ++ X)) := by
  refine mt_of hF (by decide) (Nat.le_of_ble_eq_true rfl) ?_
  intro p e s m below meth c C hin ls hl H locs hw
  have hl : lv_has ls 3 [(0, .ref (h 0)), (1, .ref (a 0))] := hl
  refine lv_aload_n C.1 C.2.1 dX4_push_0 rfl (lv_at hl 0 rfl) ?_
  refine lv_aload_n C.1 C.2.1 dX4_push_1 rfl (lv_at hl 0 rfl) ?_
  refine r_get C hw 19 rfl rfl in_X4 1 (by decide) fl_X4_17 rfl (v := .int (nI nw)) rfl dX4_push_2 ?_
  refine lv_iconst (v := 1) C.1 C.2.1 dX4_push_5 (by decide) ?_
  refine lv_iadd C.1 C.2.1 dX4_push_6 ?_
  refine r_toe (show _ = nI (nw + 1) from nI_1 nw) ?_
  refine lv_aload_n C.1 C.2.1 dX4_push_7 rfl (lv_at hl 0 rfl) ?_
  refine r_get C hw 19 rfl rfl in_X4 0 (by decide) fl_X4_11 rfl (v := .ref (h 1)) rfl dX4_push_8 ?_
  refine r_alen C hw 3 20 rfl rfl dX4_push_11 ?_
  refine lv_icmp_ge (tgt := 24) C.1 C.2.1 dX4_push_12 (by decide) (fun c_12 => ?_) (fun c_12 => ?_)
  · have hn9 : ¬ nw + 1 < 8 := fun h => absurd c_12 (nI_ge h (by decide))
    refine lv_iconst (v := 0) C.1 C.2.1 dX4_push_24 (by decide) ?_
    refine r_put C hw 19 rfl rfl in_X4 tyX4 tyX4_ok nmX4 1 (by decide) fl_X4_17 rfl rfl rfl rfl (Nat.le_of_ble_eq_true rfl) (w' := stW G a S ++ (hiW G h r V 0 (nI dp) ++ X)) rfl dX4_push_25 (fun H locs hw => ?_)
    replace hw : WH G s (stW G a S ++ (hiW G h r V (nI 0) (nI dp) ++ X)) H locs := hw
    refine lv_aload_n C.1 C.2.1 dX4_push_28 rfl (lv_at hl 0 rfl) ?_
    refine lv_aload_n C.1 C.2.1 dX4_push_29 rfl (lv_at hl 0 rfl) ?_
    refine r_get C hw 19 rfl rfl in_X4 2 (by decide) fl_X4_21 rfl (v := .int (nI dp)) rfl dX4_push_30 ?_
    refine lv_iconst (v := 1) C.1 C.2.1 dX4_push_33 (by decide) ?_
    refine lv_iadd C.1 C.2.1 dX4_push_34 ?_
    refine r_toe (show _ = nI (dp + 1) from nI_1 dp) ?_
    refine lv_bipush (v := 8) C.1 C.2.1 dX4_push_35 (by decide) ?_
    refine r_mmin C ml_X4_25 hl.1 (Nat.le_of_ble_eq_true rfl) (Nat.le_of_ble_eq_true rfl) (Nat.le_of_ble_eq_true rfl) (Nat.le_of_ble_eq_true rfl) dX4_push_37 ?_
    refine r_toe (show _ = nI (min (dp + 1) 8) from mmin_nI (i := dp + 1) (j := 8) (by omega) (by decide)) ?_
    refine r_put C hw 19 rfl rfl in_X4 tyX4 tyX4_ok nmX4 2 (by decide) fl_X4_21 rfl rfl rfl rfl (Nat.le_of_ble_eq_true rfl) (w' := stW G a S ++ (hiW G h r V (nI 0) (nI (min (dp + 1) 8)) ++ X)) rfl dX4_push_40 (fun H locs hw => ?_)
    refine lv_aload_n C.1 C.2.1 dX4_push_43 rfl (lv_at hl 0 rfl) ?_
    refine r_ve C hw (k4_newestRow hF (a := a) (S := S) (X := X) (h := h) (r := r) (V := V) (nw := 0) (dp := (min (dp + 1) 8)) (by decide : (0 : Nat) < 8)) ml_X4_31 yf_X4_newestRow 19 rfl rfl (As := []) rfl rfl ⟨Nat.le_of_ble_eq_true rfl, Nat.le_of_ble_eq_true rfl⟩ ⟨Nat.le_of_ble_eq_true rfl, Nat.le_of_ble_eq_true rfl⟩ hl.1 (Nat.le_of_ble_eq_true rfl) dX4_push_44 (fun r_44 _ H locs hp_44 hw => ?_)
    obtain rfl : r_44 = some 0 := hp_44
    replace hw : WH G s (stW G a S ++ (hiW G h r V (nI 0) (nI (min (dp + 1) 8)) ++ X)) H locs := hw
    refine lv_astore_n (lv' := [(2, .ref (r 0 0)), (0, .ref (h 0)), (1, .ref (a 0))]) C.1 C.2.1 dX4_push_47 rfl hl (by decide) rfl (fun ls hl => ?_)
    refine lv_aload_n C.1 C.2.1 dX4_push_48 rfl (lv_at hl 0 rfl) ?_
    refine lv_ifnull C.1 C.2.1 dX4_push_49 ?_
    refine lv_aload_n C.1 C.2.1 dX4_push_52 rfl (lv_at hl 0 rfl) ?_
    refine lv_aload_n C.1 C.2.1 dX4_push_53 rfl (lv_at hl 2 rfl) ?_
    replace hw := hw.perm (hi_out G h r V (nI 0) (nI (min (dp + 1) 8)) (stW G a S) X (i := 0) (by decide : (0 : Nat) < 8))
    refine r_vv C hw (k9_copyFrom hF (a := r 0) (S := V 0) (b := a) (T := S) (X := hiO G h r (nI 0) (nI (min (dp + 1) 8)) ++ (riX G r V 0 ++ X)) hb) ml_X4_35 yf_X9_copyFrom 0 rfl rfl (As := [.ref (a 0)]) rfl rfl ⟨Nat.le_of_ble_eq_true rfl, Nat.le_of_ble_eq_true rfl⟩ ⟨Nat.le_of_ble_eq_true rfl, Nat.le_of_ble_eq_true rfl⟩ hl.1 (Nat.le_of_ble_eq_true rfl) dX4_push_54 (fun _ H locs hp_54 hw => ?_)
    replace hw := hw.perm (hi_in G h r V (nI 0) (nI (min (dp + 1) 8)) (stW G a S) X (i := 0) (by decide : (0 : Nat) < 8) S)
    replace hw : WH G s (stW G a S ++ (hiW G h r (va_up V 0 S) (nI 0) (nI (min (dp + 1) 8)) ++ X)) H locs := hw
    exact r_vret C hw rfl () (trivial) (by rw [show rgN nw = 0 from if_neg (by omega)]) (Nat.le_of_ble_eq_true rfl) (Nat.le_of_ble_eq_true rfl) dX4_push_57
  · have hn9 : nw + 1 < 8 := le_F (n := 8) (by omega) (by decide) c_12
    refine lv_aload_n C.1 C.2.1 dX4_push_15 rfl (lv_at hl 0 rfl) ?_
    refine r_get C hw 19 rfl rfl in_X4 1 (by decide) fl_X4_17 rfl (v := .int (nI nw)) rfl dX4_push_16 ?_
    refine lv_iconst (v := 1) C.1 C.2.1 dX4_push_19 (by decide) ?_
    refine lv_iadd C.1 C.2.1 dX4_push_20 ?_
    refine r_toe (show _ = nI (nw + 1) from nI_1 nw) ?_
    refine lv_goto (tgt := 25) C.1 C.2.1 dX4_push_21 (by decide) ?_
    refine r_put C hw 19 rfl rfl in_X4 tyX4 tyX4_ok nmX4 1 (by decide) fl_X4_17 rfl rfl rfl rfl (Nat.le_of_ble_eq_true rfl) (w' := stW G a S ++ (hiW G h r V (nI (nw + 1)) (nI dp) ++ X)) rfl dX4_push_25 (fun H locs hw => ?_)
    refine lv_aload_n C.1 C.2.1 dX4_push_28 rfl (lv_at hl 0 rfl) ?_
    refine lv_aload_n C.1 C.2.1 dX4_push_29 rfl (lv_at hl 0 rfl) ?_
    refine r_get C hw 19 rfl rfl in_X4 2 (by decide) fl_X4_21 rfl (v := .int (nI dp)) rfl dX4_push_30 ?_
    refine lv_iconst (v := 1) C.1 C.2.1 dX4_push_33 (by decide) ?_
    refine lv_iadd C.1 C.2.1 dX4_push_34 ?_
    refine r_toe (show _ = nI (dp + 1) from nI_1 dp) ?_
    refine lv_bipush (v := 8) C.1 C.2.1 dX4_push_35 (by decide) ?_
    refine r_mmin C ml_X4_25 hl.1 (Nat.le_of_ble_eq_true rfl) (Nat.le_of_ble_eq_true rfl) (Nat.le_of_ble_eq_true rfl) (Nat.le_of_ble_eq_true rfl) dX4_push_37 ?_
    refine r_toe (show _ = nI (min (dp + 1) 8) from mmin_nI (i := dp + 1) (j := 8) (by omega) (by decide)) ?_
    refine r_put C hw 19 rfl rfl in_X4 tyX4 tyX4_ok nmX4 2 (by decide) fl_X4_21 rfl rfl rfl rfl (Nat.le_of_ble_eq_true rfl) (w' := stW G a S ++ (hiW G h r V (nI (nw + 1)) (nI (min (dp + 1) 8)) ++ X)) rfl dX4_push_40 (fun H locs hw => ?_)
    refine lv_aload_n C.1 C.2.1 dX4_push_43 rfl (lv_at hl 0 rfl) ?_
    refine r_ve C hw (k4_newestRow hF (a := a) (S := S) (X := X) (h := h) (r := r) (V := V) (nw := (nw + 1)) (dp := (min (dp + 1) 8)) hn9) ml_X4_31 yf_X4_newestRow 19 rfl rfl (As := []) rfl rfl ⟨Nat.le_of_ble_eq_true rfl, Nat.le_of_ble_eq_true rfl⟩ ⟨Nat.le_of_ble_eq_true rfl, Nat.le_of_ble_eq_true rfl⟩ hl.1 (Nat.le_of_ble_eq_true rfl) dX4_push_44 (fun r_44 _ H locs hp_44 hw => ?_)
    obtain rfl : r_44 = some (nw + 1) := hp_44
    replace hw : WH G s (stW G a S ++ (hiW G h r V (nI (nw + 1)) (nI (min (dp + 1) 8)) ++ X)) H locs := hw
    refine lv_astore_n (lv' := [(2, .ref (r (nw + 1) 0)), (0, .ref (h 0)), (1, .ref (a 0))]) C.1 C.2.1 dX4_push_47 rfl hl (by decide) rfl (fun ls hl => ?_)
    refine lv_aload_n C.1 C.2.1 dX4_push_48 rfl (lv_at hl 0 rfl) ?_
    refine lv_ifnull C.1 C.2.1 dX4_push_49 ?_
    refine lv_aload_n C.1 C.2.1 dX4_push_52 rfl (lv_at hl 0 rfl) ?_
    refine lv_aload_n C.1 C.2.1 dX4_push_53 rfl (lv_at hl 2 rfl) ?_
    replace hw := hw.perm (hi_out G h r V (nI (nw + 1)) (nI (min (dp + 1) 8)) (stW G a S) X (i := (nw + 1)) hn9)
    refine r_vv C hw (k9_copyFrom hF (a := r (nw + 1)) (S := V (nw + 1)) (b := a) (T := S) (X := hiO G h r (nI (nw + 1)) (nI (min (dp + 1) 8)) ++ (riX G r V (nw + 1) ++ X)) hb) ml_X4_35 yf_X9_copyFrom 0 rfl rfl (As := [.ref (a 0)]) rfl rfl ⟨Nat.le_of_ble_eq_true rfl, Nat.le_of_ble_eq_true rfl⟩ ⟨Nat.le_of_ble_eq_true rfl, Nat.le_of_ble_eq_true rfl⟩ hl.1 (Nat.le_of_ble_eq_true rfl) dX4_push_54 (fun _ H locs hp_54 hw => ?_)
    replace hw := hw.perm (hi_in G h r V (nI (nw + 1)) (nI (min (dp + 1) 8)) (stW G a S) X (i := (nw + 1)) hn9 S)
    replace hw : WH G s (stW G a S ++ (hiW G h r (va_up V (nw + 1) S) (nI (nw + 1)) (nI (min (dp + 1) 8)) ++ X)) H locs := hw
    exact r_vret C hw rfl () (trivial) (by rw [show rgN nw = (nw + 1) from if_pos (by omega)]) (Nat.le_of_ble_eq_true rfl) (Nat.le_of_ble_eq_true rfl) dX4_push_57

set_option maxHeartbeats 4000000 in
set_option maxRecDepth 100000 in
theorem k4_popInto {l : Launch} {G : Gx} (hF : SF l G) {a : Nat → Nat} {S : SV} {X : va_W} {h : Nat → Nat} {r : Nat → Nat → Nat} {V : Nat → SV} {nw dp : Nat} (hn8 : nw < 8) (hd8 : 1 ≤ dp ∧ dp ≤ 8) (hb : isB ((V nw).1 2)) : MV l G yX4_popInto cX4_popInto 3 3 0 0 [.ref (h 0), .ref (a 0)] (stW G a S ++ (hiW G h r V (nI nw) (nI dp) ++ X)) (fun _ => True) (fun _ : Unit => stW G a (V nw) ++ (hiW G h r V (nI (rgP nw)) (nI (dp - 1)) ++ X)) := by
  refine mt_of hF (by decide) (Nat.le_of_ble_eq_true rfl) ?_
  intro p e s m below meth c C hin ls hl H locs hw
  have hl : lv_has ls 3 [(0, .ref (h 0)), (1, .ref (a 0))] := hl
  refine lv_aload_n C.1 C.2.1 dX4_popInto_0 rfl (lv_at hl 0 rfl) ?_
  refine r_ve C hw (k4_newestRow hF (a := a) (S := S) (X := X) (h := h) (r := r) (V := V) (nw := nw) (dp := dp) hn8) ml_X4_31 yf_X4_newestRow 19 rfl rfl (As := []) rfl rfl ⟨Nat.le_of_ble_eq_true rfl, Nat.le_of_ble_eq_true rfl⟩ ⟨Nat.le_of_ble_eq_true rfl, Nat.le_of_ble_eq_true rfl⟩ hl.1 (Nat.le_of_ble_eq_true rfl) dX4_popInto_1 (fun r_1 _ H locs hp_1 hw => ?_)
  obtain rfl : r_1 = some nw := hp_1
  replace hw : WH G s (stW G a S ++ (hiW G h r V (nI nw) (nI dp) ++ X)) H locs := hw
  refine lv_astore_n (lv' := [(2, .ref (r nw 0)), (0, .ref (h 0)), (1, .ref (a 0))]) C.1 C.2.1 dX4_popInto_4 rfl hl (by decide) rfl (fun ls hl => ?_)
  refine lv_aload_n C.1 C.2.1 dX4_popInto_5 rfl (lv_at hl 0 rfl) ?_
  refine lv_ifnull C.1 C.2.1 dX4_popInto_6 ?_
  refine lv_aload_n C.1 C.2.1 dX4_popInto_9 rfl (lv_at hl 2 rfl) ?_
  refine lv_aload_n C.1 C.2.1 dX4_popInto_10 rfl (lv_at hl 0 rfl) ?_
  replace hw := hw.perm ((hi_out G h r V (nI nw) (nI dp) (stW G a S) X (i := nw) hn8).trans (List.perm_append_comm_assoc _ _ _))
  refine r_vv C hw (k9_copyFrom hF (a := a) (S := S) (b := r nw) (T := V nw) (X := hiO G h r (nI nw) (nI dp) ++ (riX G r V nw ++ X)) hb) ml_X4_35 yf_X9_copyFrom 0 rfl rfl (As := [.ref (r nw 0)]) rfl rfl ⟨Nat.le_of_ble_eq_true rfl, Nat.le_of_ble_eq_true rfl⟩ ⟨Nat.le_of_ble_eq_true rfl, Nat.le_of_ble_eq_true rfl⟩ hl.1 (Nat.le_of_ble_eq_true rfl) dX4_popInto_11 (fun _ H locs hp_11 hw => ?_)
  replace hw := hw.perm ((List.perm_append_comm_assoc _ _ _).trans (hi_out G h r V (nI nw) (nI dp) (stW G a (V nw)) X (i := nw) hn8).symm)
  replace hw : WH G s (stW G a (V nw) ++ (hiW G h r V (nI nw) (nI dp) ++ X)) H locs := hw
  refine lv_aload_n C.1 C.2.1 dX4_popInto_14 rfl (lv_at hl 1 rfl) ?_
  refine lv_aload_n C.1 C.2.1 dX4_popInto_15 rfl (lv_at hl 1 rfl) ?_
  refine r_get C hw 19 rfl rfl in_X4 1 (by decide) fl_X4_17 rfl (v := .int (nI nw)) rfl dX4_popInto_16 ?_
  refine lv_if_le (tgt := 31) C.1 C.2.1 dX4_popInto_19 (by decide) (fun c_19 => ?_) (fun c_19 => ?_)
  · have hn9 : ¬ 0 < nw := fun h => absurd c_19 (nI_nle h (by omega))
    refine lv_aload_n C.1 C.2.1 dX4_popInto_31 rfl (lv_at hl 1 rfl) ?_
    refine r_get C hw 19 rfl rfl in_X4 0 (by decide) fl_X4_11 rfl (v := .ref (h 1)) rfl dX4_popInto_32 ?_
    refine r_alen C hw 3 20 rfl rfl dX4_popInto_35 ?_
    refine lv_iconst (v := 1) C.1 C.2.1 dX4_popInto_36 (by decide) ?_
    refine lv_isub C.1 C.2.1 dX4_popInto_37 ?_
    refine r_toe (show _ = nI 7 from rfl) ?_
    refine r_put C hw 19 rfl rfl in_X4 tyX4 tyX4_ok nmX4 1 (by decide) fl_X4_17 rfl rfl rfl rfl (Nat.le_of_ble_eq_true rfl) (w' := stW G a (V nw) ++ (hiW G h r V (nI 7) (nI dp) ++ X)) rfl dX4_popInto_38 (fun H locs hw => ?_)
    refine lv_aload_n C.1 C.2.1 dX4_popInto_41 rfl (lv_at hl 1 rfl) ?_
    refine lv_aload_n C.1 C.2.1 dX4_popInto_42 rfl (lv_at hl 1 rfl) ?_
    refine r_get C hw 19 rfl rfl in_X4 2 (by decide) fl_X4_21 rfl (v := .int (nI dp)) rfl dX4_popInto_43 ?_
    refine lv_iconst (v := 1) C.1 C.2.1 dX4_popInto_46 (by decide) ?_
    refine lv_isub C.1 C.2.1 dX4_popInto_47 ?_
    refine r_toe (show _ = nI (dp - 1) from nI_p1 (by omega)) ?_
    refine lv_iconst (v := 0) C.1 C.2.1 dX4_popInto_48 (by decide) ?_
    refine r_mmax C ml_X4_39 hl.1 (Nat.le_of_ble_eq_true rfl) (Nat.le_of_ble_eq_true rfl) (Nat.le_of_ble_eq_true rfl) (Nat.le_of_ble_eq_true rfl) dX4_popInto_49 ?_
    refine r_toe (show _ = nI (dp - 1) from (mmax_nI (i := dp - 1) (j := 0) (by omega) (by decide)).trans (by rw [Nat.max_eq_left (Nat.zero_le _)])) ?_
    refine r_put C hw 19 rfl rfl in_X4 tyX4 tyX4_ok nmX4 2 (by decide) fl_X4_21 rfl rfl rfl rfl (Nat.le_of_ble_eq_true rfl) (w' := stW G a (V nw) ++ (hiW G h r V (nI 7) (nI (dp - 1)) ++ X)) rfl dX4_popInto_52 (fun H locs hw => ?_)
    exact r_vret C hw rfl () (trivial) (by rw [show rgP nw = 7 from if_neg (by omega)]) (Nat.le_of_ble_eq_true rfl) (Nat.le_of_ble_eq_true rfl) dX4_popInto_55
  · have hn9 : 0 < nw := Nat.pos_of_ne_zero (fun h => c_19 (by subst h; decide))
    refine lv_aload_n C.1 C.2.1 dX4_popInto_22 rfl (lv_at hl 1 rfl) ?_
    refine r_get C hw 19 rfl rfl in_X4 1 (by decide) fl_X4_17 rfl (v := .int (nI nw)) rfl dX4_popInto_23 ?_
    refine lv_iconst (v := 1) C.1 C.2.1 dX4_popInto_26 (by decide) ?_
    refine lv_isub C.1 C.2.1 dX4_popInto_27 ?_
    refine r_toe (show _ = nI (nw - 1) from nI_p1 (by omega)) ?_
    refine lv_goto (tgt := 38) C.1 C.2.1 dX4_popInto_28 (by decide) ?_
    refine r_put C hw 19 rfl rfl in_X4 tyX4 tyX4_ok nmX4 1 (by decide) fl_X4_17 rfl rfl rfl rfl (Nat.le_of_ble_eq_true rfl) (w' := stW G a (V nw) ++ (hiW G h r V (nI (nw - 1)) (nI dp) ++ X)) rfl dX4_popInto_38 (fun H locs hw => ?_)
    refine lv_aload_n C.1 C.2.1 dX4_popInto_41 rfl (lv_at hl 1 rfl) ?_
    refine lv_aload_n C.1 C.2.1 dX4_popInto_42 rfl (lv_at hl 1 rfl) ?_
    refine r_get C hw 19 rfl rfl in_X4 2 (by decide) fl_X4_21 rfl (v := .int (nI dp)) rfl dX4_popInto_43 ?_
    refine lv_iconst (v := 1) C.1 C.2.1 dX4_popInto_46 (by decide) ?_
    refine lv_isub C.1 C.2.1 dX4_popInto_47 ?_
    refine r_toe (show _ = nI (dp - 1) from nI_p1 (by omega)) ?_
    refine lv_iconst (v := 0) C.1 C.2.1 dX4_popInto_48 (by decide) ?_
    refine r_mmax C ml_X4_39 hl.1 (Nat.le_of_ble_eq_true rfl) (Nat.le_of_ble_eq_true rfl) (Nat.le_of_ble_eq_true rfl) (Nat.le_of_ble_eq_true rfl) dX4_popInto_49 ?_
    refine r_toe (show _ = nI (dp - 1) from (mmax_nI (i := dp - 1) (j := 0) (by omega) (by decide)).trans (by rw [Nat.max_eq_left (Nat.zero_le _)])) ?_
    refine r_put C hw 19 rfl rfl in_X4 tyX4 tyX4_ok nmX4 2 (by decide) fl_X4_21 rfl rfl rfl rfl (Nat.le_of_ble_eq_true rfl) (w' := stW G a (V nw) ++ (hiW G h r V (nI (nw - 1)) (nI (dp - 1)) ++ X)) rfl dX4_popInto_52 (fun H locs hw => ?_)
    exact r_vret C hw rfl () (trivial) (by rw [show rgP nw = (nw - 1) from if_pos (by omega)]) (Nat.le_of_ble_eq_true rfl) (Nat.le_of_ble_eq_true rfl) dX4_popInto_55

