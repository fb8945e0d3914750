/-! DropMarket: lines and text -/
def dgN (x : Int32) : List Int32 := dgL 4 x.toNatClampNeg
theorem dgN_nI {w : Nat} (h : w < 100000) : dgN (nI w) = dgL 4 w := by rw [dgN, nI_clamp (by omega)]
theorem dg5 (w : Nat) : (dgL 4 w).length ≤ 5 := dgL_len.1
/-- the numbers that lines show are short -/
def smN (x : Int32) : Prop := ∃ w, w < 100000 ∧ x = nI w
def bsL (S : SV) (b : Bool) (L : List Int32) : List Int32 := match best S b (nO S) with
  | none => L ++ [nI 45]
  | some j => ((L ++ dgN (qAt S b (S.2.1 5 j) (nO S))) ++ [nI 120]) ++ dgN (S.2.1 5 j)
theorem bsL_len (S : SV) (b : Bool) (L : List Int32) : (bsL S b L).length ≤ L.length + 11 := by
  unfold bsL
  split
  · simp
  · rename_i j _
    have h1 := dg5 (qAt S b (S.2.1 5 j) (nO S)).toNatClampNeg
    have h2 := dg5 (S.2.1 5 j).toNatClampNeg
    simp only [List.length_append, List.length_cons, List.length_nil, dgN]
    omega
theorem ln_of {x : Int32} {n : Nat} (hn : n < 2 ^ 31) (h0 : ¬ x < 0) (h1 : x < nI n) : ∃ i, i < n ∧ x = nI i := by
  obtain ⟨j, hj, rfl⟩ := nI_of h0
  exact ⟨j, (nI_ltI hj hn).mp h1, rfl⟩
theorem ch_nar {L : List Int32} (hch : chL L) {i : Nat} (hi : i < L.length) : narrow .char (.int (L.getD i 0)) = .int (L.getD i 0) := by
  obtain ⟨k, hk, e⟩ := hch i hi
  rw [e]
  have h : ∀ k : Fin 128, narrow .char (.int (nI k.val)) = .int (nI k.val) := by decide +kernel
  exact h ⟨k, hk⟩
set_option maxHeartbeats 4000000 in
set_option maxRecDepth 100000 in
theorem x11_lineAt {l : Launch} {G : Gx} (hF : SF l G) {K : Nat → Nat → Nat} {S : SV} {F : Nat → Int32} {u : Nat × Nat × (Nat → Int32) × Int32} {L : List Int32} {X : va_W} (hT : sbT u L) (hch : chL L) (hL : L.length ≤ 70) (x : Int32) : XI l G yX11_lineAt cX11_lineAt 2 .char 6 1 6 [.ref (K 7 0), .int x] (stW G (K 0) S ++ (dmO G K F ++ (sbY G (K 6 0) u L ++ X))) (fun r i => i < L.length ∧ x = nI i ∧ r = L.getD i 0) (fun _ : Nat => stW G (K 0) S ++ (dmO G K F ++ (sbY G (K 6 0) u L ++ X))) (fun k => k = 1 ∧ (x < 0 ∨ ¬ x < nI L.length)) (fun _ => stW G (K 0) S ++ (dmO G K F ++ (sbY G (K 6 0) u L ++ X))) := by
  refine mx_of hF (by decide) (Nat.le_of_ble_eq_true rfl) ?_
  intro p e s m below meth c C hnt ls hl H locs hw
  have hl : lv_has ls 2 [(0, .ref (K 7 0)), (1, .int x)] := hl
  refine lv_iload_n C.1 C.2.1 dX11_lineAt_0 rfl (lv_at hl 1 rfl) ?_
  refine lv_if_lt (tgt := 15) C.1 C.2.1 dX11_lineAt_1 (by decide) (fun c_1 => ?_) (fun c_1 => ?_)
  · exact x_thr1W C hw (sr_283 hF) (⟨rfl, Or.inl c_1⟩) rfl hnt hl.1 dX11_lineAt_15 dX11_lineAt_18 dX11_lineAt_19 dX11_lineAt_22 dX11_lineAt_25 (Nat.le_of_ble_eq_true rfl) (Nat.le_of_ble_eq_true rfl) (Nat.le_of_ble_eq_true rfl) (Nat.le_of_ble_eq_true rfl) (Nat.le_of_ble_eq_true rfl) (Nat.le_of_ble_eq_true rfl)
  · refine lv_iload_n C.1 C.2.1 dX11_lineAt_4 rfl (lv_at hl 1 rfl) ?_
    refine lv_aload_n C.1 C.2.1 dX11_lineAt_5 rfl (lv_at hl 0 rfl) ?_
    refine r_get C hw 19 rfl rfl in_X11 6 (by decide) fl_X11_46 rfl (v := .ref (K 6 0)) rfl dX11_lineAt_6 ?_
    replace hw : WH G s (sbY G (K 6 0) u L ++ (stW G (K 0) S ++ (dmO G K F ++ X))) H locs := hw.perm (((List.perm_append_comm_assoc _ _ _).append_left _).trans (List.perm_append_comm_assoc _ _ _))
    refine r_vi C hw (s_length hF (X := (stW G (K 0) S ++ (dmO G K F ++ X))) hT) ml_X11_276 yf_J4_length_8abf5 0 rfl rfl (As := []) rfl rfl ⟨(Nat.le_of_ble_eq_true rfl), (Nat.le_of_ble_eq_true rfl)⟩ ⟨(Nat.le_of_ble_eq_true rfl), (Nat.le_of_ble_eq_true rfl)⟩ hl.1 (Nat.le_of_ble_eq_true rfl) dX11_lineAt_9 (fun r_9 _ H locs hp_9 hw => ?_)
    obtain rfl : r_9 = nI L.length := hp_9
    replace hw : WH G s (sbY G (K 6 0) u L ++ (stW G (K 0) S ++ (dmO G K F ++ X))) H locs := hw
    replace hw : WH G s (stW G (K 0) S ++ (dmO G K F ++ (sbY G (K 6 0) u L ++ X))) H locs := hw.perm ((List.perm_append_comm_assoc _ _ _).trans ((List.perm_append_comm_assoc _ _ _).append_left _))
    refine lv_icmp_lt (tgt := 26) C.1 C.2.1 dX11_lineAt_12 (by decide) (fun c_12 => ?_) (fun c_12 => ?_)
    · obtain ⟨i, hi, hx⟩ := ln_of (by omega) c_1 c_12
      refine lv_aload_n C.1 C.2.1 dX11_lineAt_26 rfl (lv_at hl 0 rfl) ?_
      refine r_get C hw 19 rfl rfl in_X11 6 (by decide) fl_X11_46 rfl (v := .ref (K 6 0)) rfl dX11_lineAt_27 ?_
      refine lv_iload_n C.1 C.2.1 dX11_lineAt_30 rfl (lv_at hl 1 rfl) ?_
      refine r_toe (show _ = nI i from hx) ?_
      replace hw : WH G s (sbY G (K 6 0) u L ++ (stW G (K 0) S ++ (dmO G K F ++ X))) H locs := hw.perm (((List.perm_append_comm_assoc _ _ _).append_left _).trans (List.perm_append_comm_assoc _ _ _))
      refine r_vi C hw (s_charAt hF (X := (stW G (K 0) S ++ (dmO G K F ++ X))) hT hch hi) ml_X11_285 yf_J4_charAt_5068e 0 rfl rfl (As := [.int (nI i)]) rfl rfl ⟨(Nat.le_of_ble_eq_true rfl), (Nat.le_of_ble_eq_true rfl)⟩ ⟨(Nat.le_of_ble_eq_true rfl), (Nat.le_of_ble_eq_true rfl)⟩ hl.1 (Nat.le_of_ble_eq_true rfl) dX11_lineAt_31 (fun r_31 _ H locs hp_31 hw => ?_)
      obtain rfl : r_31 = L.getD i 0 := hp_31
      replace hw : WH G s (sbY G (K 6 0) u L ++ (stW G (K 0) S ++ (dmO G K F ++ X))) H locs := hw
      replace hw : WH G s (stW G (K 0) S ++ (dmO G K F ++ (sbY G (K 6 0) u L ++ X))) H locs := hw.perm ((List.perm_append_comm_assoc _ _ _).trans ((List.perm_append_comm_assoc _ _ _).append_left _))
      refine vx_ret ?_
      exact r_iret C hw rfl (ch_nar hch hi) i (⟨hi, hx, rfl⟩) rfl (Nat.le_of_ble_eq_true rfl) (Nat.le_of_ble_eq_true rfl) dX11_lineAt_34
    · exact x_thr1W C hw (sr_283 hF) (⟨rfl, Or.inr c_12⟩) rfl hnt hl.1 dX11_lineAt_15 dX11_lineAt_18 dX11_lineAt_19 dX11_lineAt_22 dX11_lineAt_25 (Nat.le_of_ble_eq_true rfl) (Nat.le_of_ble_eq_true rfl) (Nat.le_of_ble_eq_true rfl) (Nat.le_of_ble_eq_true rfl) (Nat.le_of_ble_eq_true rfl) (Nat.le_of_ble_eq_true rfl)

set_option maxHeartbeats 4000000 in
set_option maxRecDepth 100000 in
theorem k11_appendBest {l : Launch} {G : Gx} (hF : SF l G) {K : Nat → Nat → Nat} {S : SV} {F : Nat → Int32} {u : Nat × Nat × (Nat → Int32) × Int32} {L : List Int32} {X : va_W} (hT : sbT u L) (ok : okS S) (b : Bool) (hl1 : L.length ≤ 50) (hnum : ∀ j, best S b (nO S) = some j → smN (qAt S b (S.2.1 5 j) (nO S)) ∧ smN (S.2.1 5 j)) : MV l G yX11_appendBest cX11_appendBest 4 7 3 210 [.ref (K 7 0), .int (bI b)] (stW G (K 0) S ++ (dmO G K F ++ (sbY G (K 6 0) u L ++ X))) (fun u9 => sbT u9 (bsL S b L)) (fun u9 : Nat × Nat × (Nat → Int32) × Int32 => stW G (K 0) S ++ (dmO G K F ++ (sbY G (K 6 0) u9 (bsL S b L) ++ X))) := by
  refine mt_of hF (by decide) (Nat.le_of_ble_eq_true rfl) ?_
  intro p e s m below meth c C hin ls hl H locs hw
  have hl : lv_has ls 4 [(0, .ref (K 7 0)), (1, .int (bI b))] := hl
  refine lv_aload_n C.1 C.2.1 dX11_appendBest_0 rfl (lv_at hl 0 rfl) ?_
  refine r_get C hw 19 rfl rfl in_X11 0 (by decide) fl_X11_10 rfl (v := .ref (K 0 0)) rfl dX11_appendBest_1 ?_
  refine r_get C hw 0 rfl rfl in_X9 1 (by decide) fl_X11_161 rfl (v := .ref (K 0 6)) rfl dX11_appendBest_4 ?_
  refine lv_iload_n C.1 C.2.1 dX11_appendBest_7 rfl (lv_at hl 1 rfl) ?_
  obtain ⟨o_8, ho_8⟩ : ∃ o, o = best S b (nO S) := ⟨_, rfl⟩
  refine r_vi C hw (k1_bestSlot hF (a := (K 0)) (S := S) (X := (dmO G K F ++ (sbY G (K 6 0) u L ++ X))) ok.1 ok.2.1 b) ml_X11_414 yf_X1_bestSlot 6 rfl rfl (As := [.int (bI b)]) rfl rfl ⟨(Nat.le_of_ble_eq_true rfl), (Nat.le_of_ble_eq_true rfl)⟩ ⟨(Nat.le_of_ble_eq_true rfl), (Nat.le_of_ble_eq_true rfl)⟩ hl.1 (Nat.le_of_ble_eq_true rfl) dX11_appendBest_8 (fun r_8 _ H locs hp_8 hw => ?_)
  obtain rfl : r_8 = oI o_8 := by rw [hp_8, ho_8]
  replace hw : WH G s (stW G (K 0) S ++ (dmO G K F ++ (sbY G (K 6 0) u L ++ X))) H locs := hw
  refine lv_istore_n (lv' := [(2, .int (oI o_8)), (0, .ref (K 7 0)), (1, .int (bI b))]) C.1 C.2.1 dX11_appendBest_11 rfl hl (by decide) rfl (fun ls hl => ?_)
  refine lv_iload_n C.1 C.2.1 dX11_appendBest_12 rfl (lv_at hl 0 rfl) ?_
  refine lv_iconst (v := -1) C.1 C.2.1 dX11_appendBest_13 (by decide) ?_
  refine lv_icmp_ne (tgt := 28) C.1 C.2.1 dX11_appendBest_14 (by decide) (fun c_14 => ?_) (fun c_14 => ?_)
  · obtain ⟨j, rfl⟩ : ∃ q, o_8 = some q := by cases o_8 with | none => exact absurd rfl c_14 | some q => exact ⟨q, rfl⟩
    have hj : j < nO S := best_lt ho_8.symm
    have hj20 : j < 20 := Nat.lt_of_lt_of_le hj ok.2.1
    obtain ⟨⟨qw, hqw, eqw⟩, pw, hpw, epw⟩ := hnum j ho_8.symm
    rw [epw] at eqw
    replace hl : lv_has ls 4 [(2, .int (nI j)), (0, .ref (K 7 0)), (1, .int (bI b))] := hl
    refine lv_aload_n C.1 C.2.1 dX11_appendBest_28 rfl (lv_at hl 1 rfl) ?_
    refine r_get C hw 19 rfl rfl in_X11 0 (by decide) fl_X11_10 rfl (v := .ref (K 0 0)) rfl dX11_appendBest_29 ?_
    refine r_get C hw 0 rfl rfl in_X9 1 (by decide) fl_X11_161 rfl (v := .ref (K 0 6)) rfl dX11_appendBest_32 ?_
    refine r_get C hw 6 rfl rfl in_X1 3 (by decide) fl_X11_185 rfl (v := .ref (K 0 13)) rfl dX11_appendBest_35 ?_
    refine lv_iload_n C.1 C.2.1 dX11_appendBest_38 rfl (lv_at hl 0 rfl) ?_
    refine r_vi C hw (k7_get hF (strow_5 G (K 0) S (dmO G K F ++ (sbY G (K 6 0) u L ++ X))) (by decide) (strow_e G (K 0) S (dmO G K F ++ (sbY G (K 6 0) u L ++ X)) 5) (nI j)) ml_X11_134 yf_X7_get 13 rfl rfl (As := [.int (nI j)]) rfl rfl ⟨Nat.le_of_ble_eq_true rfl, Nat.le_of_ble_eq_true rfl⟩ ⟨Nat.le_of_ble_eq_true rfl, Nat.le_of_ble_eq_true rfl⟩ hl.1 (Nat.le_of_ble_eq_true rfl) dX11_appendBest_39 (fun r_39 _ H locs hp_39 hw => ?_)
    obtain rfl : r_39 = ((S.2.1 5) j) := by rw [hp_39]; exact rget_nI (by omega) (by decide)
    replace hw : WH G s (stW G (K 0) S ++ (dmO G K F ++ (sbY G (K 6 0) u L ++ X))) H locs := hw
    refine r_toe (show _ = nI pw from epw) ?_
    refine lv_istore_n (lv' := [(3, .int (nI pw)), (2, .int (nI j)), (0, .ref (K 7 0)), (1, .int (bI b))]) C.1 C.2.1 dX11_appendBest_42 rfl hl (by decide) rfl (fun ls hl => ?_)
    refine lv_aload_n C.1 C.2.1 dX11_appendBest_43 rfl (lv_at hl 2 rfl) ?_
    refine r_get C hw 19 rfl rfl in_X11 6 (by decide) fl_X11_46 rfl (v := .ref (K 6 0)) rfl dX11_appendBest_44 ?_
    refine lv_aload_n C.1 C.2.1 dX11_appendBest_47 rfl (lv_at hl 2 rfl) ?_
    refine r_get C hw 19 rfl rfl in_X11 0 (by decide) fl_X11_10 rfl (v := .ref (K 0 0)) rfl dX11_appendBest_48 ?_
    refine r_get C hw 0 rfl rfl in_X9 1 (by decide) fl_X11_161 rfl (v := .ref (K 0 6)) rfl dX11_appendBest_51 ?_
    refine lv_iload_n C.1 C.2.1 dX11_appendBest_54 rfl (lv_at hl 3 rfl) ?_
    refine lv_iload_n C.1 C.2.1 dX11_appendBest_55 rfl (lv_at hl 0 rfl) ?_
    refine r_vi C hw (k1_quantityAt hF (a := (K 0)) (S := S) (X := (dmO G K F ++ (sbY G (K 6 0) u L ++ X))) ok.1 ok.2.1 b (nI pw)) ml_X11_219 yf_X1_quantityAt 6 rfl rfl (As := [.int (bI b), .int (nI pw)]) rfl rfl ⟨(Nat.le_of_ble_eq_true rfl), (Nat.le_of_ble_eq_true rfl)⟩ ⟨(Nat.le_of_ble_eq_true rfl), (Nat.le_of_ble_eq_true rfl)⟩ hl.1 (Nat.le_of_ble_eq_true rfl) dX11_appendBest_56 (fun r_56 _ H locs hp_56 hw => ?_)
    obtain rfl : r_56 = nI qw := hp_56.trans eqw
    replace hw : WH G s (stW G (K 0) S ++ (dmO G K F ++ (sbY G (K 6 0) u L ++ X))) H locs := hw
    replace hw : WH G s (sbY G (K 6 0) u L ++ (stW G (K 0) S ++ (dmO G K F ++ X))) H locs := hw.perm (((List.perm_append_comm_assoc _ _ _).append_left _).trans (List.perm_append_comm_assoc _ _ _))
    refine r_vr C hw (s_appendI hF (X := (stW G (K 0) S ++ (dmO G K F ++ X))) hT (w := qw) hqw (by have h0 := dg5 qw; (try simp only [List.length_append, List.length_cons, List.length_nil]); omega)) ml_X11_269 yf_J4_append_bf812 0 rfl rfl (As := [.int (nI qw)]) rfl rfl ⟨(Nat.le_of_ble_eq_true rfl), (Nat.le_of_ble_eq_true rfl)⟩ ⟨(Nat.le_of_ble_eq_true rfl), (Nat.le_of_ble_eq_true rfl)⟩ hl.1 (Nat.le_of_ble_eq_true rfl) dX11_appendBest_59 (fun u_59 ra_59 H locs hp_59 hw => ?_)
    replace hw : WH G s (sbY G (K 6 0) u_59 (L ++ dgL 4 qw) ++ (stW G (K 0) S ++ (dmO G K F ++ X))) H locs := hw
    replace hw : WH G s (stW G (K 0) S ++ (dmO G K F ++ (sbY G (K 6 0) u_59 (L ++ dgL 4 qw) ++ X))) H locs := hw.perm ((List.perm_append_comm_assoc _ _ _).trans ((List.perm_append_comm_assoc _ _ _).append_left _))
    refine lv_pop C.1 C.2.1 dX11_appendBest_62 rfl ?_
    refine lv_aload_n C.1 C.2.1 dX11_appendBest_63 rfl (lv_at hl 2 rfl) ?_
    refine r_get C hw 19 rfl rfl in_X11 6 (by decide) fl_X11_46 rfl (v := .ref (K 6 0)) rfl dX11_appendBest_64 ?_
    refine lv_bipush (v := 120) C.1 C.2.1 dX11_appendBest_67 (by decide) ?_
    replace hw : WH G s (sbY G (K 6 0) u_59 (L ++ dgL 4 qw) ++ (stW G (K 0) S ++ (dmO G K F ++ X))) H locs := hw.perm (((List.perm_append_comm_assoc _ _ _).append_left _).trans (List.perm_append_comm_assoc _ _ _))
    refine r_vr C hw (s_append hF (X := (stW G (K 0) S ++ (dmO G K F ++ X))) hp_59 (k := 120) (by decide) (by have h0 := dg5 qw; (try simp only [List.length_append, List.length_cons, List.length_nil]); omega)) ml_X11_273 yf_J4_append_cf468 0 rfl rfl (As := [.int 120]) rfl rfl ⟨(Nat.le_of_ble_eq_true rfl), (Nat.le_of_ble_eq_true rfl)⟩ ⟨(Nat.le_of_ble_eq_true rfl), (Nat.le_of_ble_eq_true rfl)⟩ hl.1 (Nat.le_of_ble_eq_true rfl) dX11_appendBest_69 (fun u_69 ra_69 H locs hp_69 hw => ?_)
    replace hw : WH G s (sbY G (K 6 0) u_69 ((L ++ dgL 4 qw) ++ [nI 120]) ++ (stW G (K 0) S ++ (dmO G K F ++ X))) H locs := hw
    replace hw : WH G s (stW G (K 0) S ++ (dmO G K F ++ (sbY G (K 6 0) u_69 ((L ++ dgL 4 qw) ++ [nI 120]) ++ X))) H locs := hw.perm ((List.perm_append_comm_assoc _ _ _).trans ((List.perm_append_comm_assoc _ _ _).append_left _))
    refine lv_pop C.1 C.2.1 dX11_appendBest_72 rfl ?_
    refine lv_aload_n C.1 C.2.1 dX11_appendBest_73 rfl (lv_at hl 2 rfl) ?_
    refine r_get C hw 19 rfl rfl in_X11 6 (by decide) fl_X11_46 rfl (v := .ref (K 6 0)) rfl dX11_appendBest_74 ?_
    refine lv_iload_n C.1 C.2.1 dX11_appendBest_77 rfl (lv_at hl 0 rfl) ?_
    replace hw : WH G s (sbY G (K 6 0) u_69 ((L ++ dgL 4 qw) ++ [nI 120]) ++ (stW G (K 0) S ++ (dmO G K F ++ X))) H locs := hw.perm (((List.perm_append_comm_assoc _ _ _).append_left _).trans (List.perm_append_comm_assoc _ _ _))
    refine r_vr C hw (s_appendI hF (X := (stW G (K 0) S ++ (dmO G K F ++ X))) hp_69 (w := pw) hpw (by have h0 := dg5 qw; have h1 := dg5 pw; (try simp only [List.length_append, List.length_cons, List.length_nil]); omega)) ml_X11_269 yf_J4_append_bf812 0 rfl rfl (As := [.int (nI pw)]) rfl rfl ⟨(Nat.le_of_ble_eq_true rfl), (Nat.le_of_ble_eq_true rfl)⟩ ⟨(Nat.le_of_ble_eq_true rfl), (Nat.le_of_ble_eq_true rfl)⟩ hl.1 (Nat.le_of_ble_eq_true rfl) dX11_appendBest_78 (fun u_78 ra_78 H locs hp_78 hw => ?_)
    replace hw : WH G s (sbY G (K 6 0) u_78 (((L ++ dgL 4 qw) ++ [nI 120]) ++ dgL 4 pw) ++ (stW G (K 0) S ++ (dmO G K F ++ X))) H locs := hw
    replace hw : WH G s (stW G (K 0) S ++ (dmO G K F ++ (sbY G (K 6 0) u_78 (((L ++ dgL 4 qw) ++ [nI 120]) ++ dgL 4 pw) ++ X))) H locs := hw.perm ((List.perm_append_comm_assoc _ _ _).trans ((List.perm_append_comm_assoc _ _ _).append_left _))
    refine lv_pop C.1 C.2.1 dX11_appendBest_81 rfl ?_
    have e9 : bsL S b L = (((L ++ dgL 4 qw) ++ [nI 120]) ++ dgL 4 pw) := by unfold bsL; rw [← ho_8]; show ((L ++ dgN (qAt S b (S.2.1 5 j) (nO S))) ++ [nI 120]) ++ dgN (S.2.1 5 j) = _; rw [epw, eqw, dgN_nI hqw, dgN_nI hpw]
    rw [← e9] at hw
    have hT9 := hp_78
    rw [← e9] at hT9
    exact r_vret C hw rfl u_78 hT9 rfl (Nat.le_of_ble_eq_true rfl) (Nat.le_of_ble_eq_true rfl) dX11_appendBest_82
  · obtain rfl : o_8 = none := (oI_none (fun q hq => by have := best_lt (ho_8.symm.trans hq); have := ok.2.1; omega)).mp c_14
    refine lv_aload_n C.1 C.2.1 dX11_appendBest_17 rfl (lv_at hl 1 rfl) ?_
    refine r_get C hw 19 rfl rfl in_X11 6 (by decide) fl_X11_46 rfl (v := .ref (K 6 0)) rfl dX11_appendBest_18 ?_
    refine lv_bipush (v := 45) C.1 C.2.1 dX11_appendBest_21 (by decide) ?_
    replace hw : WH G s (sbY G (K 6 0) u L ++ (stW G (K 0) S ++ (dmO G K F ++ X))) H locs := hw.perm (((List.perm_append_comm_assoc _ _ _).append_left _).trans (List.perm_append_comm_assoc _ _ _))
    refine r_vr C hw (s_append hF (X := (stW G (K 0) S ++ (dmO G K F ++ X))) hT (k := 45) (by decide) (by (try simp only [List.length_append, List.length_cons, List.length_nil]); omega)) ml_X11_273 yf_J4_append_cf468 0 rfl rfl (As := [.int 45]) rfl rfl ⟨(Nat.le_of_ble_eq_true rfl), (Nat.le_of_ble_eq_true rfl)⟩ ⟨(Nat.le_of_ble_eq_true rfl), (Nat.le_of_ble_eq_true rfl)⟩ hl.1 (Nat.le_of_ble_eq_true rfl) dX11_appendBest_23 (fun u_23 ra_23 H locs hp_23 hw => ?_)
    replace hw : WH G s (sbY G (K 6 0) u_23 (L ++ [nI 45]) ++ (stW G (K 0) S ++ (dmO G K F ++ X))) H locs := hw
    replace hw : WH G s (stW G (K 0) S ++ (dmO G K F ++ (sbY G (K 6 0) u_23 (L ++ [nI 45]) ++ X))) H locs := hw.perm ((List.perm_append_comm_assoc _ _ _).trans ((List.perm_append_comm_assoc _ _ _).append_left _))
    refine lv_pop C.1 C.2.1 dX11_appendBest_26 rfl ?_
    have e9 : bsL S b L = L ++ [nI 45] := by unfold bsL; rw [← ho_8]
    rw [← e9] at hw
    have hT9 := hp_23
    rw [← e9] at hT9
    exact r_vret C hw rfl u_23 hT9 rfl (Nat.le_of_ble_eq_true rfl) (Nat.le_of_ble_eq_true rfl) dX11_appendBest_27

set_option maxHeartbeats 4000000 in
set_option maxRecDepth 100000 in
theorem k11_writeBook {l : Launch} {G : Gx} (hF : SF l G) {K : Nat → Nat → Nat} {S : SV} {F : Nat → Int32} {u : Nat × Nat × (Nat → Int32) × Int32} {L : List Int32} {X : va_W} (hT : sbT u L) (ok : okS S) (hnum : ∀ b j, best S b (nO S) = some j → smN (qAt S b (S.2.1 5 j) (nO S)) ∧ smN (S.2.1 5 j)) : MI l G yX11_writeBook cX11_writeBook 1 .int 8 8 560 [.ref (K 7 0)] (stW G (K 0) S ++ (dmO G K F ++ (sbY G (K 6 0) u L ++ X))) (fun r u9 => r = nI (bsL S false (bsL S true [] ++ [nI 47])).length ∧ sbT u9 (bsL S false (bsL S true [] ++ [nI 47]))) (fun u9 : Nat × Nat × (Nat → Int32) × Int32 => stW G (K 0) S ++ (dmO G K F ++ (sbY G (K 6 0) u9 (bsL S false (bsL S true [] ++ [nI 47])) ++ X))) := by
  refine mt_of hF (by decide) (Nat.le_of_ble_eq_true rfl) ?_
  intro p e s m below meth c C hin ls hl H locs hw
  have hl : lv_has ls 1 [(0, .ref (K 7 0))] := hl
  refine lv_aload_n C.1 C.2.1 dX11_writeBook_0 rfl (lv_at hl 0 rfl) ?_
  refine r_get C hw 19 rfl rfl in_X11 6 (by decide) fl_X11_46 rfl (v := .ref (K 6 0)) rfl dX11_writeBook_1 ?_
  refine lv_iconst (v := 0) C.1 C.2.1 dX11_writeBook_4 (by decide) ?_
  replace hw : WH G s (sbY G (K 6 0) u L ++ (stW G (K 0) S ++ (dmO G K F ++ X))) H locs := hw.perm (((List.perm_append_comm_assoc _ _ _).append_left _).trans (List.perm_append_comm_assoc _ _ _))
  refine r_vv C hw (s_setLength hF (X := (stW G (K 0) S ++ (dmO G K F ++ X))) hT) ml_X11_266 yf_J4_setLength_d00df 0 rfl rfl (As := [.int 0]) rfl rfl ⟨(Nat.le_of_ble_eq_true rfl), (Nat.le_of_ble_eq_true rfl)⟩ ⟨(Nat.le_of_ble_eq_true rfl), (Nat.le_of_ble_eq_true rfl)⟩ hl.1 (Nat.le_of_ble_eq_true rfl) dX11_writeBook_5 (fun u_5 H locs hp_5 hw => ?_)
  replace hw : WH G s (sbY G (K 6 0) u_5 ([]) ++ (stW G (K 0) S ++ (dmO G K F ++ X))) H locs := hw
  replace hw : WH G s (stW G (K 0) S ++ (dmO G K F ++ (sbY G (K 6 0) u_5 ([]) ++ X))) H locs := hw.perm ((List.perm_append_comm_assoc _ _ _).trans ((List.perm_append_comm_assoc _ _ _).append_left _))
  refine lv_aload_n C.1 C.2.1 dX11_writeBook_8 rfl (lv_at hl 0 rfl) ?_
  refine lv_iconst (v := 1) C.1 C.2.1 dX11_writeBook_9 (by decide) ?_
  refine r_vv C hw (k11_appendBest hF (K := K) (S := S) (F := F) (u := u_5) (L := []) (X := X) hp_5 ok true (by simp) (hnum true)) ml_X11_279 yf_X11_appendBest 19 rfl rfl (As := [.int 1]) rfl rfl ⟨(Nat.le_of_ble_eq_true rfl), (Nat.le_of_ble_eq_true rfl)⟩ ⟨(Nat.le_of_ble_eq_true rfl), (Nat.le_of_ble_eq_true rfl)⟩ hl.1 (Nat.le_of_ble_eq_true rfl) dX11_writeBook_10 (fun u_10 H locs hp_10 hw => ?_)
  replace hw : WH G s (stW G (K 0) S ++ (dmO G K F ++ (sbY G (K 6 0) u_10 (bsL S true ([])) ++ X))) H locs := hw
  refine lv_aload_n C.1 C.2.1 dX11_writeBook_13 rfl (lv_at hl 0 rfl) ?_
  refine r_get C hw 19 rfl rfl in_X11 6 (by decide) fl_X11_46 rfl (v := .ref (K 6 0)) rfl dX11_writeBook_14 ?_
  refine lv_bipush (v := 47) C.1 C.2.1 dX11_writeBook_17 (by decide) ?_
  replace hw : WH G s (sbY G (K 6 0) u_10 (bsL S true ([])) ++ (stW G (K 0) S ++ (dmO G K F ++ X))) H locs := hw.perm (((List.perm_append_comm_assoc _ _ _).append_left _).trans (List.perm_append_comm_assoc _ _ _))
  refine r_vr C hw (s_append hF (X := (stW G (K 0) S ++ (dmO G K F ++ X))) hp_10 (k := 47) (by decide) (by have h1 := bsL_len S true []; simp only [List.length_append, List.length_cons, List.length_nil] at *; omega)) ml_X11_273 yf_J4_append_cf468 0 rfl rfl (As := [.int 47]) rfl rfl ⟨(Nat.le_of_ble_eq_true rfl), (Nat.le_of_ble_eq_true rfl)⟩ ⟨(Nat.le_of_ble_eq_true rfl), (Nat.le_of_ble_eq_true rfl)⟩ hl.1 (Nat.le_of_ble_eq_true rfl) dX11_writeBook_19 (fun u_19 ra_19 H locs hp_19 hw => ?_)
  replace hw : WH G s (sbY G (K 6 0) u_19 ((bsL S true ([])) ++ [nI 47]) ++ (stW G (K 0) S ++ (dmO G K F ++ X))) H locs := hw
  replace hw : WH G s (stW G (K 0) S ++ (dmO G K F ++ (sbY G (K 6 0) u_19 ((bsL S true ([])) ++ [nI 47]) ++ X))) H locs := hw.perm ((List.perm_append_comm_assoc _ _ _).trans ((List.perm_append_comm_assoc _ _ _).append_left _))
  refine lv_pop C.1 C.2.1 dX11_writeBook_22 rfl ?_
  refine lv_aload_n C.1 C.2.1 dX11_writeBook_23 rfl (lv_at hl 0 rfl) ?_
  refine lv_iconst (v := 0) C.1 C.2.1 dX11_writeBook_24 (by decide) ?_
  refine r_vv C hw (k11_appendBest hF (K := K) (S := S) (F := F) (u := u_19) (L := ((bsL S true ([])) ++ [nI 47])) (X := X) hp_19 ok false (by have h1 := bsL_len S true []; simp only [List.length_append, List.length_cons, List.length_nil] at *; omega) (hnum false)) ml_X11_279 yf_X11_appendBest 19 rfl rfl (As := [.int 0]) rfl rfl ⟨(Nat.le_of_ble_eq_true rfl), (Nat.le_of_ble_eq_true rfl)⟩ ⟨(Nat.le_of_ble_eq_true rfl), (Nat.le_of_ble_eq_true rfl)⟩ hl.1 (Nat.le_of_ble_eq_true rfl) dX11_writeBook_25 (fun u_25 H locs hp_25 hw => ?_)
  replace hw : WH G s (stW G (K 0) S ++ (dmO G K F ++ (sbY G (K 6 0) u_25 (bsL S false ((bsL S true ([])) ++ [nI 47])) ++ X))) H locs := hw
  refine lv_aload_n C.1 C.2.1 dX11_writeBook_28 rfl (lv_at hl 0 rfl) ?_
  refine r_get C hw 19 rfl rfl in_X11 6 (by decide) fl_X11_46 rfl (v := .ref (K 6 0)) rfl dX11_writeBook_29 ?_
  replace hw : WH G s (sbY G (K 6 0) u_25 (bsL S false ((bsL S true ([])) ++ [nI 47])) ++ (stW G (K 0) S ++ (dmO G K F ++ X))) H locs := hw.perm (((List.perm_append_comm_assoc _ _ _).append_left _).trans (List.perm_append_comm_assoc _ _ _))
  refine r_vi C hw (s_length hF (X := (stW G (K 0) S ++ (dmO G K F ++ X))) hp_25) ml_X11_276 yf_J4_length_8abf5 0 rfl rfl (As := []) rfl rfl ⟨(Nat.le_of_ble_eq_true rfl), (Nat.le_of_ble_eq_true rfl)⟩ ⟨(Nat.le_of_ble_eq_true rfl), (Nat.le_of_ble_eq_true rfl)⟩ hl.1 (Nat.le_of_ble_eq_true rfl) dX11_writeBook_32 (fun r_32 _ H locs hp_32 hw => ?_)
  obtain rfl : r_32 = nI (bsL S false ((bsL S true ([])) ++ [nI 47])).length := hp_32
  replace hw : WH G s (sbY G (K 6 0) u_25 (bsL S false ((bsL S true ([])) ++ [nI 47])) ++ (stW G (K 0) S ++ (dmO G K F ++ X))) H locs := hw
  replace hw : WH G s (stW G (K 0) S ++ (dmO G K F ++ (sbY G (K 6 0) u_25 (bsL S false ((bsL S true ([])) ++ [nI 47])) ++ X))) H locs := hw.perm ((List.perm_append_comm_assoc _ _ _).trans ((List.perm_append_comm_assoc _ _ _).append_left _))
  exact r_iret C hw rfl rfl u_25 (⟨rfl, hp_25⟩) rfl (Nat.le_of_ble_eq_true rfl) (Nat.le_of_ble_eq_true rfl) dX11_writeBook_35

set_option maxHeartbeats 4000000 in
set_option maxRecDepth 100000 in
theorem x11_writeOrder {l : Launch} {G : Gx} (hF : SF l G) {K : Nat → Nat → Nat} {S : SV} {F : Nat → Int32} {u : Nat × Nat × (Nat → Int32) × Int32} {L : List Int32} {X : va_W} (hT : sbT u L) (ok : okS S) (x : Int32) (hnum : ∀ j, slotF S x (nO S) = some j → smN x ∧ smN (S.2.1 6 j) ∧ smN (S.2.1 5 j)) : XI l G yX11_writeOrder cX11_writeOrder 3 .int 8 7 426 [.ref (K 7 0), .int x] (stW G (K 0) S ++ (dmO G K F ++ (sbY G (K 6 0) u L ++ X))) (fun r z => slotF S x (nO S) = some z.1 ∧ r = nI (((((dgN x ++ [if buyS S z.1 = true then nI 98 else nI 115]) ++ dgN (S.2.1 6 z.1)) ++ [nI 120]) ++ dgN (S.2.1 5 z.1))).length ∧ sbT z.2 ((((dgN x ++ [if buyS S z.1 = true then nI 98 else nI 115]) ++ dgN (S.2.1 6 z.1)) ++ [nI 120]) ++ dgN (S.2.1 5 z.1))) (fun z : Nat × (Nat × Nat × (Nat → Int32) × Int32) => stW G (K 0) S ++ (dmO G K F ++ (sbY G (K 6 0) z.2 ((((dgN x ++ [if buyS S z.1 = true then nI 98 else nI 115]) ++ dgN (S.2.1 6 z.1)) ++ [nI 120]) ++ dgN (S.2.1 5 z.1)) ++ X))) (fun k => k = 5 ∧ slotF S x (nO S) = none) (fun _ => stW G (K 0) S ++ (dmO G K F ++ (sbY G (K 6 0) u L ++ X))) := by
  refine mx_of hF (by decide) (Nat.le_of_ble_eq_true rfl) ?_
  intro p e s m below meth c C hnt ls hl H locs hw
  have hl : lv_has ls 3 [(0, .ref (K 7 0)), (1, .int x)] := hl
  refine lv_aload_n C.1 C.2.1 dX11_writeOrder_0 rfl (lv_at hl 0 rfl) ?_
  refine lv_iload_n C.1 C.2.1 dX11_writeOrder_1 rfl (lv_at hl 1 rfl) ?_
  refine x_vi C hw (x11_requireSlot hF ok x (K := K) (F := F) (S := S) (X := sbY G (K 6 0) u L ++ X)) ml_X11_178 yf_X11_requireSlot 19 rfl rfl (As := [.int x]) rfl rfl ⟨(Nat.le_of_ble_eq_true rfl), (Nat.le_of_ble_eq_true rfl)⟩ ⟨(Nat.le_of_ble_eq_true rfl), (Nat.le_of_ble_eq_true rfl)⟩ hl.1 (Nat.le_of_ble_eq_true rfl) dX11_writeOrder_2 hnt (fun k hk => ⟨hk, rfl⟩) (Nat.le_of_ble_eq_true rfl) (Nat.le_of_ble_eq_true rfl) (fun r_2 u_2 H locs hp_2 hw => ?_)
  obtain ⟨j, hj, hsl, hr_2⟩ := hp_2
  have hj20 : j < 20 := Nat.lt_of_lt_of_le hj ok.2.1
  rw [hr_2]
  obtain ⟨⟨xw, hxw, exw⟩, ⟨qw, hqw, eqw⟩, pw, hpw, epw⟩ := hnum j hsl
  replace hw : WH G s (stW G (K 0) S ++ (dmO G K F ++ (sbY G (K 6 0) u L ++ X))) H locs := hw
  refine lv_istore_n (lv' := [(2, .int (nI j)), (0, .ref (K 7 0)), (1, .int x)]) C.1 C.2.1 dX11_writeOrder_5 rfl hl (by decide) rfl (fun ls hl => ?_)
  refine lv_aload_n C.1 C.2.1 dX11_writeOrder_6 rfl (lv_at hl 1 rfl) ?_
  refine r_get C hw 19 rfl rfl in_X11 6 (by decide) fl_X11_46 rfl (v := .ref (K 6 0)) rfl dX11_writeOrder_7 ?_
  refine lv_iconst (v := 0) C.1 C.2.1 dX11_writeOrder_10 (by decide) ?_
  replace hw : WH G s (sbY G (K 6 0) u L ++ (stW G (K 0) S ++ (dmO G K F ++ X))) H locs := hw.perm (((List.perm_append_comm_assoc _ _ _).append_left _).trans (List.perm_append_comm_assoc _ _ _))
  refine r_vv C hw (s_setLength hF (X := (stW G (K 0) S ++ (dmO G K F ++ X))) hT) ml_X11_266 yf_J4_setLength_d00df 0 rfl rfl (As := [.int 0]) rfl rfl ⟨(Nat.le_of_ble_eq_true rfl), (Nat.le_of_ble_eq_true rfl)⟩ ⟨(Nat.le_of_ble_eq_true rfl), (Nat.le_of_ble_eq_true rfl)⟩ hl.1 (Nat.le_of_ble_eq_true rfl) dX11_writeOrder_11 (fun u_11 H locs hp_11 hw => ?_)
  replace hw : WH G s (sbY G (K 6 0) u_11 ([]) ++ (stW G (K 0) S ++ (dmO G K F ++ X))) H locs := hw
  replace hw : WH G s (stW G (K 0) S ++ (dmO G K F ++ (sbY G (K 6 0) u_11 ([]) ++ X))) H locs := hw.perm ((List.perm_append_comm_assoc _ _ _).trans ((List.perm_append_comm_assoc _ _ _).append_left _))
  refine lv_aload_n C.1 C.2.1 dX11_writeOrder_14 rfl (lv_at hl 1 rfl) ?_
  refine r_get C hw 19 rfl rfl in_X11 6 (by decide) fl_X11_46 rfl (v := .ref (K 6 0)) rfl dX11_writeOrder_15 ?_
  refine lv_iload_n C.1 C.2.1 dX11_writeOrder_18 rfl (lv_at hl 2 rfl) ?_
  refine r_toe (show _ = nI xw from exw) ?_
  replace hw : WH G s (sbY G (K 6 0) u_11 ([]) ++ (stW G (K 0) S ++ (dmO G K F ++ X))) H locs := hw.perm (((List.perm_append_comm_assoc _ _ _).append_left _).trans (List.perm_append_comm_assoc _ _ _))
  refine r_vr C hw (s_appendI hF (X := (stW G (K 0) S ++ (dmO G K F ++ X))) hp_11 (w := xw) hxw (by have h0 := dg5 xw; (try simp only [List.length_append, List.length_cons, List.length_nil]); omega)) ml_X11_269 yf_J4_append_bf812 0 rfl rfl (As := [.int (nI xw)]) rfl rfl ⟨(Nat.le_of_ble_eq_true rfl), (Nat.le_of_ble_eq_true rfl)⟩ ⟨(Nat.le_of_ble_eq_true rfl), (Nat.le_of_ble_eq_true rfl)⟩ hl.1 (Nat.le_of_ble_eq_true rfl) dX11_writeOrder_19 (fun u_19 ra_19 H locs hp_19 hw => ?_)
  replace hw : WH G s (sbY G (K 6 0) u_19 ([] ++ dgL 4 xw) ++ (stW G (K 0) S ++ (dmO G K F ++ X))) H locs := hw
  replace hw : WH G s (stW G (K 0) S ++ (dmO G K F ++ (sbY G (K 6 0) u_19 ([] ++ dgL 4 xw) ++ X))) H locs := hw.perm ((List.perm_append_comm_assoc _ _ _).trans ((List.perm_append_comm_assoc _ _ _).append_left _))
  refine lv_pop C.1 C.2.1 dX11_writeOrder_22 rfl ?_
  refine lv_aload_n C.1 C.2.1 dX11_writeOrder_23 rfl (lv_at hl 1 rfl) ?_
  refine r_get C hw 19 rfl rfl in_X11 6 (by decide) fl_X11_46 rfl (v := .ref (K 6 0)) rfl dX11_writeOrder_24 ?_
  refine lv_aload_n C.1 C.2.1 dX11_writeOrder_27 rfl (lv_at hl 1 rfl) ?_
  refine r_get C hw 19 rfl rfl in_X11 0 (by decide) fl_X11_10 rfl (v := .ref (K 0 0)) rfl dX11_writeOrder_28 ?_
  refine r_get C hw 0 rfl rfl in_X9 1 (by decide) fl_X11_161 rfl (v := .ref (K 0 6)) rfl dX11_writeOrder_31 ?_
  refine lv_iload_n C.1 C.2.1 dX11_writeOrder_34 rfl (lv_at hl 0 rfl) ?_
  refine r_vi C hw (k1_buys hF (a := (K 0)) (S := S) (X := (dmO G K F ++ (sbY G (K 6 0) u_19 ([] ++ dgL 4 xw) ++ X))) hj20) ml_X11_181 yf_X1_buys 6 rfl rfl (As := [.int (nI j)]) rfl rfl ⟨(Nat.le_of_ble_eq_true rfl), (Nat.le_of_ble_eq_true rfl)⟩ ⟨(Nat.le_of_ble_eq_true rfl), (Nat.le_of_ble_eq_true rfl)⟩ hl.1 (Nat.le_of_ble_eq_true rfl) dX11_writeOrder_35 (fun r_35 _ H locs hp_35 hw => ?_)
  obtain rfl : r_35 = bI (buyS S j) := hp_35
  replace hw : WH G s (stW G (K 0) S ++ (dmO G K F ++ (sbY G (K 6 0) u_19 ([] ++ dgL 4 xw) ++ X))) H locs := hw
  refine lv_if_eq (tgt := 46) C.1 C.2.1 dX11_writeOrder_38 (by decide) (fun c_38 => ?_) (fun c_38 => ?_)
  · refine lv_bipush (v := 115) C.1 C.2.1 dX11_writeOrder_46 (by decide) ?_
    replace hw : WH G s (sbY G (K 6 0) u_19 ([] ++ dgL 4 xw) ++ (stW G (K 0) S ++ (dmO G K F ++ X))) H locs := hw.perm (((List.perm_append_comm_assoc _ _ _).append_left _).trans (List.perm_append_comm_assoc _ _ _))
    refine r_vr C hw (s_append hF (X := (stW G (K 0) S ++ (dmO G K F ++ X))) hp_19 (k := 115) (by decide) (by have h0 := dg5 xw; (try simp only [List.length_append, List.length_cons, List.length_nil]); omega)) ml_X11_273 yf_J4_append_cf468 0 rfl rfl (As := [.int 115]) rfl rfl ⟨(Nat.le_of_ble_eq_true rfl), (Nat.le_of_ble_eq_true rfl)⟩ ⟨(Nat.le_of_ble_eq_true rfl), (Nat.le_of_ble_eq_true rfl)⟩ hl.1 (Nat.le_of_ble_eq_true rfl) dX11_writeOrder_48 (fun u_48 ra_48 H locs hp_48 hw => ?_)
    replace hw : WH G s (sbY G (K 6 0) u_48 (([] ++ dgL 4 xw) ++ [nI 115]) ++ (stW G (K 0) S ++ (dmO G K F ++ X))) H locs := hw
    replace hw : WH G s (stW G (K 0) S ++ (dmO G K F ++ (sbY G (K 6 0) u_48 (([] ++ dgL 4 xw) ++ [nI 115]) ++ X))) H locs := hw.perm ((List.perm_append_comm_assoc _ _ _).trans ((List.perm_append_comm_assoc _ _ _).append_left _))
    refine lv_pop C.1 C.2.1 dX11_writeOrder_51 rfl ?_
    refine lv_aload_n C.1 C.2.1 dX11_writeOrder_52 rfl (lv_at hl 1 rfl) ?_
    refine r_get C hw 19 rfl rfl in_X11 6 (by decide) fl_X11_46 rfl (v := .ref (K 6 0)) rfl dX11_writeOrder_53 ?_
    refine lv_aload_n C.1 C.2.1 dX11_writeOrder_56 rfl (lv_at hl 1 rfl) ?_
    refine r_get C hw 19 rfl rfl in_X11 0 (by decide) fl_X11_10 rfl (v := .ref (K 0 0)) rfl dX11_writeOrder_57 ?_
    refine r_get C hw 0 rfl rfl in_X9 1 (by decide) fl_X11_161 rfl (v := .ref (K 0 6)) rfl dX11_writeOrder_60 ?_
    refine r_get C hw 6 rfl rfl in_X1 4 (by decide) fl_X11_188 rfl (v := .ref (K 0 15)) rfl dX11_writeOrder_63 ?_
    refine lv_iload_n C.1 C.2.1 dX11_writeOrder_66 rfl (lv_at hl 0 rfl) ?_
    refine r_vi C hw (k7_get hF (strow_6 G (K 0) S (dmO G K F ++ (sbY G (K 6 0) u_48 (([] ++ dgL 4 xw) ++ [nI 115]) ++ X))) (by decide) (strow_e G (K 0) S (dmO G K F ++ (sbY G (K 6 0) u_48 (([] ++ dgL 4 xw) ++ [nI 115]) ++ X)) 6) (nI j)) ml_X11_134 yf_X7_get 15 rfl rfl (As := [.int (nI j)]) rfl rfl ⟨Nat.le_of_ble_eq_true rfl, Nat.le_of_ble_eq_true rfl⟩ ⟨Nat.le_of_ble_eq_true rfl, Nat.le_of_ble_eq_true rfl⟩ hl.1 (Nat.le_of_ble_eq_true rfl) dX11_writeOrder_67 (fun r_67 _ H locs hp_67 hw => ?_)
    obtain rfl : r_67 = ((S.2.1 6) j) := by rw [hp_67]; exact rget_nI (by omega) (by decide)
    replace hw : WH G s (stW G (K 0) S ++ (dmO G K F ++ (sbY G (K 6 0) u_48 (([] ++ dgL 4 xw) ++ [nI 115]) ++ X))) H locs := hw
    refine r_toe (show _ = nI qw from eqw) ?_
    replace hw : WH G s (sbY G (K 6 0) u_48 (([] ++ dgL 4 xw) ++ [nI 115]) ++ (stW G (K 0) S ++ (dmO G K F ++ X))) H locs := hw.perm (((List.perm_append_comm_assoc _ _ _).append_left _).trans (List.perm_append_comm_assoc _ _ _))
    refine r_vr C hw (s_appendI hF (X := (stW G (K 0) S ++ (dmO G K F ++ X))) hp_48 (w := qw) hqw (by have h0 := dg5 xw; have h1 := dg5 qw; (try simp only [List.length_append, List.length_cons, List.length_nil]); omega)) ml_X11_269 yf_J4_append_bf812 0 rfl rfl (As := [.int (nI qw)]) rfl rfl ⟨(Nat.le_of_ble_eq_true rfl), (Nat.le_of_ble_eq_true rfl)⟩ ⟨(Nat.le_of_ble_eq_true rfl), (Nat.le_of_ble_eq_true rfl)⟩ hl.1 (Nat.le_of_ble_eq_true rfl) dX11_writeOrder_70 (fun u_70 ra_70 H locs hp_70 hw => ?_)
    replace hw : WH G s (sbY G (K 6 0) u_70 ((([] ++ dgL 4 xw) ++ [nI 115]) ++ dgL 4 qw) ++ (stW G (K 0) S ++ (dmO G K F ++ X))) H locs := hw
    replace hw : WH G s (stW G (K 0) S ++ (dmO G K F ++ (sbY G (K 6 0) u_70 ((([] ++ dgL 4 xw) ++ [nI 115]) ++ dgL 4 qw) ++ X))) H locs := hw.perm ((List.perm_append_comm_assoc _ _ _).trans ((List.perm_append_comm_assoc _ _ _).append_left _))
    refine lv_pop C.1 C.2.1 dX11_writeOrder_73 rfl ?_
    refine lv_aload_n C.1 C.2.1 dX11_writeOrder_74 rfl (lv_at hl 1 rfl) ?_
    refine r_get C hw 19 rfl rfl in_X11 6 (by decide) fl_X11_46 rfl (v := .ref (K 6 0)) rfl dX11_writeOrder_75 ?_
    refine lv_bipush (v := 120) C.1 C.2.1 dX11_writeOrder_78 (by decide) ?_
    replace hw : WH G s (sbY G (K 6 0) u_70 ((([] ++ dgL 4 xw) ++ [nI 115]) ++ dgL 4 qw) ++ (stW G (K 0) S ++ (dmO G K F ++ X))) H locs := hw.perm (((List.perm_append_comm_assoc _ _ _).append_left _).trans (List.perm_append_comm_assoc _ _ _))
    refine r_vr C hw (s_append hF (X := (stW G (K 0) S ++ (dmO G K F ++ X))) hp_70 (k := 120) (by decide) (by have h0 := dg5 xw; have h1 := dg5 qw; (try simp only [List.length_append, List.length_cons, List.length_nil]); omega)) ml_X11_273 yf_J4_append_cf468 0 rfl rfl (As := [.int 120]) rfl rfl ⟨(Nat.le_of_ble_eq_true rfl), (Nat.le_of_ble_eq_true rfl)⟩ ⟨(Nat.le_of_ble_eq_true rfl), (Nat.le_of_ble_eq_true rfl)⟩ hl.1 (Nat.le_of_ble_eq_true rfl) dX11_writeOrder_80 (fun u_80 ra_80 H locs hp_80 hw => ?_)
    replace hw : WH G s (sbY G (K 6 0) u_80 (((([] ++ dgL 4 xw) ++ [nI 115]) ++ dgL 4 qw) ++ [nI 120]) ++ (stW G (K 0) S ++ (dmO G K F ++ X))) H locs := hw
    replace hw : WH G s (stW G (K 0) S ++ (dmO G K F ++ (sbY G (K 6 0) u_80 (((([] ++ dgL 4 xw) ++ [nI 115]) ++ dgL 4 qw) ++ [nI 120]) ++ X))) H locs := hw.perm ((List.perm_append_comm_assoc _ _ _).trans ((List.perm_append_comm_assoc _ _ _).append_left _))
    refine lv_pop C.1 C.2.1 dX11_writeOrder_83 rfl ?_
    refine lv_aload_n C.1 C.2.1 dX11_writeOrder_84 rfl (lv_at hl 1 rfl) ?_
    refine r_get C hw 19 rfl rfl in_X11 6 (by decide) fl_X11_46 rfl (v := .ref (K 6 0)) rfl dX11_writeOrder_85 ?_
    refine lv_aload_n C.1 C.2.1 dX11_writeOrder_88 rfl (lv_at hl 1 rfl) ?_
    refine r_get C hw 19 rfl rfl in_X11 0 (by decide) fl_X11_10 rfl (v := .ref (K 0 0)) rfl dX11_writeOrder_89 ?_
    refine r_get C hw 0 rfl rfl in_X9 1 (by decide) fl_X11_161 rfl (v := .ref (K 0 6)) rfl dX11_writeOrder_92 ?_
    refine r_get C hw 6 rfl rfl in_X1 3 (by decide) fl_X11_185 rfl (v := .ref (K 0 13)) rfl dX11_writeOrder_95 ?_
    refine lv_iload_n C.1 C.2.1 dX11_writeOrder_98 rfl (lv_at hl 0 rfl) ?_
    refine r_vi C hw (k7_get hF (strow_5 G (K 0) S (dmO G K F ++ (sbY G (K 6 0) u_80 (((([] ++ dgL 4 xw) ++ [nI 115]) ++ dgL 4 qw) ++ [nI 120]) ++ X))) (by decide) (strow_e G (K 0) S (dmO G K F ++ (sbY G (K 6 0) u_80 (((([] ++ dgL 4 xw) ++ [nI 115]) ++ dgL 4 qw) ++ [nI 120]) ++ X)) 5) (nI j)) ml_X11_134 yf_X7_get 13 rfl rfl (As := [.int (nI j)]) rfl rfl ⟨Nat.le_of_ble_eq_true rfl, Nat.le_of_ble_eq_true rfl⟩ ⟨Nat.le_of_ble_eq_true rfl, Nat.le_of_ble_eq_true rfl⟩ hl.1 (Nat.le_of_ble_eq_true rfl) dX11_writeOrder_99 (fun r_99 _ H locs hp_99 hw => ?_)
    obtain rfl : r_99 = ((S.2.1 5) j) := by rw [hp_99]; exact rget_nI (by omega) (by decide)
    replace hw : WH G s (stW G (K 0) S ++ (dmO G K F ++ (sbY G (K 6 0) u_80 (((([] ++ dgL 4 xw) ++ [nI 115]) ++ dgL 4 qw) ++ [nI 120]) ++ X))) H locs := hw
    refine r_toe (show _ = nI pw from epw) ?_
    replace hw : WH G s (sbY G (K 6 0) u_80 (((([] ++ dgL 4 xw) ++ [nI 115]) ++ dgL 4 qw) ++ [nI 120]) ++ (stW G (K 0) S ++ (dmO G K F ++ X))) H locs := hw.perm (((List.perm_append_comm_assoc _ _ _).append_left _).trans (List.perm_append_comm_assoc _ _ _))
    refine r_vr C hw (s_appendI hF (X := (stW G (K 0) S ++ (dmO G K F ++ X))) hp_80 (w := pw) hpw (by have h0 := dg5 xw; have h1 := dg5 qw; have h2 := dg5 pw; (try simp only [List.length_append, List.length_cons, List.length_nil]); omega)) ml_X11_269 yf_J4_append_bf812 0 rfl rfl (As := [.int (nI pw)]) rfl rfl ⟨(Nat.le_of_ble_eq_true rfl), (Nat.le_of_ble_eq_true rfl)⟩ ⟨(Nat.le_of_ble_eq_true rfl), (Nat.le_of_ble_eq_true rfl)⟩ hl.1 (Nat.le_of_ble_eq_true rfl) dX11_writeOrder_102 (fun u_102 ra_102 H locs hp_102 hw => ?_)
    replace hw : WH G s (sbY G (K 6 0) u_102 ((((([] ++ dgL 4 xw) ++ [nI 115]) ++ dgL 4 qw) ++ [nI 120]) ++ dgL 4 pw) ++ (stW G (K 0) S ++ (dmO G K F ++ X))) H locs := hw
    replace hw : WH G s (stW G (K 0) S ++ (dmO G K F ++ (sbY G (K 6 0) u_102 ((((([] ++ dgL 4 xw) ++ [nI 115]) ++ dgL 4 qw) ++ [nI 120]) ++ dgL 4 pw) ++ X))) H locs := hw.perm ((List.perm_append_comm_assoc _ _ _).trans ((List.perm_append_comm_assoc _ _ _).append_left _))
    refine lv_pop C.1 C.2.1 dX11_writeOrder_105 rfl ?_
    refine lv_aload_n C.1 C.2.1 dX11_writeOrder_106 rfl (lv_at hl 1 rfl) ?_
    refine r_get C hw 19 rfl rfl in_X11 6 (by decide) fl_X11_46 rfl (v := .ref (K 6 0)) rfl dX11_writeOrder_107 ?_
    replace hw : WH G s (sbY G (K 6 0) u_102 ((((([] ++ dgL 4 xw) ++ [nI 115]) ++ dgL 4 qw) ++ [nI 120]) ++ dgL 4 pw) ++ (stW G (K 0) S ++ (dmO G K F ++ X))) H locs := hw.perm (((List.perm_append_comm_assoc _ _ _).append_left _).trans (List.perm_append_comm_assoc _ _ _))
    refine r_vi C hw (s_length hF (X := (stW G (K 0) S ++ (dmO G K F ++ X))) hp_102) ml_X11_276 yf_J4_length_8abf5 0 rfl rfl (As := []) rfl rfl ⟨(Nat.le_of_ble_eq_true rfl), (Nat.le_of_ble_eq_true rfl)⟩ ⟨(Nat.le_of_ble_eq_true rfl), (Nat.le_of_ble_eq_true rfl)⟩ hl.1 (Nat.le_of_ble_eq_true rfl) dX11_writeOrder_110 (fun r_110 _ H locs hp_110 hw => ?_)
    obtain rfl : r_110 = nI ((((([] ++ dgL 4 xw) ++ [nI 115]) ++ dgL 4 qw) ++ [nI 120]) ++ dgL 4 pw).length := hp_110
    replace hw : WH G s (sbY G (K 6 0) u_102 ((((([] ++ dgL 4 xw) ++ [nI 115]) ++ dgL 4 qw) ++ [nI 120]) ++ dgL 4 pw) ++ (stW G (K 0) S ++ (dmO G K F ++ X))) H locs := hw
    replace hw : WH G s (stW G (K 0) S ++ (dmO G K F ++ (sbY G (K 6 0) u_102 ((((([] ++ dgL 4 xw) ++ [nI 115]) ++ dgL 4 qw) ++ [nI 120]) ++ dgL 4 pw) ++ X))) H locs := hw.perm ((List.perm_append_comm_assoc _ _ _).trans ((List.perm_append_comm_assoc _ _ _).append_left _))
    have e9 : ((((([] ++ dgL 4 xw) ++ [nI 115]) ++ dgL 4 qw) ++ [nI 120]) ++ dgL 4 pw) = ((((dgN x ++ [if buyS S j = true then nI 98 else nI 115]) ++ dgN (S.2.1 6 j)) ++ [nI 120]) ++ dgN (S.2.1 5 j)) := by rw [if_neg (by rw [bI_eq0.mp c_38]; decide), exw, eqw, epw, dgN_nI hxw, dgN_nI hqw, dgN_nI hpw]; rfl
    rw [e9] at hw
    have hT9 := hp_102
    rw [e9] at hT9
    rw [e9]
    refine vx_ret ?_
    exact r_iret C hw rfl rfl (j, u_102) (⟨hsl, rfl, hT9⟩) rfl (Nat.le_of_ble_eq_true rfl) (Nat.le_of_ble_eq_true rfl) dX11_writeOrder_113
  · refine lv_bipush (v := 98) C.1 C.2.1 dX11_writeOrder_41 (by decide) ?_
    refine lv_goto (tgt := 48) C.1 C.2.1 dX11_writeOrder_43 (by decide) ?_
    replace hw : WH G s (sbY G (K 6 0) u_19 ([] ++ dgL 4 xw) ++ (stW G (K 0) S ++ (dmO G K F ++ X))) H locs := hw.perm (((List.perm_append_comm_assoc _ _ _).append_left _).trans (List.perm_append_comm_assoc _ _ _))
    refine r_vr C hw (s_append hF (X := (stW G (K 0) S ++ (dmO G K F ++ X))) hp_19 (k := 98) (by decide) (by have h0 := dg5 xw; (try simp only [List.length_append, List.length_cons, List.length_nil]); omega)) ml_X11_273 yf_J4_append_cf468 0 rfl rfl (As := [.int 98]) rfl rfl ⟨(Nat.le_of_ble_eq_true rfl), (Nat.le_of_ble_eq_true rfl)⟩ ⟨(Nat.le_of_ble_eq_true rfl), (Nat.le_of_ble_eq_true rfl)⟩ hl.1 (Nat.le_of_ble_eq_true rfl) dX11_writeOrder_48 (fun u_48 ra_48 H locs hp_48 hw => ?_)
    replace hw : WH G s (sbY G (K 6 0) u_48 (([] ++ dgL 4 xw) ++ [nI 98]) ++ (stW G (K 0) S ++ (dmO G K F ++ X))) H locs := hw
    replace hw : WH G s (stW G (K 0) S ++ (dmO G K F ++ (sbY G (K 6 0) u_48 (([] ++ dgL 4 xw) ++ [nI 98]) ++ X))) H locs := hw.perm ((List.perm_append_comm_assoc _ _ _).trans ((List.perm_append_comm_assoc _ _ _).append_left _))
    refine lv_pop C.1 C.2.1 dX11_writeOrder_51 rfl ?_
    refine lv_aload_n C.1 C.2.1 dX11_writeOrder_52 rfl (lv_at hl 1 rfl) ?_
    refine r_get C hw 19 rfl rfl in_X11 6 (by decide) fl_X11_46 rfl (v := .ref (K 6 0)) rfl dX11_writeOrder_53 ?_
    refine lv_aload_n C.1 C.2.1 dX11_writeOrder_56 rfl (lv_at hl 1 rfl) ?_
    refine r_get C hw 19 rfl rfl in_X11 0 (by decide) fl_X11_10 rfl (v := .ref (K 0 0)) rfl dX11_writeOrder_57 ?_
    refine r_get C hw 0 rfl rfl in_X9 1 (by decide) fl_X11_161 rfl (v := .ref (K 0 6)) rfl dX11_writeOrder_60 ?_
    refine r_get C hw 6 rfl rfl in_X1 4 (by decide) fl_X11_188 rfl (v := .ref (K 0 15)) rfl dX11_writeOrder_63 ?_
    refine lv_iload_n C.1 C.2.1 dX11_writeOrder_66 rfl (lv_at hl 0 rfl) ?_
    refine r_vi C hw (k7_get hF (strow_6 G (K 0) S (dmO G K F ++ (sbY G (K 6 0) u_48 (([] ++ dgL 4 xw) ++ [nI 98]) ++ X))) (by decide) (strow_e G (K 0) S (dmO G K F ++ (sbY G (K 6 0) u_48 (([] ++ dgL 4 xw) ++ [nI 98]) ++ X)) 6) (nI j)) ml_X11_134 yf_X7_get 15 rfl rfl (As := [.int (nI j)]) rfl rfl ⟨Nat.le_of_ble_eq_true rfl, Nat.le_of_ble_eq_true rfl⟩ ⟨Nat.le_of_ble_eq_true rfl, Nat.le_of_ble_eq_true rfl⟩ hl.1 (Nat.le_of_ble_eq_true rfl) dX11_writeOrder_67 (fun r_67 _ H locs hp_67 hw => ?_)
    obtain rfl : r_67 = ((S.2.1 6) j) := by rw [hp_67]; exact rget_nI (by omega) (by decide)
    replace hw : WH G s (stW G (K 0) S ++ (dmO G K F ++ (sbY G (K 6 0) u_48 (([] ++ dgL 4 xw) ++ [nI 98]) ++ X))) H locs := hw
    refine r_toe (show _ = nI qw from eqw) ?_
    replace hw : WH G s (sbY G (K 6 0) u_48 (([] ++ dgL 4 xw) ++ [nI 98]) ++ (stW G (K 0) S ++ (dmO G K F ++ X))) H locs := hw.perm (((List.perm_append_comm_assoc _ _ _).append_left _).trans (List.perm_append_comm_assoc _ _ _))
    refine r_vr C hw (s_appendI hF (X := (stW G (K 0) S ++ (dmO G K F ++ X))) hp_48 (w := qw) hqw (by have h0 := dg5 xw; have h1 := dg5 qw; (try simp only [List.length_append, List.length_cons, List.length_nil]); omega)) ml_X11_269 yf_J4_append_bf812 0 rfl rfl (As := [.int (nI qw)]) rfl rfl ⟨(Nat.le_of_ble_eq_true rfl), (Nat.le_of_ble_eq_true rfl)⟩ ⟨(Nat.le_of_ble_eq_true rfl), (Nat.le_of_ble_eq_true rfl)⟩ hl.1 (Nat.le_of_ble_eq_true rfl) dX11_writeOrder_70 (fun u_70 ra_70 H locs hp_70 hw => ?_)
    replace hw : WH G s (sbY G (K 6 0) u_70 ((([] ++ dgL 4 xw) ++ [nI 98]) ++ dgL 4 qw) ++ (stW G (K 0) S ++ (dmO G K F ++ X))) H locs := hw
    replace hw : WH G s (stW G (K 0) S ++ (dmO G K F ++ (sbY G (K 6 0) u_70 ((([] ++ dgL 4 xw) ++ [nI 98]) ++ dgL 4 qw) ++ X))) H locs := hw.perm ((List.perm_append_comm_assoc _ _ _).trans ((List.perm_append_comm_assoc _ _ _).append_left _))
    refine lv_pop C.1 C.2.1 dX11_writeOrder_73 rfl ?_
    refine lv_aload_n C.1 C.2.1 dX11_writeOrder_74 rfl (lv_at hl 1 rfl) ?_
    refine r_get C hw 19 rfl rfl in_X11 6 (by decide) fl_X11_46 rfl (v := .ref (K 6 0)) rfl dX11_writeOrder_75 ?_
    refine lv_bipush (v := 120) C.1 C.2.1 dX11_writeOrder_78 (by decide) ?_
    replace hw : WH G s (sbY G (K 6 0) u_70 ((([] ++ dgL 4 xw) ++ [nI 98]) ++ dgL 4 qw) ++ (stW G (K 0) S ++ (dmO G K F ++ X))) H locs := hw.perm (((List.perm_append_comm_assoc _ _ _).append_left _).trans (List.perm_append_comm_assoc _ _ _))
    refine r_vr C hw (s_append hF (X := (stW G (K 0) S ++ (dmO G K F ++ X))) hp_70 (k := 120) (by decide) (by have h0 := dg5 xw; have h1 := dg5 qw; (try simp only [List.length_append, List.length_cons, List.length_nil]); omega)) ml_X11_273 yf_J4_append_cf468 0 rfl rfl (As := [.int 120]) rfl rfl ⟨(Nat.le_of_ble_eq_true rfl), (Nat.le_of_ble_eq_true rfl)⟩ ⟨(Nat.le_of_ble_eq_true rfl), (Nat.le_of_ble_eq_true rfl)⟩ hl.1 (Nat.le_of_ble_eq_true rfl) dX11_writeOrder_80 (fun u_80 ra_80 H locs hp_80 hw => ?_)
    replace hw : WH G s (sbY G (K 6 0) u_80 (((([] ++ dgL 4 xw) ++ [nI 98]) ++ dgL 4 qw) ++ [nI 120]) ++ (stW G (K 0) S ++ (dmO G K F ++ X))) H locs := hw
    replace hw : WH G s (stW G (K 0) S ++ (dmO G K F ++ (sbY G (K 6 0) u_80 (((([] ++ dgL 4 xw) ++ [nI 98]) ++ dgL 4 qw) ++ [nI 120]) ++ X))) H locs := hw.perm ((List.perm_append_comm_assoc _ _ _).trans ((List.perm_append_comm_assoc _ _ _).append_left _))
    refine lv_pop C.1 C.2.1 dX11_writeOrder_83 rfl ?_
    refine lv_aload_n C.1 C.2.1 dX11_writeOrder_84 rfl (lv_at hl 1 rfl) ?_
    refine r_get C hw 19 rfl rfl in_X11 6 (by decide) fl_X11_46 rfl (v := .ref (K 6 0)) rfl dX11_writeOrder_85 ?_
    refine lv_aload_n C.1 C.2.1 dX11_writeOrder_88 rfl (lv_at hl 1 rfl) ?_
    refine r_get C hw 19 rfl rfl in_X11 0 (by decide) fl_X11_10 rfl (v := .ref (K 0 0)) rfl dX11_writeOrder_89 ?_
    refine r_get C hw 0 rfl rfl in_X9 1 (by decide) fl_X11_161 rfl (v := .ref (K 0 6)) rfl dX11_writeOrder_92 ?_
    refine r_get C hw 6 rfl rfl in_X1 3 (by decide) fl_X11_185 rfl (v := .ref (K 0 13)) rfl dX11_writeOrder_95 ?_
    refine lv_iload_n C.1 C.2.1 dX11_writeOrder_98 rfl (lv_at hl 0 rfl) ?_
    refine r_vi C hw (k7_get hF (strow_5 G (K 0) S (dmO G K F ++ (sbY G (K 6 0) u_80 (((([] ++ dgL 4 xw) ++ [nI 98]) ++ dgL 4 qw) ++ [nI 120]) ++ X))) (by decide) (strow_e G (K 0) S (dmO G K F ++ (sbY G (K 6 0) u_80 (((([] ++ dgL 4 xw) ++ [nI 98]) ++ dgL 4 qw) ++ [nI 120]) ++ X)) 5) (nI j)) ml_X11_134 yf_X7_get 13 rfl rfl (As := [.int (nI j)]) rfl rfl ⟨Nat.le_of_ble_eq_true rfl, Nat.le_of_ble_eq_true rfl⟩ ⟨Nat.le_of_ble_eq_true rfl, Nat.le_of_ble_eq_true rfl⟩ hl.1 (Nat.le_of_ble_eq_true rfl) dX11_writeOrder_99 (fun r_99 _ H locs hp_99 hw => ?_)
    obtain rfl : r_99 = ((S.2.1 5) j) := by rw [hp_99]; exact rget_nI (by omega) (by decide)
    replace hw : WH G s (stW G (K 0) S ++ (dmO G K F ++ (sbY G (K 6 0) u_80 (((([] ++ dgL 4 xw) ++ [nI 98]) ++ dgL 4 qw) ++ [nI 120]) ++ X))) H locs := hw
    refine r_toe (show _ = nI pw from epw) ?_
    replace hw : WH G s (sbY G (K 6 0) u_80 (((([] ++ dgL 4 xw) ++ [nI 98]) ++ dgL 4 qw) ++ [nI 120]) ++ (stW G (K 0) S ++ (dmO G K F ++ X))) H locs := hw.perm (((List.perm_append_comm_assoc _ _ _).append_left _).trans (List.perm_append_comm_assoc _ _ _))
    refine r_vr C hw (s_appendI hF (X := (stW G (K 0) S ++ (dmO G K F ++ X))) hp_80 (w := pw) hpw (by have h0 := dg5 xw; have h1 := dg5 qw; have h2 := dg5 pw; (try simp only [List.length_append, List.length_cons, List.length_nil]); omega)) ml_X11_269 yf_J4_append_bf812 0 rfl rfl (As := [.int (nI pw)]) rfl rfl ⟨(Nat.le_of_ble_eq_true rfl), (Nat.le_of_ble_eq_true rfl)⟩ ⟨(Nat.le_of_ble_eq_true rfl), (Nat.le_of_ble_eq_true rfl)⟩ hl.1 (Nat.le_of_ble_eq_true rfl) dX11_writeOrder_102 (fun u_102 ra_102 H locs hp_102 hw => ?_)
    replace hw : WH G s (sbY G (K 6 0) u_102 ((((([] ++ dgL 4 xw) ++ [nI 98]) ++ dgL 4 qw) ++ [nI 120]) ++ dgL 4 pw) ++ (stW G (K 0) S ++ (dmO G K F ++ X))) H locs := hw
    replace hw : WH G s (stW G (K 0) S ++ (dmO G K F ++ (sbY G (K 6 0) u_102 ((((([] ++ dgL 4 xw) ++ [nI 98]) ++ dgL 4 qw) ++ [nI 120]) ++ dgL 4 pw) ++ X))) H locs := hw.perm ((List.perm_append_comm_assoc _ _ _).trans ((List.perm_append_comm_assoc _ _ _).append_left _))
    refine lv_pop C.1 C.2.1 dX11_writeOrder_105 rfl ?_
    refine lv_aload_n C.1 C.2.1 dX11_writeOrder_106 rfl (lv_at hl 1 rfl) ?_
    refine r_get C hw 19 rfl rfl in_X11 6 (by decide) fl_X11_46 rfl (v := .ref (K 6 0)) rfl dX11_writeOrder_107 ?_
    replace hw : WH G s (sbY G (K 6 0) u_102 ((((([] ++ dgL 4 xw) ++ [nI 98]) ++ dgL 4 qw) ++ [nI 120]) ++ dgL 4 pw) ++ (stW G (K 0) S ++ (dmO G K F ++ X))) H locs := hw.perm (((List.perm_append_comm_assoc _ _ _).append_left _).trans (List.perm_append_comm_assoc _ _ _))
    refine r_vi C hw (s_length hF (X := (stW G (K 0) S ++ (dmO G K F ++ X))) hp_102) ml_X11_276 yf_J4_length_8abf5 0 rfl rfl (As := []) rfl rfl ⟨(Nat.le_of_ble_eq_true rfl), (Nat.le_of_ble_eq_true rfl)⟩ ⟨(Nat.le_of_ble_eq_true rfl), (Nat.le_of_ble_eq_true rfl)⟩ hl.1 (Nat.le_of_ble_eq_true rfl) dX11_writeOrder_110 (fun r_110 _ H locs hp_110 hw => ?_)
    obtain rfl : r_110 = nI ((((([] ++ dgL 4 xw) ++ [nI 98]) ++ dgL 4 qw) ++ [nI 120]) ++ dgL 4 pw).length := hp_110
    replace hw : WH G s (sbY G (K 6 0) u_102 ((((([] ++ dgL 4 xw) ++ [nI 98]) ++ dgL 4 qw) ++ [nI 120]) ++ dgL 4 pw) ++ (stW G (K 0) S ++ (dmO G K F ++ X))) H locs := hw
    replace hw : WH G s (stW G (K 0) S ++ (dmO G K F ++ (sbY G (K 6 0) u_102 ((((([] ++ dgL 4 xw) ++ [nI 98]) ++ dgL 4 qw) ++ [nI 120]) ++ dgL 4 pw) ++ X))) H locs := hw.perm ((List.perm_append_comm_assoc _ _ _).trans ((List.perm_append_comm_assoc _ _ _).append_left _))
    have e9 : ((((([] ++ dgL 4 xw) ++ [nI 98]) ++ dgL 4 qw) ++ [nI 120]) ++ dgL 4 pw) = ((((dgN x ++ [if buyS S j = true then nI 98 else nI 115]) ++ dgN (S.2.1 6 j)) ++ [nI 120]) ++ dgN (S.2.1 5 j)) := by rw [if_pos (bI_ne0.mp c_38), exw, eqw, epw, dgN_nI hxw, dgN_nI hqw, dgN_nI hpw]; rfl
    rw [e9] at hw
    have hT9 := hp_102
    rw [e9] at hT9
    rw [e9]
    refine vx_ret ?_
    exact r_iret C hw rfl rfl (j, u_102) (⟨hsl, rfl, hT9⟩) rfl (Nat.le_of_ble_eq_true rfl) (Nat.le_of_ble_eq_true rfl) dX11_writeOrder_113

