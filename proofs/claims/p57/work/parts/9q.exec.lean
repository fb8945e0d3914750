/-! The law: executes, execute -/
set_option maxHeartbeats 4000000 in
set_option maxRecDepth 100000 in
theorem m_executes {l : Launch} {G : Gx} (hF : SF l G) {c d : Int} {D : CD} {U : MV_} (h : Sm c D U) (hd : c + 60 ≤ d) (hd4 : d ≤ 40000) {K r : Nat → Nat → Nat} {X : va_W} : HI l G yL_executes cL_executes 2 [(0, 4, 5, 14), (0, 4, 8, 16)] 10 70 300 [.ref (K 7 0)] (cW G K r D X) (fun v (D2 : CD) => MuP d D v D2) (fun D2 => cW G K r D2 X) := by
  obtain ⟨-, s1, s2⟩ := sim_exec h hd hd4
  refine w_executes hF (x11_execute hF (K := K) (S := D.S) (B := D.B) (r := r) (V := D.V) (nw := D.nw) (dp := D.dp) (F := D.F) (u := D.ut) (L := D.LT) (vb := D.vb) (p0 := D.p0) (g := D.gp) (X := uwX G K r D X) h.tt h.t7 h.tl h.vb h.ok h.b2 h.nw h.dp) (pw_X _ _ _ _ _ _ _ _ _ _) 24 rfl (fun r9 u9 hp => ?_) (fun k1 hp => ?_)
  · obtain ⟨p1, p2, p3⟩ := hp
    obtain ⟨t1, t2, t3⟩ := (s2 _ p1).1 rfl
    have hlt := cnC_lt p1
    refine ⟨(cdm (exC D.LT D.S D.vb D.gp).2.1 D.S D.N (va_up D.V (rgN D.nw) D.S) (rgN D.nw) (min (D.dp + 1) 8) D.f D.g u9 [] (exC D.LT D.S D.vb D.gp).2.2.2.1 0 (exC D.LT D.S D.vb D.gp).2.2.2.2 D.ul D.LL D.F), ⟨⟨_, t3 u9 p3⟩, Or.inr ⟨?_, rfl, rfl, rfl⟩⟩, (pw_X _ _ _ _ _ _ _ _ _ _).symm⟩
    rw [p2, i_nI (by omega)]
    omega
  · rcases hp with ⟨p1, p2, p3⟩ | ⟨p1, ⟨N, p2, p4⟩, p3⟩
    · obtain ⟨t1, t2⟩ := s1 p2
      refine ⟨Or.inl p1, (cdm D.S D.B D.N D.V D.nw D.dp D.f D.g k1.2 [] (cnC D.LT 60 1 0 D.vb D.gp).2.2.1 0 (cnC D.LT 60 1 0 D.vb D.gp).2.2.2 D.ul D.LL (va_up D.F 1 (nI (cnC D.LT 60 1 0 D.vb D.gp).2.1))), ⟨⟨_, t2 k1.2 p3⟩, Or.inl ⟨by rw [p1]; decide, rfl, rfl, rfl, rfl⟩⟩, ?_⟩
      rw [if_pos p1]
      exact (pw_X _ _ _ _ _ _ _ _ _ _).symm
    · obtain ⟨t1, t2⟩ := (s2 N p2).2 p4
      refine ⟨Or.inr p1, (cdm D.S D.S D.N D.V D.nw D.dp D.f D.g k1.2 [] (exC D.LT D.S D.vb D.gp).2.2.2.1 0 (exC D.LT D.S D.vb D.gp).2.2.2.2 D.ul D.LL (va_up D.F 2 (nI (exC D.LT D.S D.vb D.gp).1))), ⟨⟨_, t2 k1.2 p3⟩, Or.inl ⟨by rw [p1]; decide, rfl, rfl, rfl, rfl⟩⟩, ?_⟩
      rw [if_neg (by rw [p1]; decide)]
      exact (pw_X _ _ _ _ _ _ _ _ _ _).symm
theorem MuP.of {c d : Int} {D E D2 : CD} {v : Int32} (h : MuP d E v D2) (e : E.S = D.S ∧ E.V = D.V ∧ E.nw = D.nw ∧ E.dp = D.dp) : MuP d D v D2 := by
  obtain ⟨u, hh⟩ := h
  obtain ⟨e1, e2, e3, e4⟩ := e
  rw [e1, e2, e3, e4] at hh
  exact ⟨u, hh⟩
theorem MuP.mono {c d : Int} {D D2 : CD} {v : Int32} (h : MuP c D v D2) (h1 : c ≤ d) (h2 : d ≤ 40000) : MuP d D v D2 := by
  obtain ⟨⟨U, u⟩, hh⟩ := h
  exact ⟨⟨U, u.mono h1 h2⟩, hh⟩
set_option maxHeartbeats 4000000 in
set_option maxRecDepth 100000 in
theorem k_execute {l : Launch} {G : Gx} (hF : SF l G) {c9 : Int} {D : CD} {U : MV_} (h : Sm c9 D U) (hc9 : c9 ≤ 30000) {a : Nat} {M : List Int32} {X : va_W} (ht : Txt G a M X) (hM : M.length ≤ 40) {K r : Nat → Nat → Nat} : MI l G yL_execute cL_execute 3 .int 12 160 3500 [.ref (K 7 0), .ref a] (cW G K r D X) (fun v (D2 : CD) => MuP (c9 + 2500) D v D2) (fun D2 => cW G K r D2 X) := by
  refine mt_of hF (by decide) (Nat.le_of_ble_eq_true rfl) ?_
  intro p e s m below meth c0 C hin ls hl H locs hw
  have hl : lv_has ls 3 [(0, .ref (K 7 0)), (1, .ref a)] := hl
  refine lv_iconst (v := 0) C.1 C.2.1 dL_execute_0 (by decide) ?_
  refine lv_istore_n (lv' := [(2, .int 0), (0, .ref (K 7 0)), (1, .ref a)]) C.1 C.2.1 dL_execute_1 rfl hl (by decide) rfl (fun ls hl => ?_)
  refine W.widen (k := 2 * 0) (n := 76 * 0) (by omega) (by omega) ?_
  refine w_loop (σ := Nat × CD) G (fun u ⟨k, E⟩ => k ≤ M.length ∧ k + u = M.length + 1 ∧ (E.S = D.S ∧ E.V = D.V ∧ E.nw = D.nw ∧ E.dp = D.dp) ∧ ∃ V, Sm (c9 + 60 * (k : Int)) E V) (fun ⟨k, E⟩ => cW G K r E X) (fun ⟨k, E⟩ => 2 * k) (fun ⟨k, E⟩ => 76 * k) (fun ⟨k, E⟩ => [(2, .int (nI k)), (1, .ref a), (0, .ref (K 7 0))]) 3 ?_ ?_ (M.length + 1) ⟨0, D⟩ (⟨by omega, by omega, ⟨rfl, rfl, rfl, rfl⟩, U, h.mono (by omega) (by omega)⟩) hw (lv_sub hl [0, 2, 1] rfl)
  · rintro n2 ⟨k, E⟩ ⟨hk8, hk9, hS, V, hE⟩ ih2 H locs hw ls hl
    replace hw : WH G s (cW G K r E X) H locs := hw
    replace hl : lv_has ls 3 [(2, .int (nI k)), (1, .ref a), (0, .ref (K 7 0))] := hl
    show W p l e _ s m _ below meth c0 H locs (2 * k) (76 * k) _ (F0 m 2 ls [])
    refine lv_iload_n C.1 C.2.1 dL_execute_2 rfl (lv_at hl 0 rfl) ?_
    refine lv_aload_n C.1 C.2.1 dL_execute_3 rfl (lv_at hl 1 rfl) ?_
    refine lx_tlen C hw ht (by omega) ⟨(Nat.le_of_ble_eq_true rfl), (Nat.le_of_ble_eq_true rfl)⟩ ⟨by show _ ≤ 160; omega, by show _ ≤ 3500; omega⟩ hl.1 (Nat.le_of_ble_eq_true rfl) dL_execute_4 (fun H locs hw => ?_)
    refine lv_icmp_ge (tgt := 34) C.1 C.2.1 dL_execute_7 (by decide) (fun c_7 => ?_) (fun c_7 => ?_)
    · skip
      refine lv_aload_n C.1 C.2.1 dL_execute_34 rfl (lv_at hl 2 rfl) ?_
      refine r_hsi C hw (m_executes hF hE (d := c9 + 2500) (by omega) (by omega) (K := K) (r := r) (X := X)) ml_L_158 yf_L_executes (As := [.ref (K 7 0)]) rfl rfl ⟨(Nat.le_of_ble_eq_true rfl), (Nat.le_of_ble_eq_true rfl)⟩ ⟨by show _ ≤ 160; omega, by show _ ≤ 3500; omega⟩ hl.1 (Nat.le_of_ble_eq_true rfl) dL_execute_35 (fun r_35 E35 H locs hp_35 hw => ?_)
      replace hw : WH G s (cW G K r E35 X) H locs := hw
      exact r_iret C hw rfl rfl E35 (MuP.of (c := 0) hp_35 hS) rfl (by show _ ≤ 160; omega) (by show _ ≤ 3500; omega) dL_execute_38
    · have hk : k < M.length := by rw [nI_leI (by omega) (by omega)] at c_7; omega
      refine lv_aload_n C.1 C.2.1 dL_execute_10 rfl (lv_at hl 2 rfl) ?_
      refine lv_aload_n C.1 C.2.1 dL_execute_11 rfl (lv_at hl 1 rfl) ?_
      refine lv_iload_n C.1 C.2.1 dL_execute_12 rfl (lv_at hl 0 rfl) ?_
      refine lx_tch C hw ht (i := k) hk (by omega) ⟨(Nat.le_of_ble_eq_true rfl), (Nat.le_of_ble_eq_true rfl)⟩ ⟨by show _ ≤ 160; omega, by show _ ≤ 3500; omega⟩ hl.1 (Nat.le_of_ble_eq_true rfl) dL_execute_13 (fun H locs hw => ?_)
      generalize M.getD k 0 &&& 255 = ch
      refine r_hsi C hw (m_type hF hE (d := c9 + 60 * ((k : Int) + 1)) (by omega) (by omega) ch (K := K) (r := r) (X := X)) ml_L_153 yf_L_type (As := [.ref (K 7 0), .int ch]) rfl rfl ⟨(Nat.le_of_ble_eq_true rfl), (Nat.le_of_ble_eq_true rfl)⟩ ⟨by show _ ≤ 160; omega, by show _ ≤ 3500; omega⟩ hl.1 (Nat.le_of_ble_eq_true rfl) dL_execute_16 (fun r_16 E16 H locs hp_16 hw => ?_)
      obtain ⟨⟨V16, hE16⟩, hS16⟩ := hp_16
      have hS16 : E16.S = D.S ∧ E16.V = D.V ∧ E16.nw = D.nw ∧ E16.dp = D.dp := ⟨hS16.1.trans hS.1, hS16.2.1.trans hS.2.1, hS16.2.2.1.trans hS.2.2.1, hS16.2.2.2.trans hS.2.2.2⟩
      replace hw : WH G s (cW G K r E16 X) H locs := hw
      refine lv_iload_n C.1 C.2.1 dL_execute_19 rfl (lv_at hl 0 rfl) ?_
      refine lv_iconst (v := 1) C.1 C.2.1 dL_execute_20 (by decide) ?_
      refine lv_iadd C.1 C.2.1 dL_execute_21 ?_
      refine r_toe (show _ = nI (k + 1) from nI_add k 1) ?_
      refine lv_icmp_eq (tgt := 28) C.1 C.2.1 dL_execute_22 (by decide) (fun c_22 => ?_) (fun c_22 => ?_)
      · refine lv_iinc (v := nI (k + 1)) (lv' := [(2, .int (nI (k + 1))), (1, .ref a), (0, .ref (K 7 0))]) C.1 C.2.1 dL_execute_28 hl (k := 0) rfl (nI_add k 1) (by decide) rfl (fun ls hl => ?_)
        refine lv_goto (tgt := 2) C.1 C.2.1 dL_execute_31 (by decide) ?_
        exact W.widen (k := 2 * (k + 1)) (n := 76 * (k + 1)) (by omega) (by omega) (ih2 ⟨(k + 1), E16⟩ (⟨by omega, by omega, hS16, V16, hE16.mono (by omega) (by omega)⟩) _ _ hw _ (lv_sub hl [0, 1, 2] rfl))
      · refine lv_bipush (v := -9) C.1 C.2.1 dL_execute_25 (by decide) ?_
        exact r_iret C hw rfl rfl E16 (⟨⟨V16, hE16.mono (by omega) (by omega)⟩, Or.inl ⟨by decide, hS16.1, hS16.2.1, hS16.2.2.1, hS16.2.2.2⟩⟩) rfl (by show _ ≤ 160; omega) (by show _ ≤ 3500; omega) dL_execute_27
  · rintro ⟨k, E⟩ ⟨hk8, hk9, -⟩; omega

