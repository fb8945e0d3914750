/-! The law: texts beside the market -/
set_option maxHeartbeats 4000000 in
set_option maxRecDepth 100000 in
theorem s_appendI2 {l : Launch} {G : Gx} (hF : SF l G) {X : va_W} {b : Nat} {u : Nat × Nat × (Nat → Int32) × Int32} {L : List Int32} (hT : sbT u L) {w : Nat} (hwb : w < 100000) (h1 : L.length + (dgL 4 w).length ≤ 70) : MR l G yJ4_append_bf812 cJ4_append_bf812 2 (.object "java/lang/StringBuilder") 5 1 70 [.ref b, .int (nI w)] (sbY G b u L ++ X) (fun u1 => sbT u1 (L ++ dgL 4 w)) (fun (u1 : Nat × Nat × (Nat → Int32) × Int32) ra => sbY G ra u1 (L ++ dgL 4 w) ++ X) := by
  refine mt_of hF (by decide) (Nat.le_of_ble_eq_true rfl) ?_
  intro p e s m below meth c C hin ls hl H locs hw
  have hl : lv_has ls 2 [(0, .ref b), (1, .int (nI w))] := hl
  refine lv_aload_n C.1 C.2.1 dJ4_append_bf812_0 rfl (lv_at hl 0 rfl) ?_
  refine lv_iload_n C.1 C.2.1 dJ4_append_bf812_1 rfl (lv_at hl 1 rfl) ?_
  refine r_sur C hw (j5_appendI hF (X := X) (b := b) (v := u.1) (cp := u.2.1) (n := L.length) (f := u.2.2.1) (mb := u.2.2.2) hT.1 hT.2.2.1 hwb hT.2.1 h1) rfl (by decide +kernel) ml_J4_53 yf_J5_append_c97b9 0 rfl (As := [.int (nI w)]) rfl rfl ⟨(Nat.le_of_ble_eq_true rfl), (Nat.le_of_ble_eq_true rfl)⟩ ⟨(Nat.le_of_ble_eq_true rfl), (Nat.le_of_ble_eq_true rfl)⟩ hl.1 (Nat.le_of_ble_eq_true rfl) dJ4_append_bf812_2 (fun u_2 ra_2 H locs hp_2 hw => ?_)
  replace hw : WH G s (sbW G b u_2.1 u_2.2.1 u_2.2.2 u.2.2.2 (nI (L.length + (dgL 4 w).length)) ++ X) H locs := hw
  refine lv_pop C.1 C.2.1 dJ4_append_bf812_5 rfl ?_
  refine lv_aload_n C.1 C.2.1 dJ4_append_bf812_6 rfl (lv_at hl 0 rfl) ?_
  exact r_rret C hw rfl (Or.inl ⟨_, rfl⟩) (u_2.1, u_2.2.1, u_2.2.2, u.2.2.2) (sbT_app hT hp_2.1 hp_2.2.1 hp_2.2.2.1 hp_2.2.2.2.1 hp_2.2.2.2.2) (by unfold sbY; rw [List.length_append] <;> rfl) (Nat.le_of_ble_eq_true rfl) (Nat.le_of_ble_eq_true rfl) dJ4_append_bf812_7
set_option maxHeartbeats 4000000 in
set_option maxRecDepth 100000 in
theorem s_appendS2 {l : Launch} {G : Gx} (hF : SF l G) {X : va_W} {a b : Nat} {u : Nat × Nat × (Nat → Int32) × Int32} {L M : List Int32} (hT : sbT u L) (ht : Txt G a M X) (hM : bfit M) (h1 : L.length + M.length ≤ 70) (h2 : M.length ≤ 18) : MR l G yJ4_append_15ec4 cJ4_append_15ec4 2 (.object "java/lang/StringBuilder") 5 1 70 [.ref b, .ref a] (sbY G b u L ++ X) (fun u1 => sbT u1 (L ++ M)) (fun (u1 : Nat × Nat × (Nat → Int32) × Int32) ra => sbY G ra u1 (L ++ M) ++ X) := by
  refine mt_of hF (by decide) (Nat.le_of_ble_eq_true rfl) ?_
  intro p e s m below meth c C hin ls hl H locs hw
  have hl : lv_has ls 2 [(0, .ref b), (1, .ref a)] := hl
  refine lv_aload_n C.1 C.2.1 dJ4_append_15ec4_0 rfl (lv_at hl 0 rfl) ?_
  refine lv_aload_n C.1 C.2.1 dJ4_append_15ec4_1 rfl (lv_at hl 1 rfl) ?_
  refine r_sur C hw (j5_appendS hF (X := X) (a := a) (b := b) (v := u.1) (cp := u.2.1) (n := L.length) (f := u.2.2.1) (mb := u.2.2.2) (L := M) hT.1 hT.2.2.1 hT.2.1 ht hM h1 h2) rfl (by decide +kernel) ml_J4_29 yf_J5_append_cf1ce 0 rfl (As := [.ref a]) rfl rfl ⟨(Nat.le_of_ble_eq_true rfl), (Nat.le_of_ble_eq_true rfl)⟩ ⟨(Nat.le_of_ble_eq_true rfl), (Nat.le_of_ble_eq_true rfl)⟩ hl.1 (Nat.le_of_ble_eq_true rfl) dJ4_append_15ec4_2 (fun u_2 ra_2 H locs hp_2 hw => ?_)
  replace hw : WH G s (sbW G b u_2.1 u_2.2.1 u_2.2.2 u.2.2.2 (nI (L.length + M.length)) ++ X) H locs := hw
  refine lv_pop C.1 C.2.1 dJ4_append_15ec4_5 rfl ?_
  refine lv_aload_n C.1 C.2.1 dJ4_append_15ec4_6 rfl (lv_at hl 0 rfl) ?_
  exact r_rret C hw rfl (Or.inl ⟨_, rfl⟩) (u_2.1, u_2.2.1, u_2.2.2, u.2.2.2) (sbT_app hT hp_2.1 hp_2.2.1 hp_2.2.2.1 hp_2.2.2.2.1 hp_2.2.2.2.2) (by unfold sbY; rw [List.length_append] <;> rfl) (Nat.le_of_ble_eq_true rfl) (Nat.le_of_ble_eq_true rfl) dJ4_append_15ec4_7
theorem dgL_l : ∀ {t n k : Nat}, n < 10 ^ (k + 1) → (dgL t n).length ≤ k + 1
  | 0, n, k, h => by
    rw [show dgL 0 n = [nI (48 + n % 10)] from rfl, List.length_singleton]
    omega
  | t + 1, n, 0, h => by
    rw [dgL, if_pos (by omega), List.length_singleton]
    omega
  | t + 1, n, k + 1, h => by
    rw [dgL]
    split
    · rw [List.length_singleton]; omega
    · have := @dgL_l t (n / 10) k (by rw [Nat.pow_succ] at h; omega)
      rw [List.length_append, List.length_singleton]
      omega
theorem bfit_c7 {L : List Int32} (h : ∀ y, y ∈ L → c7 y) : bfit L := fun j hj => by
  obtain ⟨k, hk, e⟩ := c7_all h j hj
  rw [e]
  exact fb_nI hk
theorem sb_lt {u : Nat × Nat × (Nat → Int32) × Int32} {L : List Int32} (h : sbT u L) (hl : L.length < 16 ∨ (16 < L.length ∧ L.length < 34)) : L.length < u.2.1 := by
  have h2 := h.2.1
  rcases h.1 with e | e | e <;> omega
abbrev txW (G : Gx) (a v n : Nat) (f : Nat → Int32) : va_W := [(a, .inr (0, [.ref v, .int 0, .int 0, .int 0])), (v, .inl (G.2.2.1 1, n, .inl f))]
theorem cw_inl (G : Gx) (K r : Nat → Nat → Nat) (D : CD) (B X : va_W) : List.Perm (cW G K r D (B ++ X)) (B ++ cW G K r D X) := by
  rw [cw_app G K r D (B ++ X), cw_app G K r D X]
  exact List.perm_append_comm_assoc _ _ _
theorem cw_two (G : Gx) (K r : Nat → Nat → Nat) (D : CD) (A B X : va_W) : List.Perm (cW G K r D (A ++ (B ++ X))) (cW G K r D (B ++ (A ++ X))) := by
  rw [cw_app G K r D (A ++ (B ++ X)), cw_app G K r D (B ++ (A ++ X))]
  exact (List.perm_append_comm_assoc _ _ _).append_left _
theorem cw_few {s : State} {H : Heap} {locs : List Loc} {G : Gx} {K r : Nat → Nat → Nat} {D : CD} (B : va_W) {X : va_W} (h : WH G s (cW G K r D (B ++ X)) H locs) : WH G s (cW G K r D X) H locs := by
  rw [cw_app] at h ⊢
  exact h.fewer (List.Sublist.append (List.Sublist.refl _) (List.sublist_append_right _ _))
theorem Txt.cw {G : Gx} {a : Nat} {L : List Int32} {X : va_W} (h : Txt G a L X) (K r : Nat → Nat → Nat) (D : CD) : Txt G a L (cW G K r D X) := by
  rw [cw_app]
  exact h.app _
section SROWS
variable {p : Program} {l : Launch} {e : Env} {R : Room} {s : State} {m : MethodId} {args : Array Value} {below : List Frame} {meth : Method} {c : Code} {H : Heap} {locs : List Loc} {cells slots : Nat} {Q : State → Prop}
variable {G : Gx} {cc : ByteArray} {nL : Nat} {ret : Option FieldType} {pc : Nat} {ls : Array Slot} {rest st : List Value} {w X : va_W} {a b : Nat} {L M : List Int32} {K r : Nat → Nat → Nat} {D : CD} {u : Nat × Nat × (Nat → Int32) × Int32}
theorem r_ldcSw {own : String} (C : Cx l G own cc nL ret p s m meth c args) {index q : Nat} {tx : String} (h : vk_R own index tx q G.2.1) (hdg : decode cc pc = .ok (.ldc_w index, 3))
    (kk : W p l e R s m args below meth c H locs cells slots Q (F0 m (pc + 3) ls (.ref q :: rest))) : W p l e R s m args below meth c H locs cells slots Q (F0 m pc ls rest) := by
  obtain ⟨hx, hb, hr, hml, hown, hts, -, hW, hF⟩ := id C
  intro T hT X
  obtain ⟨t, a1, b1⟩ := kk T hT X
  have h2 := h.warm hW
  exact ⟨t, X.ldcStringW hx hown (text := tx) (a := q) h2.1 h2.2 (g := F0 m pc ls rest) rfl (by rw [hb]; exact hdg) t a1, b1⟩
theorem lx_sbn (C : Cx l G RL cc nL ret p s m meth c args) (hw : WH G s (cW G K r D X) H locs) (hf : cells + 2 ≤ R.cells ∧ slots + 20 ≤ R.slots) (hR : 2 + 1 ≤ R.frames ∧ 8 + (1 + 11) + 64 * 2 ≤ R.locals) (hsz : ls.size = nL) (hrest : ∀ q : Nat, (((Value.ref q) :: rest).map fun v => v.category).sum ≤ 8) (d0 : decode cc pc = .ok (.new 305, 3)) (d3 : decode cc (pc + 3) = .ok (.dup, 1)) (d4 : decode cc (pc + 4) = .ok (.invokespecial 307, 3))
    (kk : ∀ (b : Nat) (u : Nat × Nat × (Nat → Int32) × Int32) (H : Heap) (locs : List Loc), sbT u [] → WH G s (cW G K r D (sbY G b u [] ++ X)) H locs → W p l e R s m args below meth c H locs (cells + 2) (slots + 20) Q (F0 m (pc + 7) ls (.ref b :: rest))) : W p l e R s m args below meth c H locs cells slots Q (F0 m pc ls rest) := by
  have hF := C.2.2.2.2.2.2.2.2
  refine r_new C hw cl_L_305 isb_J4 ini_J4 (ci := 1) rfl in_J4 tyJ4 tyJ4_ok (fs := [.null, .int 0, .int 0, .int 0]) (by decide) (w' := fun z => (z, .inr (1, [.null, .int 0, .int 0, .int 0])) :: cW G K r D X) (fun z => List.perm_append_singleton _ _) (by omega) (by omega) d0 (fun q H locs hw => ?_)
  refine lv_dup C.1 C.2.1 d3 rfl ?_
  refine r_iv C hw (s_init hF (X := cW G K r D X) (q := q)) ml_L_307 yf_J4_init_da8c8 rfl (As := []) rfl rfl hR ⟨by omega, by omega⟩ hsz (hrest q) d4 (fun u H locs hu hw => ?_)
  exact kk q u H locs hu (hw.perm (cw_inl _ _ _ _ _ _).symm)
theorem lx_sbi (C : Cx l G RL cc nL ret p s m meth c args) (hw : WH G s (cW G K r D (sbY G b u L ++ X)) H locs) (hT : sbT u L) {k : Nat} (hk : k < 100000) (h1 : L.length + (dgL 4 k).length ≤ 70) (hR : 5 + 1 ≤ R.frames ∧ 8 + (2 + 11) + 64 * 5 ≤ R.locals) (hf : cells + 1 ≤ R.cells ∧ slots + 70 ≤ R.slots) (hsz : ls.size = nL) (hrest : (rest.map fun v => v.category).sum ≤ 8) (hdg : decode cc pc = .ok (.invokevirtual 308, 3))
    (kk : ∀ (b : Nat) (u : Nat × Nat × (Nat → Int32) × Int32) (H : Heap) (locs : List Loc), sbT u (L ++ dgL 4 k) → WH G s (cW G K r D (sbY G b u (L ++ dgL 4 k) ++ X)) H locs → W p l e R s m args below meth c H locs (cells + 1) (slots + 70) Q (F0 m (pc + 3) ls (.ref b :: rest))) : W p l e R s m args below meth c H locs cells slots Q (F0 m pc ls (.int (nI k) :: .ref b :: rest)) := by
  have hF := C.2.2.2.2.2.2.2.2
  exact r_vr C (hw.perm (cw_inl _ _ _ _ _ _)) (s_appendI2 hF (X := cW G K r D X) (b := b) hT hk h1) ml_L_308 yf_J4_append_bf812 0 rfl rfl (As := [.int (nI k)]) rfl rfl hR hf hsz hrest hdg (fun u2 ra H locs hu hw => kk ra u2 H locs hu (hw.perm (cw_inl _ _ _ _ _ _).symm))
theorem lx_sbs (C : Cx l G RL cc nL ret p s m meth c args) (hw : WH G s (cW G K r D (sbY G b u L ++ X)) H locs) (hT : sbT u L) (ht : Txt G a M X) (hM : bfit M) (h1 : L.length + M.length ≤ 70) (h2 : M.length ≤ 18) (hR : 5 + 1 ≤ R.frames ∧ 8 + (2 + 11) + 64 * 5 ≤ R.locals) (hf : cells + 1 ≤ R.cells ∧ slots + 70 ≤ R.slots) (hsz : ls.size = nL) (hrest : (rest.map fun v => v.category).sum ≤ 8) (hdg : decode cc pc = .ok (.invokevirtual 316, 3))
    (kk : ∀ (b : Nat) (u : Nat × Nat × (Nat → Int32) × Int32) (H : Heap) (locs : List Loc), sbT u (L ++ M) → WH G s (cW G K r D (sbY G b u (L ++ M) ++ X)) H locs → W p l e R s m args below meth c H locs (cells + 1) (slots + 70) Q (F0 m (pc + 3) ls (.ref b :: rest))) : W p l e R s m args below meth c H locs cells slots Q (F0 m pc ls (.ref a :: .ref b :: rest)) := by
  have hF := C.2.2.2.2.2.2.2.2
  exact r_vr C (hw.perm (cw_inl _ _ _ _ _ _)) (s_appendS2 hF (X := cW G K r D X) (b := b) hT (ht.cw K r D) hM h1 h2) ml_L_316 yf_J4_append_15ec4 0 rfl rfl (As := [.ref a]) rfl rfl hR hf hsz hrest hdg (fun u2 ra H locs hu hw => kk ra u2 H locs hu (hw.perm (cw_inl _ _ _ _ _ _).symm))
theorem lx_sbt (C : Cx l G RL cc nL ret p s m meth c args) (hw : WH G s (cW G K r D (sbY G b u L ++ X)) H locs) (hT : sbT u L) (hlt : L.length < u.2.1) (hR : 5 + 1 ≤ R.frames ∧ 8 + (1 + 11) + 64 * 5 ≤ R.locals) (hf : cells + 2 ≤ R.cells ∧ slots + 74 ≤ R.slots) (hsz : ls.size = nL) (hrest : (rest.map fun v => v.category).sum ≤ 8) (hdg : decode cc pc = .ok (.invokevirtual 321, 3))
    (kk : ∀ (a : Nat) (B : va_W) (H : Heap) (locs : List Loc), (∀ Z, Txt G a L (B ++ Z)) → WH G s (cW G K r D (B ++ X)) H locs → W p l e R s m args below meth c H locs (cells + 2) (slots + 74) Q (F0 m (pc + 3) ls (.ref a :: rest))) : W p l e R s m args below meth c H locs cells slots Q (F0 m pc ls (.ref b :: rest)) := by
  have hF := C.2.2.2.2.2.2.2.2
  exact r_vr C (hw.perm (cw_inl _ _ _ _ _ _)) (s_toString hF (X := cW G K r D X) (b := b) hT hlt) ml_L_321 yf_J4_toString_0e30d 0 rfl rfl (As := []) rfl rfl hR hf hsz hrest hdg (fun z ra H locs hu hw => kk ra (txW G ra z.1 L.length z.2) H locs (fun Z => tx_made hu) (hw.perm (cw_inl G K r D (txW G ra z.1 L.length z.2) X).symm))
theorem lx_tlen (C : Cx l G RL cc nL ret p s m meth c args) (hw : WH G s (cW G K r D X) H locs) (ht : Txt G a L X) (hL : L.length < 2 ^ 31) (hR : 1 + 1 ≤ R.frames ∧ 8 + (1 + 11) + 64 * 1 ≤ R.locals) (hf : cells + 0 ≤ R.cells ∧ slots + 0 ≤ R.slots) (hsz : ls.size = nL) (hrest : (rest.map fun v => v.category).sum ≤ 8) (hdg : decode cc pc = .ok (.invokevirtual 145, 3))
    (kk : ∀ (H : Heap) (locs : List Loc), WH G s (cW G K r D X) H locs → W p l e R s m args below meth c H locs cells slots Q (F0 m (pc + 3) ls (.int (nI L.length) :: rest))) : W p l e R s m args below meth c H locs cells slots Q (F0 m pc ls (.ref a :: rest)) := by
  have hF := C.2.2.2.2.2.2.2.2
  refine r_Ti C hw (t_length hF hL (ht.cw K r D)) ml_L_145 yf_J0_length_8abf5 rfl (ht.cw K r D) (As := []) rfl rfl hR hf hsz hrest hdg (fun r9 _ H locs hp hw => ?_)
  obtain rfl : r9 = nI L.length := hp
  exact kk H locs hw
theorem lx_tch (C : Cx l G RL cc nL ret p s m meth c args) (hw : WH G s (cW G K r D X) H locs) (ht : Txt G a L X) {i : Nat} (hi : i < L.length) (hL : L.length < 2 ^ 31) (hR : 3 + 1 ≤ R.frames ∧ 8 + (2 + 11) + 64 * 3 ≤ R.locals) (hf : cells + 0 ≤ R.cells ∧ slots + 0 ≤ R.slots) (hsz : ls.size = nL) (hrest : (rest.map fun v => v.category).sum ≤ 8) (hdg : decode cc pc = .ok (.invokevirtual 150, 3))
    (kk : ∀ (H : Heap) (locs : List Loc), WH G s (cW G K r D X) H locs → W p l e R s m args below meth c H locs cells slots Q (F0 m (pc + 3) ls (.int (L.getD i 0 &&& 255) :: rest))) : W p l e R s m args below meth c H locs cells slots Q (F0 m pc ls (.int (nI i) :: .ref a :: rest)) := by
  have hF := C.2.2.2.2.2.2.2.2
  refine r_Ti C hw (t_charAt hF hi hL (ht.cw K r D)) ml_L_150 yf_J0_charAt_5068e rfl (ht.cw K r D) (As := [.int (nI i)]) rfl rfl hR hf hsz hrest hdg (fun r9 _ H locs hp hw => ?_)
  obtain rfl : r9 = L.getD i 0 &&& 255 := hp
  exact kk H locs hw
theorem d_writeBook (C : Cx l G RL cc nL ret p s m meth c args) (hw : WH G s (cW G K r D X) H locs) {c9 : Int} {U : MV_} (h : Sm c9 D U) (hR : 9 ≤ R.frames ∧ 532 ≤ R.locals) (hf : cells + 8 ≤ R.cells ∧ slots + 560 ≤ R.slots) (hsz : ls.size = nL) (hrest : (rest.map fun v => v.category).sum ≤ 8) (hdg : decode cc pc = .ok (.invokevirtual 335, 3))
    (kk : ∀ (D2 : CD) (H : Heap) (locs : List Loc), (∃ U2, Sm c9 D2 U2 ∧ U2.2 0 = U.2 0) → (D2.S = D.S ∧ D2.V = D.V ∧ D2.nw = D.nw ∧ D2.dp = D.dp) → D2.LL = wbL (U.2 0) → WH G s (cW G K r D2 X) H locs → W p l e R s m args below meth c H locs (cells + 8) (slots + 560) Q (F0 m (pc + 3) ls (.int (nI D2.LL.length) :: rest))) : W p l e R s m args below meth c H locs cells slots Q (F0 m pc ls (.ref (K 7 0) :: rest)) := by
  have hF := C.2.2.2.2.2.2.2.2
  refine r_vi C (hw.perm (pw_F _ _ _ _ _ _ _ _ _ _)) (k11_writeBook hF (K := K) (S := D.S) (F := D.F) (u := D.ul) (L := D.LL) (X := uwF G K r D X) h.lt h.ok (smN_ok h.rl h.iz).1) ml_L_335 yf_X11_writeBook 19 rfl rfl (As := []) rfl rfl ⟨hR.1, hR.2⟩ hf hsz hrest hdg (fun r9 u9 H locs hp hw => ?_)
  obtain ⟨p1, p2⟩ := hp
  obtain ⟨-, -, s3⟩ := sim_wb h
  obtain ⟨w1, -, -⟩ := wb_ok h.rl h.iz
  have k2 := kk (cdm D.S D.B D.N D.V D.nw D.dp D.f D.g D.ut D.LT D.vb D.p0 D.gp u9 (bsL D.S false (bsL D.S true [] ++ [nI 47])) D.F) H locs ⟨_, s3 u9 p2, rfl⟩ ⟨rfl, rfl, rfl, rfl⟩ w1 (hw.perm (pw_F _ _ _ _ _ _ _ _ _ _).symm)
  have p1 : r9 = nI (bsL D.S false (bsL D.S true [] ++ [nI 47])).length := p1
  rw [p1]
  exact k2
end SROWS
set_option maxHeartbeats 4000000 in
set_option maxRecDepth 100000 in
theorem a_lineAt {l : Launch} {G : Gx} (hF : SF l G) {c : Int} {D : CD} {U : MV_} (h : Sm c D U) {K r : Nat → Nat → Nat} {X : va_W} (x0 : Int32) : HI l G yL_lineAt cL_lineAt 3 [(0, 5, 6, 22)] 7 1 6 [.ref (K 7 0), .int x0] (cW G K r D X) (fun v (_ : Unit) => (∃ i, i < D.LL.length ∧ x0 = nI i ∧ v = D.LL.getD i 0) ∨ ((x0 < 0 ∨ ¬ x0 < nI D.LL.length) ∧ v = -11)) (fun _ => (cW G K r D X)) :=
  w_lineAt hF (x11_lineAt hF (K := K) (S := D.S) (F := D.F) (u := D.ul) (L := D.LL) (X := uwF G K r D X) h.lt h.l7 (show D.LL.length ≤ 70 by have := h.ll; omega) x0) (pw_F _ _ _ _ _ _ _ _ _ _) 19 rfl (fun r9 u9 hp => ⟨(), Or.inl ⟨u9, hp⟩, (pw_F _ _ _ _ _ _ _ _ _ _).symm⟩) (fun k1 hp => ⟨hp.1, (), Or.inr ⟨hp.2, by rw [show k1 = 1 from hp.1]; rfl⟩, (pw_F _ _ _ _ _ _ _ _ _ _).symm⟩)
theorem wo_U {U : MV_} {x : Int32} : (woM U x).1.2 0 = U.2 0 := by
  unfold woM
  cases plF (U.2 0) x (nF (U.2 0)) <;> rfl
set_option maxHeartbeats 4000000 in
set_option maxRecDepth 100000 in
theorem m_writeOrder {l : Launch} {G : Gx} (hF : SF l G) {c : Int} {D : CD} {U : MV_} (h : Sm c D U) {K r : Nat → Nat → Nat} {X : va_W} (x0 : Int32) : HI l G yL_writeOrder cL_writeOrder 3 [(0, 5, 6, 46)] 9 7 426 [.ref (K 7 0), .int x0] (cW G K r D X) (fun v (D2 : CD) => (∃ U2, Sm c D2 U2 ∧ U2.2 0 = U.2 0) ∧ (D2.S = D.S ∧ D2.V = D.V ∧ D2.nw = D.nw ∧ D2.dp = D.dp) ∧ ((∃ j, plF (U.2 0) x0 (nF (U.2 0)) = some j ∧ v = nI (wrL (U.2 0) j).length ∧ D2.LL = wrL (U.2 0) j) ∨ (plF (U.2 0) x0 (nF (U.2 0)) = none ∧ v = -13))) (fun D2 => cW G K r D2 X) :=
  w_writeOrder hF (x11_writeOrder hF (K := K) (S := D.S) (F := D.F) (u := D.ul) (L := D.LL) (X := uwF G K r D X) h.lt h.ok x0 ((smN_ok h.rl h.iz).2 x0)) (pw_F _ _ _ _ _ _ _ _ _ _) 19 rfl (fun r9 u9 hp => by
    obtain ⟨p1, p2, p3⟩ := hp
    obtain ⟨t1, t2, t3⟩ := (sim_wo h x0).2 u9.1 p1
    have p1' := p1
    rw [h.rl.find h.iz] at p1'
    obtain ⟨w1, -, -⟩ := wr_ok h.rl h.iz p1'
    exact ⟨(cdm D.S D.B D.N D.V D.nw D.dp D.f D.g D.ut D.LT D.vb D.p0 D.gp u9.2 ((((dgN x0 ++ [if buyS D.S u9.1 = true then nI 98 else nI 115]) ++ dgN (D.S.2.1 6 u9.1)) ++ [nI 120]) ++ dgN (D.S.2.1 5 u9.1)) D.F), ⟨⟨_, t3 u9.2 p3, wo_U⟩, ⟨rfl, rfl, rfl, rfl⟩, Or.inl ⟨u9.1, p1', by rw [p2, w1], w1⟩⟩, (pw_F _ _ _ _ _ _ _ _ _ _).symm⟩) (fun k1 hp => by
    obtain ⟨p1, p2⟩ := hp
    obtain ⟨t1, t2⟩ := (sim_wo h x0).1 p2
    rw [h.rl.find h.iz] at p2
    exact ⟨p1, D, ⟨⟨_, t2, wo_U⟩, ⟨rfl, rfl, rfl, rfl⟩, Or.inr ⟨p2, by rw [p1]; rfl⟩⟩, (pw_F _ _ _ _ _ _ _ _ _ _).symm⟩)
