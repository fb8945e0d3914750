/-! DropMarket: a text executed -/
abbrev XQ2 (G : Gx) (px : Nat × (Nat × Nat × (Nat → Int32) × Int32) → Prop) (Wx : Nat × (Nat × Nat × (Nat → Int32) × Int32) → va_W) : String → State → State → Prop := vx_X px (fun E k t => E = exN k.1 ∧ InvX G (Wx k) t) (gA G)
section THX
variable {p : Program} {l : Launch} {e : Env} {R : Room} {s : State} {m : MethodId} {args : Array Value} {below : List Frame} {meth : Method} {c : Code} {H : Heap} {locs : List Loc} {cells slots : Nat} {Q : State → Prop}
variable {G : Gx} {own : String} {cc : ByteArray} {nL : Nat} {ret : Option FieldType} {pc : Nat} {ls : Array Slot} {rest st : List Value} {w : va_W}
theorem thr_hx2 (hw : WH G s w H locs) {px : Nat × (Nat × Nat × (Nat → Int32) × Int32) → Prop} {Wx : Nat × (Nat × Nat × (Nat → Int32) × Int32) → va_W} {k : Nat × (Nat × Nat × (Nat → Int32) × Int32)} (hp : px k) (hW : w = Wx k) {t : State} (h1 : H.size ≤ t.heap.size) (h2 : ∀ q : Nat, q < H.size → t.heap[q]? = H[q]?) : XQ2 G px Wx (exN k.1) s t := by
  have hF : va_F (gA G) s t := ⟨Nat.le_trans hw.2.1.1 h1, fun q hq hA => (h2 q (Nat.lt_of_lt_of_le hq hw.2.1.1)).trans (hw.2.1.2.1 q hq hA)⟩
  refine ⟨k, hp, ⟨rfl, ⟨Nat.le_trans hw.1.1 hF.1, fun q hq hA => (hF.2 q (Nat.lt_of_lt_of_le hq hw.1.1) hA).trans (hw.1.2 q hq hA)⟩, ?_, hW ▸ hw.2.2.2⟩, hF⟩
  rw [← hW]
  exact hw.2.2.1.kept (fun i x hx => h2 x.1 (hw.2.2.1 i x hx).lt)
theorem x_thr2V (C : Cx l G RX11 cc nL ret p s m meth c args) (hw : WH G s w H locs) {Qc : Array Value → State → Outcome → State → Prop} {px : Nat × (Nat × Nat × (Nat → Int32) × Int32) → Prop} {Wx : Nat × (Nat × Nat × (Nat → Int32) × Int32) → va_W} {is mc ms : Nat} {tx : String} (hsr : ∃ a, vk_R RX11 is tx a G.2.1) {u : Nat × Nat × (Nat → Int32) × Int32} (hp : px (2, u)) (hWx : w = Wx (2, u)) (hnt : ∀ x ∈ c.exceptionTable.toList, False) (hsz : ls.size = nL)
    (d0 : decode cc pc = .ok (.new 298, 3)) (d3 : decode cc (pc + 3) = .ok (.dup, 1)) (d4 : decode cc (pc + 4) = .ok (.ldc_w is, 3)) (d6 : decode cc (pc + 7) = .ok (.invokespecial 302, 3)) (d9 : decode cc (pc + 10) = .ok (.athrow, 1))
    (hR1 : 5 < R.frames) (hR2 : (rest.map fun v => v.category).sum + 82 ≤ R.locals) (hR3 : cells + 1 ≤ R.cells) (hR4 : slots + 6 ≤ R.slots) (hc : cells + 1 ≤ mc) (hs : slots + 6 ≤ ms) :
    W p l e R s m args below meth c H locs cells slots (vx_MQ below Qc (XQ2 G px Wx) args s mc ms (gA G)) (F0 m pc ls rest) := by
  obtain ⟨sa, hsa⟩ := hsr
  have hF := C.2.2.2.2.2.2.2.2
  have hW := C.2.2.2.2.2.2.2.1
  exact vx_throwSW (own := RX11) (cls := "java/lang/IllegalArgumentException") (names := thN) (A := gA G) C.1 C.2.1 hF.1 C.2.2.2.2.1 (by decide +kernel) (by decide +kernel) (C.2.2.2.2.2.1 _ cl_X11_298) (C.2.2.2.2.2.1 _ ini_java_lang_IllegalArgumentException) (vk_R.warm hW hsa) (ta_2 C) tg_2 ((vx_Zq.moved hW.alike hF.unst.1).kept (H1 := s.heap) hw.1.2) ((vx_Zq.moved hW.alike hF.unst.2).kept (H1 := s.heap) hw.1.2) hw.2.1 (hsz.trans C.2.2.2.1.symm) d0 d3 d4 d6 d9 (fun x hx => (hnt x hx).elim) (by simpa using hR1) (by simpa using hR2) hR3 hR4 C.2.2.2.2.2.2.1 (fun t _ h1 h2 => thr_hx2 (k := (2, u)) hw hp hWx h1 h2) hw.2.1.2.2 hc hs
theorem x_thr3V (C : Cx l G RX11 cc nL ret p s m meth c args) (hw : WH G s w H locs) {Qc : Array Value → State → Outcome → State → Prop} {px : Nat × (Nat × Nat × (Nat → Int32) × Int32) → Prop} {Wx : Nat × (Nat × Nat × (Nat → Int32) × Int32) → va_W} {is mc ms : Nat} {tx : String} (hsr : ∃ a, vk_R RX11 is tx a G.2.1) {u : Nat × Nat × (Nat → Int32) × Int32} (hp : px (3, u)) (hWx : w = Wx (3, u)) (hnt : ∀ x ∈ c.exceptionTable.toList, False) (hsz : ls.size = nL)
    (d0 : decode cc pc = .ok (.new 194, 3)) (d3 : decode cc (pc + 3) = .ok (.dup, 1)) (d4 : decode cc (pc + 4) = .ok (.ldc_w is, 3)) (d6 : decode cc (pc + 7) = .ok (.invokespecial 198, 3)) (d9 : decode cc (pc + 10) = .ok (.athrow, 1))
    (hR1 : 5 < R.frames) (hR2 : (rest.map fun v => v.category).sum + 82 ≤ R.locals) (hR3 : cells + 1 ≤ R.cells) (hR4 : slots + 6 ≤ R.slots) (hc : cells + 1 ≤ mc) (hs : slots + 6 ≤ ms) :
    W p l e R s m args below meth c H locs cells slots (vx_MQ below Qc (XQ2 G px Wx) args s mc ms (gA G)) (F0 m pc ls rest) := by
  obtain ⟨sa, hsa⟩ := hsr
  have hF := C.2.2.2.2.2.2.2.2
  have hW := C.2.2.2.2.2.2.2.1
  exact vx_throwSW (own := RX11) (cls := "java/lang/IllegalStateException") (names := thN) (A := gA G) C.1 C.2.1 hF.1 C.2.2.2.2.1 (by decide +kernel) (by decide +kernel) (C.2.2.2.2.2.1 _ cl_X11_194) (C.2.2.2.2.2.1 _ ini_java_lang_IllegalStateException) (vk_R.warm hW hsa) (ta_3 C) tg_3 ((vx_Zq.moved hW.alike hF.unst.1).kept (H1 := s.heap) hw.1.2) ((vx_Zq.moved hW.alike hF.unst.2).kept (H1 := s.heap) hw.1.2) hw.2.1 (hsz.trans C.2.2.2.1.symm) d0 d3 d4 d6 d9 (fun x hx => (hnt x hx).elim) (by simpa using hR1) (by simpa using hR2) hR3 hR4 C.2.2.2.2.2.2.1 (fun t _ h1 h2 => thr_hx2 (k := (3, u)) hw hp hWx h1 h2) hw.2.1.2.2 hc hs
end THX
theorem nO_nI {S : SV} {n : Nat} (h : S.1 1 = nI n) (hn : n ≤ 20) (h2 : S.1 0 = nI (nT S)) (h3 : nT S ≤ 6) : okS S := by
  have e := nO_of h hn
  exact ⟨by rw [e]; exact h, by rw [e]; exact hn, h2, h3⟩
theorem okS_lp {mi : Int32} : ∀ (k : Nat) {S : SV} {x : Int32}, okS S → k ≤ nO S → okS (lpR mi k S x).1
  | 0, _, _, h, _ => h
  | k + 1, S, x, h, hk => by
    unfold lpR
    split
    · exact okS_lp k (show okS (sR S 7 (upd (S.2.1 7) k (S.2.1 7 k - mi))) from h) (show k ≤ nO S by omega)
    · split
      · exact okS_lp k h (by omega)
      · have h1 := okS_rm h (j := k) (by omega)
        exact okS_lp k h1.1 (by rw [h1.2]; omega)
theorem okS_pl {S : SV} (h : okS S) (hn : nO S < 20) (b : Bool) (st pr q mi : Int32) : okS (plS S b st pr q mi) := by
  have h1 : okS (plL S b st pr q).1 ∧ nO (plL S b st pr q).1 ≤ nO S := by
    unfold plL
    split
    · exact okS_tnR (b := b) (st := st) (pr := pr) 20 (S := sI S 4 (S.1 4 + 1)) (x := q) (show okS (sI S 4 (S.1 4 + 1)) from h)
    · exact ⟨h, Nat.le_refl _⟩
  unfold plS
  split
  · exact h1.1
  · exact nO_nI (n := nO (plL S b st pr q).1 + 1) rfl (by omega) h1.1.2.2.1 h1.1.2.2.2
theorem okS_ep {S : SV} (h : okS S) : okS (epS S) := by
  have h1 := okS_tpR (pr := (poolS S (nO S)).1) 20 (x := (poolS S (nO S)).2.1) h
  show okS (sI (sI (tpR (poolS S (nO S)).1 20 S (poolS S (nO S)).2.1).1 1 0) 2 0)
  generalize (tpR (poolS S (nO S)).1 20 S (poolS S (nO S)).2.1).1 = T at h1 ⊢
  exact nO_nI (n := 0) (show (0 : Int32) = nI 0 by decide) (by omega) h1.2.2.1 h1.2.2.2
theorem okS_op {S : SV} (h : okS S) (hn : nT S < 6) (mo dr : Int32) : okS (opS S (nT S) mo dr) := by
  have e : nT (opS S (nT S) mo dr) = nT S + 1 := nT_of (n := nT S + 1) rfl (by omega)
  exact ⟨h.1, h.2.1, by rw [e]; rfl, by rw [e]; omega⟩
theorem okS_cm {S : SV} {g : Nat → Int32} {vb : Nat} (h : okS S) (h0 : cmF S g vb = 0) : okS (cmS S g vb) := by
  unfold cmF at h0
  unfold cmS
  split at h0
  · exact okS_op h (stF_0 h0) _ _
  · exact okS_pl h (by have h9 := of_decide_eq_false (ordF_0 h0); omega) _ _ _ _ _
  · exact okS_pl h (by have h9 := of_decide_eq_false (ordF_0 h0); omega) _ _ _ _ _
  · obtain ⟨j, hj⟩ := canF_0 h0
    rw [hj]
    exact (okS_rm h (fnd_lt hj).1).1
  · exact okS_lp _ (show okS (sI S 3 (S.1 3 + g 0)) from h) (Nat.le_refl _)
  · exact h
  · rename_i h1 h2 h3 h4 h5 h6
    exact okS_ep h
theorem cnC_lt {L : List Int32} : ∀ {t k q vb : Nat} {g : Nat → Int32} {n : Nat}, (cnC L t k q vb g).1 = some n → n < k + t
  | 0, _, _, _, _, _, h => nomatch h
  | t + 1, k, q, vb, g, n, h => by
    unfold cnC at h
    split at h
    · cases h
    · split at h
      · cases h
        omega
      · have := cnC_lt h
        omega
theorem cnC_vb {L : List Int32} : ∀ {t k q vb : Nat} {g : Nat → Int32}, q ≤ L.length → vb < 7 → (cnC L t k q vb g).2.1 ≤ L.length ∧ (cnC L t k q vb g).2.2.1 < 7
  | 0, _, _, _, _, h, hv => ⟨h, hv⟩
  | t + 1, k, q, vb, g, h, hv => by
    have hr := rcC_le (g := g) h hv
    unfold cnC
    split
    · exact hr
    · split
      · exact hr
      · exact cnC_vb hr.1 hr.2
/-- the commands of a text, one after the other: how many were done, what stands then -/
def exS (L : List Int32) : Nat → SV → Nat → Nat → (Nat → Int32) → Nat × SV × Nat × Nat × (Nat → Int32)
  | 0, S, q, vb, g => (0, S, q, vb, g)
  | t + 1, S, q, vb, g =>
    if (rcC L q vb g).1 = true then
      if cmF S (rcC L q vb g).2.2.2 (rcC L q vb g).2.2.1 = 0 then
        ((exS L t (cmS S (rcC L q vb g).2.2.2 (rcC L q vb g).2.2.1) (rcC L q vb g).2.1 (rcC L q vb g).2.2.1 (rcC L q vb g).2.2.2).1 + 1, (exS L t (cmS S (rcC L q vb g).2.2.2 (rcC L q vb g).2.2.1) (rcC L q vb g).2.1 (rcC L q vb g).2.2.1 (rcC L q vb g).2.2.2).2)
      else (0, S, (rcC L q vb g).2)
    else (0, S, (rcC L q vb g).2)
/-- what a text's commands come to -/
def exC (L : List Int32) (S : SV) (vb : Nat) (g : Nat → Int32) : Nat × SV × Nat × Nat × (Nat → Int32) := exS L ((cnC L 60 1 0 vb g).1.getD 0) S 0 (cnC L 60 1 0 vb g).2.2.1 (cnC L 60 1 0 vb g).2.2.2
set_option maxHeartbeats 4000000 in
set_option maxRecDepth 100000 in
theorem x11_execute {l : Launch} {G : Gx} (hF : SF l G) {K : Nat → Nat → Nat} {S B : SV} {r : Nat → Nat → Nat} {V : Nat → SV} {nw dp : Nat} {F : Nat → Int32} {u : Nat × Nat × (Nat → Int32) × Int32} {L : List Int32} {X : va_W} (hT : sbT u L) (hch : chL L) (hL : L.length ≤ 60) {vb p0 : Nat} {g : Nat → Int32} (hvb : vb < 7) (ok : okS S) (hb : isB (S.1 2)) (hn8 : nw < 8) (hd8 : dp ≤ 8) : vx_Met l yX11_execute (wy yX11_execute cX11_execute 3 (some .int)) (rmD 9 70 300) (va_Pc [.ref (K 7 0)] (Inv G (sbY G (K 5 1) u L ++ (ctC G (K 5) vb (nI p0) g ++ (stW G (K 0) S ++ (dmO G K F ++ (stW G (K 1) B ++ (hiW G (K 3) r V (nI nw) (nI dp) ++ X)))))))) (va_Qi (fun r z => (cnC L 60 1 0 vb g).1 = some (exC L S vb g).1 ∧ r = nI (exC L S vb g).1 ∧ sbT z []) (fun (z : Nat × Nat × (Nat → Int32) × Int32) t => Inv G (sbY G (K 5 1) z ([]) ++ (ctC G (K 5) ((exC L S vb g).2.2.2.1) (nI 0) ((exC L S vb g).2.2.2.2) ++ (stW G (K 0) ((exC L S vb g).2.1) ++ (dmO G K F ++ (stW G (K 1) S ++ (hiW G (K 3) r (va_up V (rgN nw) S) (nI (rgN nw)) (nI (min (dp + 1) 8)) ++ X)))))) t) (gA G)) (XQ2 G (fun z : Nat × (Nat × Nat × (Nat → Int32) × Int32) => (z.1 = 2 ∧ (cnC L 60 1 0 vb g).1 = none ∧ sbT z.2 []) ∨ (z.1 = 3 ∧ (∃ n, (cnC L 60 1 0 vb g).1 = some n ∧ (exC L S vb g).1 < n) ∧ sbT z.2 [])) (fun z : Nat × (Nat × Nat × (Nat → Int32) × Int32) => if z.1 = 2 then sbY G (K 5 1) z.2 ([]) ++ (ctC G (K 5) ((cnC L 60 1 0 vb g).2.2.1) (nI 0) ((cnC L 60 1 0 vb g).2.2.2) ++ (stW G (K 0) S ++ (dmO G K (va_up F 1 (nI (cnC L 60 1 0 vb g).2.1)) ++ (stW G (K 1) B ++ (hiW G (K 3) r V (nI nw) (nI dp) ++ X))))) else sbY G (K 5 1) z.2 ([]) ++ (ctC G (K 5) ((exC L S vb g).2.2.2.1) (nI 0) ((exC L S vb g).2.2.2.2) ++ (stW G (K 0) S ++ (dmO G K (va_up F 2 (nI (exC L S vb g).1)) ++ (stW G (K 1) S ++ (hiW G (K 3) r V (nI nw) (nI dp) ++ X))))))) 70 300 (gA G) := by
  refine mx_of hF (by decide) (Nat.le_of_ble_eq_true rfl) ?_
  intro p e s m below meth c C hnt ls hl H locs hw
  have hl : lv_has ls 3 [(0, .ref (K 7 0))] := hl
  refine lv_aload_n C.1 C.2.1 dX11_execute_0 rfl (lv_at hl 0 rfl) ?_
  refine r_get C hw 24 rfl rfl in_X11 5 (by decide) fl_X11_39 rfl (v := .ref (K 5 0)) rfl dX11_execute_1 ?_
  obtain ⟨cn, hcn⟩ : ∃ z, z = cnC L 60 1 0 vb g := ⟨_, rfl⟩
  refine r_vi C hw (k2_countCommands hF (t := K 5) (X := (stW G (K 0) S ++ (dmO G K F ++ (stW G (K 1) B ++ (hiW G (K 3) r V (nI nw) (nI dp) ++ X))))) hT hch hL hvb) ml_X11_311 yf_X2_countCommands 2 rfl rfl (As := []) rfl rfl ⟨(Nat.le_of_ble_eq_true rfl), (Nat.le_of_ble_eq_true rfl)⟩ ⟨(Nat.le_of_ble_eq_true rfl), (Nat.le_of_ble_eq_true rfl)⟩ hl.1 (Nat.le_of_ble_eq_true rfl) dX11_execute_4 (fun r_4 _ H locs hp_4 hw => ?_)
  obtain rfl : r_4 = oI cn.1 := by rw [hp_4, hcn]
  replace hw : WH G s (sbY G (K 5 1) u L ++ (ctC G (K 5) ((cnC L 60 1 0 vb g).2.2.1) (nI (cnC L 60 1 0 vb g).2.1) ((cnC L 60 1 0 vb g).2.2.2) ++ (stW G (K 0) S ++ (dmO G K F ++ (stW G (K 1) B ++ (hiW G (K 3) r V (nI nw) (nI dp) ++ X)))))) H locs := hw
  rw [← hcn] at hw
  have hcv := cnC_vb (L := L) (t := 60) (k := 1) (g := g) (Nat.zero_le L.length) hvb
  rw [← hcn] at hcv
  replace hw : WH G s (sbY G (K 5 1) u L ++ (ctC G (K 5) cn.2.2.1 (nI cn.2.1) cn.2.2.2 ++ (stW G (K 0) S ++ (dmO G K F ++ (stW G (K 1) B ++ (hiW G (K 3) r V (nI nw) (nI dp) ++ X)))))) H locs := hw
  refine lv_istore_n (lv' := [(1, .int (oI cn.1)), (0, .ref (K 7 0))]) C.1 C.2.1 dX11_execute_7 rfl hl (by decide) rfl (fun ls hl => ?_)
  refine lv_iload_n C.1 C.2.1 dX11_execute_8 rfl (lv_at hl 0 rfl) ?_
  refine lv_iconst (v := -1) C.1 C.2.1 dX11_execute_9 (by decide) ?_
  refine lv_icmp_ne (tgt := 42) C.1 C.2.1 dX11_execute_10 (by decide) (fun c_10 => ?_) (fun c_10 => ?_)
  · obtain ⟨n, hn⟩ : ∃ n, cn.1 = some n := by cases hz : cn.1 with | none => rw [hz] at c_10; exact absurd rfl c_10 | some n => exact ⟨n, rfl⟩
    have hn60 : n ≤ 60 := by have h9 := cnC_lt (L := L) (t := 60) (k := 1) (q := 0) (vb := vb) (g := g) (n := n) (by rw [← hcn]; exact hn); omega
    replace hl : lv_has ls 3 [(1, .int (nI n)), (0, .ref (K 7 0))] := by rw [hn] at hl; exact hl
    have hR : exC L S vb g = exS L n S 0 cn.2.2.1 cn.2.2.2 := by unfold exC; rw [← hcn, hn]; rfl
    refine lv_aload_n C.1 C.2.1 dX11_execute_42 rfl (lv_at hl 1 rfl) ?_
    refine r_get C hw 24 rfl rfl in_X11 1 (by decide) fl_X11_16 rfl (v := .ref (K 1 0)) rfl dX11_execute_43 ?_
    refine lv_aload_n C.1 C.2.1 dX11_execute_46 rfl (lv_at hl 1 rfl) ?_
    refine r_get C hw 24 rfl rfl in_X11 0 (by decide) fl_X11_10 rfl (v := .ref (K 0 0)) rfl dX11_execute_47 ?_
    replace hw : WH G s (stW G (K 1) B ++ (stW G (K 0) S ++ (sbY G (K 5 1) u L ++ (ctC G (K 5) cn.2.2.1 (nI cn.2.1) cn.2.2.2 ++ (dmO G K F ++ (hiW G (K 3) r V (nI nw) (nI dp) ++ X)))))) H locs := hw.perm ((((((((List.perm_append_comm_assoc _ _ _).append_left _).trans (List.perm_append_comm_assoc _ _ _)).append_left _).trans (List.perm_append_comm_assoc _ _ _)).append_left _).trans (List.perm_append_comm_assoc _ _ _)).trans (((((List.perm_append_comm_assoc _ _ _).append_left _).trans (List.perm_append_comm_assoc _ _ _))).append_left _))
    refine r_vv C hw (k9_copyFrom hF (a := K 1) (S := B) (b := K 0) (T := S) (X := (sbY G (K 5 1) u L ++ (ctC G (K 5) cn.2.2.1 (nI cn.2.1) cn.2.2.2 ++ (dmO G K F ++ (hiW G (K 3) r V (nI nw) (nI dp) ++ X))))) hb) ml_X11_322 yf_X9_copyFrom 0 rfl rfl (As := [.ref (K 0 0)]) rfl rfl ⟨(Nat.le_of_ble_eq_true rfl), (Nat.le_of_ble_eq_true rfl)⟩ ⟨(Nat.le_of_ble_eq_true rfl), (Nat.le_of_ble_eq_true rfl)⟩ hl.1 (Nat.le_of_ble_eq_true rfl) dX11_execute_50 (fun _ H locs hp_50 hw => ?_)
    replace hw : WH G s (stW G (K 1) S ++ (stW G (K 0) S ++ (sbY G (K 5 1) u L ++ (ctC G (K 5) cn.2.2.1 (nI cn.2.1) cn.2.2.2 ++ (dmO G K F ++ (hiW G (K 3) r V (nI nw) (nI dp) ++ X)))))) H locs := hw
    replace hw : WH G s (sbY G (K 5 1) u L ++ (ctC G (K 5) cn.2.2.1 (nI cn.2.1) cn.2.2.2 ++ (stW G (K 0) S ++ (dmO G K F ++ (stW G (K 1) S ++ (hiW G (K 3) r V (nI nw) (nI dp) ++ X)))))) H locs := hw.perm ((((List.perm_append_comm_assoc _ _ _).append_left _).trans (List.perm_append_comm_assoc _ _ _)).trans (((((List.perm_append_comm_assoc _ _ _).append_left _).trans (List.perm_append_comm_assoc _ _ _)).trans (((List.perm_append_comm_assoc _ _ _).trans (((List.perm_append_comm_assoc _ _ _)).append_left _)).append_left _)).append_left _))
    refine lv_aload_n C.1 C.2.1 dX11_execute_53 rfl (lv_at hl 1 rfl) ?_
    refine r_get C hw 24 rfl rfl in_X11 5 (by decide) fl_X11_39 rfl (v := .ref (K 5 0)) rfl dX11_execute_54 ?_
    refine r_vv C hw (k2_rewind hF (t := K 5) (vb := cn.2.2.1) (p0 := cn.2.1) (g := cn.2.2.2) (X := (stW G (K 0) S ++ (dmO G K F ++ (stW G (K 1) S ++ (hiW G (K 3) r V (nI nw) (nI dp) ++ X))))) hT) ml_X11_325 yf_X2_rewind 2 rfl rfl (As := []) rfl rfl ⟨(Nat.le_of_ble_eq_true rfl), (Nat.le_of_ble_eq_true rfl)⟩ ⟨(Nat.le_of_ble_eq_true rfl), (Nat.le_of_ble_eq_true rfl)⟩ hl.1 (Nat.le_of_ble_eq_true rfl) dX11_execute_57 (fun _ H locs hp_57 hw => ?_)
    replace hw : WH G s (sbY G (K 5 1) u L ++ (ctC G (K 5) cn.2.2.1 (nI 0) cn.2.2.2 ++ (stW G (K 0) S ++ (dmO G K F ++ (stW G (K 1) S ++ (hiW G (K 3) r V (nI nw) (nI dp) ++ X)))))) H locs := hw
    refine lv_iconst (v := 0) C.1 C.2.1 dX11_execute_60 (by decide) ?_
    refine r_toe (show _ = nI 0 from by decide) ?_
    refine lv_istore_n (lv' := [(2, .int (nI 0)), (1, .int (nI n)), (0, .ref (K 7 0))]) C.1 C.2.1 dX11_execute_61 rfl hl (by decide) rfl (fun ls hl => ?_)
    refine w_loop (σ := Nat × SV × Nat × Nat × (Nat → Int32)) G (fun u ⟨i, S1, q1, vb1, g1⟩ => i ≤ n ∧ n < i + u ∧ okS S1 ∧ q1 ≤ L.length ∧ vb1 < 7 ∧ i + (exS L (n - i) S1 q1 vb1 g1).1 = (exC L S vb g).1 ∧ (exS L (n - i) S1 q1 vb1 g1).2 = (exC L S vb g).2) (fun ⟨i, S1, q1, vb1, g1⟩ => sbY G (K 5 1) u L ++ (ctC G (K 5) vb1 (nI q1) g1 ++ (stW G (K 0) S1 ++ (dmO G K F ++ (stW G (K 1) S ++ (hiW G (K 3) r V (nI nw) (nI dp) ++ X)))))) (fun ⟨i, S1, q1, vb1, g1⟩ => i) (fun ⟨i, S1, q1, vb1, g1⟩ => 3 * i) (fun ⟨i, S1, q1, vb1, g1⟩ => [(0, .ref (K 7 0)), (1, .int (nI n)), (2, .int (nI i))]) 3 ?_ ?_ (n + 1) (0, S, 0, cn.2.2.1, cn.2.2.2) (⟨Nat.zero_le _, by omega, ok, Nat.zero_le _, hcv.2, by rw [hR]; simp, by rw [hR]; rfl⟩) hw (lv_sub hl [2, 1, 0] rfl)
    · rintro n62 ⟨i, S1, q1, vb1, g1⟩ ⟨h1, h2, hok1, hq1, hvb1, h6, h7⟩ ih62 H locs hw ls hl
      replace hw : WH G s (sbY G (K 5 1) u L ++ (ctC G (K 5) vb1 (nI q1) g1 ++ (stW G (K 0) S1 ++ (dmO G K F ++ (stW G (K 1) S ++ (hiW G (K 3) r V (nI nw) (nI dp) ++ X)))))) H locs := hw
      replace hl : lv_has ls 3 [(0, .ref (K 7 0)), (1, .int (nI n)), (2, .int (nI i))] := hl
      show W p l e _ s m _ below meth c H locs i (3 * i) _ (F0 m 62 ls [])
      refine lv_iload_n C.1 C.2.1 dX11_execute_62 rfl (lv_at hl 2 rfl) ?_
      refine lv_iload_n C.1 C.2.1 dX11_execute_63 rfl (lv_at hl 1 rfl) ?_
      refine lv_icmp_ge (tgt := 97) C.1 C.2.1 dX11_execute_64 (by decide) (fun c_64 => ?_) (fun c_64 => ?_)
      · have hi : i = n := by have h9 := (nI_leI (by omega) (by omega)).mp c_64; omega
        have hRe : exC L S vb g = (n, S1, q1, vb1, g1) := by rw [hi, Nat.sub_self] at h6 h7; exact Prod.ext (by rw [← h6]; simp [exS]) h7.symm
        refine lv_aload_n C.1 C.2.1 dX11_execute_97 rfl (lv_at hl 0 rfl) ?_
        refine r_get C hw 24 rfl rfl in_X11 5 (by decide) fl_X11_39 rfl (v := .ref (K 5 0)) rfl dX11_execute_98 ?_
        refine r_vv C hw (k2_empty hF (t := K 5) (vb := vb1) (p0 := q1) (g := g1) (X := (stW G (K 0) S1 ++ (dmO G K F ++ (stW G (K 1) S ++ (hiW G (K 3) r V (nI nw) (nI dp) ++ X))))) hT) ml_X11_317 yf_X2_empty 2 rfl rfl (As := []) rfl rfl ⟨(Nat.le_of_ble_eq_true rfl), (Nat.le_of_ble_eq_true rfl)⟩ ⟨by show _ ≤ 70; omega, by show _ ≤ 300; omega⟩ hl.1 (Nat.le_of_ble_eq_true rfl) dX11_execute_101 (fun u_101 H locs hp_101 hw => ?_)
        replace hw : WH G s (sbY G (K 5 1) u_101 ([]) ++ (ctC G (K 5) vb1 (nI 0) g1 ++ (stW G (K 0) S1 ++ (dmO G K F ++ (stW G (K 1) S ++ (hiW G (K 3) r V (nI nw) (nI dp) ++ X)))))) H locs := hw
        refine lv_iload_n C.1 C.2.1 dX11_execute_104 rfl (lv_at hl 2 rfl) ?_
        refine lv_iload_n C.1 C.2.1 dX11_execute_105 rfl (lv_at hl 1 rfl) ?_
        refine lv_icmp_ge (tgt := 136) C.1 C.2.1 dX11_execute_106 (by decide) (fun c_106 => ?_) (fun c_106 => absurd (by rw [hi]; exact nI_le (Nat.le_refl _) (by omega)) c_106)
        refine lv_aload_n C.1 C.2.1 dX11_execute_136 rfl (lv_at hl 0 rfl) ?_
        refine r_get C hw 24 rfl rfl in_X11 3 (by decide) fl_X11_25 rfl (v := .ref (K 3 0)) rfl dX11_execute_137 ?_
        refine lv_aload_n C.1 C.2.1 dX11_execute_140 rfl (lv_at hl 0 rfl) ?_
        refine r_get C hw 24 rfl rfl in_X11 1 (by decide) fl_X11_16 rfl (v := .ref (K 1 0)) rfl dX11_execute_141 ?_
        replace hw : WH G s (stW G (K 1) S ++ (hiW G (K 3) r V (nI nw) (nI dp) ++ (sbY G (K 5 1) u_101 ([]) ++ (ctC G (K 5) vb1 (nI 0) g1 ++ (stW G (K 0) S1 ++ (dmO G K F ++ X)))))) H locs := hw.perm ((((((((List.perm_append_comm_assoc _ _ _).append_left _).trans (List.perm_append_comm_assoc _ _ _)).append_left _).trans (List.perm_append_comm_assoc _ _ _)).append_left _).trans (List.perm_append_comm_assoc _ _ _)).trans (((((((((List.perm_append_comm_assoc _ _ _).append_left _).trans (List.perm_append_comm_assoc _ _ _)).append_left _).trans (List.perm_append_comm_assoc _ _ _)).append_left _).trans (List.perm_append_comm_assoc _ _ _))).append_left _))
        refine r_vv C hw (k4_push hF (a := K 1) (S := S) (h := K 3) (r := r) (V := V) (nw := nw) (dp := dp) (X := (sbY G (K 5 1) u_101 ([]) ++ (ctC G (K 5) vb1 (nI 0) g1 ++ (stW G (K 0) S1 ++ (dmO G K F ++ X))))) hn8 hd8 hb) ml_X11_69 yf_X4_push 19 rfl rfl (As := [.ref (K 1 0)]) rfl rfl ⟨(Nat.le_of_ble_eq_true rfl), (Nat.le_of_ble_eq_true rfl)⟩ ⟨by show _ ≤ 70; omega, by show _ ≤ 300; omega⟩ hl.1 (Nat.le_of_ble_eq_true rfl) dX11_execute_144 (fun _ H locs hp_144 hw => ?_)
        replace hw : WH G s (stW G (K 1) S ++ (hiW G (K 3) r (va_up V (rgN nw) S) (nI (rgN nw)) (nI (min (dp + 1) 8)) ++ (sbY G (K 5 1) u_101 ([]) ++ (ctC G (K 5) vb1 (nI 0) g1 ++ (stW G (K 0) S1 ++ (dmO G K F ++ X)))))) H locs := hw
        replace hw : WH G s (sbY G (K 5 1) u_101 ([]) ++ (ctC G (K 5) vb1 (nI 0) g1 ++ (stW G (K 0) S1 ++ (dmO G K F ++ (stW G (K 1) S ++ (hiW G (K 3) r (va_up V (rgN nw) S) (nI (rgN nw)) (nI (min (dp + 1) 8)) ++ X)))))) H locs := hw.perm ((((List.perm_append_comm_assoc _ _ _).append_left _).trans (List.perm_append_comm_assoc _ _ _)).trans (((((List.perm_append_comm_assoc _ _ _).append_left _).trans (List.perm_append_comm_assoc _ _ _)).trans (((((List.perm_append_comm_assoc _ _ _).append_left _).trans (List.perm_append_comm_assoc _ _ _)).trans (((((List.perm_append_comm_assoc _ _ _).append_left _).trans (List.perm_append_comm_assoc _ _ _))).append_left _)).append_left _)).append_left _))
        refine lv_iload_n C.1 C.2.1 dX11_execute_147 rfl (lv_at hl 1 rfl) ?_
        refine vx_ret ?_
        exact r_iret C hw rfl rfl u_101 ⟨by rw [← hcn, hRe]; exact hn, by rw [hRe], hp_101⟩ (by rw [hRe]) (by omega) (by omega) dX11_execute_148
      · have hin : i < n := Nat.lt_of_not_le (fun h9 => c_64 ((nI_leI (by omega) (by omega)).mpr h9))
        obtain ⟨t, ht⟩ : ∃ t, n - i = t + 1 := ⟨n - i - 1, by omega⟩
        rw [ht] at h6 h7
        refine lv_aload_n C.1 C.2.1 dX11_execute_67 rfl (lv_at hl 0 rfl) ?_
        refine r_get C hw 24 rfl rfl in_X11 5 (by decide) fl_X11_39 rfl (v := .ref (K 5 0)) rfl dX11_execute_68 ?_
        obtain ⟨rc, hrc⟩ : ∃ z, z = rcC L q1 vb1 g1 := ⟨_, rfl⟩
        have hrl := rcC_le (L := L) (g := g1) hq1 hvb1
        rw [← hrc] at hrl
        refine r_vi C hw (k2_readCommand hF (t := K 5) (X := (stW G (K 0) S1 ++ (dmO G K F ++ (stW G (K 1) S ++ (hiW G (K 3) r V (nI nw) (nI dp) ++ X))))) hT hch hL hq1 hvb1) ml_X11_328 yf_X2_readCommand 2 rfl rfl (As := []) rfl rfl ⟨(Nat.le_of_ble_eq_true rfl), (Nat.le_of_ble_eq_true rfl)⟩ ⟨by show _ ≤ 70; omega, by show _ ≤ 300; omega⟩ hl.1 (Nat.le_of_ble_eq_true rfl) dX11_execute_71 (fun r_71 _ H locs hp_71 hw => ?_)
        obtain rfl : r_71 = bI rc.1 := by rw [hp_71, hrc]
        replace hw : WH G s (sbY G (K 5 1) u L ++ (ctC G (K 5) ((rcC L q1 vb1 g1).2.2.1) (nI (rcC L q1 vb1 g1).2.1) ((rcC L q1 vb1 g1).2.2.2) ++ (stW G (K 0) S1 ++ (dmO G K F ++ (stW G (K 1) S ++ (hiW G (K 3) r V (nI nw) (nI dp) ++ X)))))) H locs := hw
        rw [← hrc] at hw
        replace hw : WH G s (sbY G (K 5 1) u L ++ (ctC G (K 5) rc.2.2.1 (nI rc.2.1) rc.2.2.2 ++ (stW G (K 0) S1 ++ (dmO G K F ++ (stW G (K 1) S ++ (hiW G (K 3) r V (nI nw) (nI dp) ++ X)))))) H locs := hw
        refine lv_if_eq (tgt := 97) C.1 C.2.1 dX11_execute_74 (by decide) (fun c_74 => ?_) (fun c_74 => ?_)
        · have hb1 : rc.1 = false := bI_eq0.mp c_74
          have hex : exS L (t + 1) S1 q1 vb1 g1 = (0, S1, rc.2) := by unfold exS; rw [← hrc, hb1]; rfl
          rw [hex] at h6 h7
          refine lv_aload_n C.1 C.2.1 dX11_execute_97 rfl (lv_at hl 0 rfl) ?_
          refine r_get C hw 24 rfl rfl in_X11 5 (by decide) fl_X11_39 rfl (v := .ref (K 5 0)) rfl dX11_execute_98 ?_
          refine r_vv C hw (k2_empty hF (t := K 5) (vb := rc.2.2.1) (p0 := rc.2.1) (g := rc.2.2.2) (X := (stW G (K 0) S1 ++ (dmO G K F ++ (stW G (K 1) S ++ (hiW G (K 3) r V (nI nw) (nI dp) ++ X))))) hT) ml_X11_317 yf_X2_empty 2 rfl rfl (As := []) rfl rfl ⟨(Nat.le_of_ble_eq_true rfl), (Nat.le_of_ble_eq_true rfl)⟩ ⟨by show _ ≤ 70; omega, by show _ ≤ 300; omega⟩ hl.1 (Nat.le_of_ble_eq_true rfl) dX11_execute_101 (fun u_101 H locs hp_101 hw => ?_)
          replace hw : WH G s (sbY G (K 5 1) u_101 ([]) ++ (ctC G (K 5) rc.2.2.1 (nI 0) rc.2.2.2 ++ (stW G (K 0) S1 ++ (dmO G K F ++ (stW G (K 1) S ++ (hiW G (K 3) r V (nI nw) (nI dp) ++ X)))))) H locs := hw
          have hRi : i = (exC L S vb g).1 := by rw [← h6]; rfl
          have hRv : rc.2.2.1 = (exC L S vb g).2.2.2.1 := congrArg (fun z : SV × Nat × Nat × (Nat → Int32) => z.2.2.1) h7
          have hRg : rc.2.2.2 = (exC L S vb g).2.2.2.2 := congrArg (fun z : SV × Nat × Nat × (Nat → Int32) => z.2.2.2) h7
          have hcut : ∃ n, (cnC L 60 1 0 vb g).1 = some n ∧ (exC L S vb g).1 < n := ⟨n, by rw [← hcn]; exact hn, by rw [← hRi]; exact hin⟩
          refine lv_iload_n C.1 C.2.1 dX11_execute_104 rfl (lv_at hl 2 rfl) ?_
          refine lv_iload_n C.1 C.2.1 dX11_execute_105 rfl (lv_at hl 1 rfl) ?_
          refine lv_icmp_ge (tgt := 136) C.1 C.2.1 dX11_execute_106 (by decide) (fun c_106 => absurd c_106 (fun h9 => absurd ((nI_leI (by omega) (by omega)).mp h9) (by omega))) (fun c_106 => ?_)
          refine lv_aload_n C.1 C.2.1 dX11_execute_109 rfl (lv_at hl 0 rfl) ?_
          refine r_get C hw 24 rfl rfl in_X11 0 (by decide) fl_X11_10 rfl (v := .ref (K 0 0)) rfl dX11_execute_110 ?_
          refine lv_aload_n C.1 C.2.1 dX11_execute_113 rfl (lv_at hl 0 rfl) ?_
          refine r_get C hw 24 rfl rfl in_X11 1 (by decide) fl_X11_16 rfl (v := .ref (K 1 0)) rfl dX11_execute_114 ?_
          replace hw : WH G s (stW G (K 0) S1 ++ (stW G (K 1) S ++ (sbY G (K 5 1) u_101 ([]) ++ (ctC G (K 5) rc.2.2.1 (nI 0) rc.2.2.2 ++ (dmO G K F ++ (hiW G (K 3) r V (nI nw) (nI dp) ++ X)))))) H locs := hw.perm ((((List.perm_append_comm_assoc _ _ _).append_left _).trans (List.perm_append_comm_assoc _ _ _)).trans (((((((List.perm_append_comm_assoc _ _ _).append_left _).trans (List.perm_append_comm_assoc _ _ _)).append_left _).trans (List.perm_append_comm_assoc _ _ _))).append_left _))
          refine r_vv C hw (k9_copyFrom hF (a := K 0) (S := S1) (b := K 1) (T := S) (X := (sbY G (K 5 1) u_101 ([]) ++ (ctC G (K 5) rc.2.2.1 (nI 0) rc.2.2.2 ++ (dmO G K F ++ (hiW G (K 3) r V (nI nw) (nI dp) ++ X))))) hb) ml_X11_322 yf_X9_copyFrom 0 rfl rfl (As := [.ref (K 1 0)]) rfl rfl ⟨(Nat.le_of_ble_eq_true rfl), (Nat.le_of_ble_eq_true rfl)⟩ ⟨by show _ ≤ 70; omega, by show _ ≤ 300; omega⟩ hl.1 (Nat.le_of_ble_eq_true rfl) dX11_execute_117 (fun _ H locs hp_117 hw => ?_)
          replace hw : WH G s (stW G (K 0) S ++ (stW G (K 1) S ++ (sbY G (K 5 1) u_101 ([]) ++ (ctC G (K 5) rc.2.2.1 (nI 0) rc.2.2.2 ++ (dmO G K F ++ (hiW G (K 3) r V (nI nw) (nI dp) ++ X)))))) H locs := hw
          replace hw : WH G s (sbY G (K 5 1) u_101 ([]) ++ (ctC G (K 5) rc.2.2.1 (nI 0) rc.2.2.2 ++ (stW G (K 0) S ++ (dmO G K F ++ (stW G (K 1) S ++ (hiW G (K 3) r V (nI nw) (nI dp) ++ X)))))) H locs := hw.perm ((((List.perm_append_comm_assoc _ _ _).append_left _).trans (List.perm_append_comm_assoc _ _ _)).trans (((((List.perm_append_comm_assoc _ _ _).append_left _).trans (List.perm_append_comm_assoc _ _ _)).trans ((((List.perm_append_comm_assoc _ _ _)).append_left _).append_left _)).append_left _))
          refine lv_aload_n C.1 C.2.1 dX11_execute_120 rfl (lv_at hl 0 rfl) ?_
          refine lv_iload_n C.1 C.2.1 dX11_execute_121 rfl (lv_at hl 2 rfl) ?_
          refine r_put C hw 24 rfl rfl in_X11 tyX11 tyX11_ok nmX11 9 (by decide) fl_X11_58 rfl rfl rfl rfl (Nat.le_of_ble_eq_true rfl) (w' := sbY G (K 5 1) u_101 ([]) ++ (ctC G (K 5) rc.2.2.1 (nI 0) rc.2.2.2 ++ (stW G (K 0) S ++ (dmO G K (va_up F 2 (nI i)) ++ (stW G (K 1) S ++ (hiW G (K 3) r V (nI nw) (nI dp) ++ X)))))) rfl dX11_execute_122 (fun H locs hw => ?_)
          exact x_thr3V C hw (sr_343 hF) (u := u_101) (Or.inr ⟨rfl, hcut, hp_101⟩) (by rw [← hRv, ← hRg, ← hRi]; rfl) hnt hl.1 dX11_execute_125 dX11_execute_128 dX11_execute_129 dX11_execute_132 dX11_execute_135 (Nat.le_of_ble_eq_true rfl) (Nat.le_of_ble_eq_true rfl) (by show _ ≤ 70; omega) (by show _ ≤ 300; omega) (by show _ ≤ 70; omega) (by show _ ≤ 300; omega)
        · have hb1 : rc.1 = true := bI_ne0.mp c_74
          refine lv_aload_n C.1 C.2.1 dX11_execute_77 rfl (lv_at hl 0 rfl) ?_
          replace hw : WH G s (stW G (K 0) S1 ++ (dmO G K F ++ (ctC G (K 5) rc.2.2.1 (nI rc.2.1) rc.2.2.2 ++ (sbY G (K 5 1) u L ++ (stW G (K 1) S ++ (hiW G (K 3) r V (nI nw) (nI dp) ++ X)))))) H locs := hw.perm ((((List.perm_append_comm_assoc _ _ _).append_left _).trans (List.perm_append_comm_assoc _ _ _)).trans (((((List.perm_append_comm_assoc _ _ _).append_left _).trans (List.perm_append_comm_assoc _ _ _)).trans (((List.perm_append_comm_assoc _ _ _)).append_left _)).append_left _))
          refine r_ve C hw (k11_commandFault hF (K := K) (S := S1) (F := F) (vb := rc.2.2.1) (p0 := rc.2.1) (g := rc.2.2.2) (X := (sbY G (K 5 1) u L ++ (stW G (K 1) S ++ (hiW G (K 3) r V (nI nw) (nI dp) ++ X)))) hrl.2 hok1) ml_X11_331 yf_X11_commandFault 19 rfl rfl (As := []) rfl rfl ⟨(Nat.le_of_ble_eq_true rfl), (Nat.le_of_ble_eq_true rfl)⟩ ⟨by show _ ≤ 70; omega, by show _ ≤ 300; omega⟩ hl.1 (Nat.le_of_ble_eq_true rfl) dX11_execute_78 (fun o_78 _ H locs hp_78 hw => ?_)
          have hp_78 : o_78 = some (cmF S1 rc.2.2.2 rc.2.2.1) := hp_78
          rw [hp_78]
          replace hw : WH G s (stW G (K 0) S1 ++ (dmO G K F ++ (ctC G (K 5) rc.2.2.1 (nI rc.2.1) rc.2.2.2 ++ (sbY G (K 5 1) u L ++ (stW G (K 1) S ++ (hiW G (K 3) r V (nI nw) (nI dp) ++ X)))))) H locs := hw
          replace hw : WH G s (sbY G (K 5 1) u L ++ (ctC G (K 5) rc.2.2.1 (nI rc.2.1) rc.2.2.2 ++ (stW G (K 0) S1 ++ (dmO G K F ++ (stW G (K 1) S ++ (hiW G (K 3) r V (nI nw) (nI dp) ++ X)))))) H locs := hw.perm ((((((List.perm_append_comm_assoc _ _ _).append_left _).trans (List.perm_append_comm_assoc _ _ _)).append_left _).trans (List.perm_append_comm_assoc _ _ _)).trans (((((List.perm_append_comm_assoc _ _ _).append_left _).trans (List.perm_append_comm_assoc _ _ _))).append_left _))
          refine r_getsF C hw 0 (by decide) fl_X11_334 dX11_execute_81 ?_
          refine lv_acmp_ne (rx := some (G.2.2.2.1 (cmF S1 rc.2.2.2 rc.2.2.1))) (ry := some (G.2.2.2.1 0)) (tgt := 97) C.1 C.2.1 dX11_execute_84 (by decide) (fun c_84 => ?_) (fun c_84 => ?_)
          · have hcf : ¬ cmF S1 rc.2.2.2 rc.2.2.1 = 0 := fun h9 => c_84 (by rw [h9])
            have hex : exS L (t + 1) S1 q1 vb1 g1 = (0, S1, rc.2) := by unfold exS; rw [← hrc, if_pos hb1, if_neg hcf]
            rw [hex] at h6 h7
            refine lv_aload_n C.1 C.2.1 dX11_execute_97 rfl (lv_at hl 0 rfl) ?_
            refine r_get C hw 24 rfl rfl in_X11 5 (by decide) fl_X11_39 rfl (v := .ref (K 5 0)) rfl dX11_execute_98 ?_
            refine r_vv C hw (k2_empty hF (t := K 5) (vb := rc.2.2.1) (p0 := rc.2.1) (g := rc.2.2.2) (X := (stW G (K 0) S1 ++ (dmO G K F ++ (stW G (K 1) S ++ (hiW G (K 3) r V (nI nw) (nI dp) ++ X))))) hT) ml_X11_317 yf_X2_empty 2 rfl rfl (As := []) rfl rfl ⟨(Nat.le_of_ble_eq_true rfl), (Nat.le_of_ble_eq_true rfl)⟩ ⟨by show _ ≤ 70; omega, by show _ ≤ 300; omega⟩ hl.1 (Nat.le_of_ble_eq_true rfl) dX11_execute_101 (fun u_101 H locs hp_101 hw => ?_)
            replace hw : WH G s (sbY G (K 5 1) u_101 ([]) ++ (ctC G (K 5) rc.2.2.1 (nI 0) rc.2.2.2 ++ (stW G (K 0) S1 ++ (dmO G K F ++ (stW G (K 1) S ++ (hiW G (K 3) r V (nI nw) (nI dp) ++ X)))))) H locs := hw
            have hRi : i = (exC L S vb g).1 := by rw [← h6]; rfl
            have hRv : rc.2.2.1 = (exC L S vb g).2.2.2.1 := congrArg (fun z : SV × Nat × Nat × (Nat → Int32) => z.2.2.1) h7
            have hRg : rc.2.2.2 = (exC L S vb g).2.2.2.2 := congrArg (fun z : SV × Nat × Nat × (Nat → Int32) => z.2.2.2) h7
            have hcut : ∃ n, (cnC L 60 1 0 vb g).1 = some n ∧ (exC L S vb g).1 < n := ⟨n, by rw [← hcn]; exact hn, by rw [← hRi]; exact hin⟩
            refine lv_iload_n C.1 C.2.1 dX11_execute_104 rfl (lv_at hl 2 rfl) ?_
            refine lv_iload_n C.1 C.2.1 dX11_execute_105 rfl (lv_at hl 1 rfl) ?_
            refine lv_icmp_ge (tgt := 136) C.1 C.2.1 dX11_execute_106 (by decide) (fun c_106 => absurd c_106 (fun h9 => absurd ((nI_leI (by omega) (by omega)).mp h9) (by omega))) (fun c_106 => ?_)
            refine lv_aload_n C.1 C.2.1 dX11_execute_109 rfl (lv_at hl 0 rfl) ?_
            refine r_get C hw 24 rfl rfl in_X11 0 (by decide) fl_X11_10 rfl (v := .ref (K 0 0)) rfl dX11_execute_110 ?_
            refine lv_aload_n C.1 C.2.1 dX11_execute_113 rfl (lv_at hl 0 rfl) ?_
            refine r_get C hw 24 rfl rfl in_X11 1 (by decide) fl_X11_16 rfl (v := .ref (K 1 0)) rfl dX11_execute_114 ?_
            replace hw : WH G s (stW G (K 0) S1 ++ (stW G (K 1) S ++ (sbY G (K 5 1) u_101 ([]) ++ (ctC G (K 5) rc.2.2.1 (nI 0) rc.2.2.2 ++ (dmO G K F ++ (hiW G (K 3) r V (nI nw) (nI dp) ++ X)))))) H locs := hw.perm ((((List.perm_append_comm_assoc _ _ _).append_left _).trans (List.perm_append_comm_assoc _ _ _)).trans (((((((List.perm_append_comm_assoc _ _ _).append_left _).trans (List.perm_append_comm_assoc _ _ _)).append_left _).trans (List.perm_append_comm_assoc _ _ _))).append_left _))
            refine r_vv C hw (k9_copyFrom hF (a := K 0) (S := S1) (b := K 1) (T := S) (X := (sbY G (K 5 1) u_101 ([]) ++ (ctC G (K 5) rc.2.2.1 (nI 0) rc.2.2.2 ++ (dmO G K F ++ (hiW G (K 3) r V (nI nw) (nI dp) ++ X))))) hb) ml_X11_322 yf_X9_copyFrom 0 rfl rfl (As := [.ref (K 1 0)]) rfl rfl ⟨(Nat.le_of_ble_eq_true rfl), (Nat.le_of_ble_eq_true rfl)⟩ ⟨by show _ ≤ 70; omega, by show _ ≤ 300; omega⟩ hl.1 (Nat.le_of_ble_eq_true rfl) dX11_execute_117 (fun _ H locs hp_117 hw => ?_)
            replace hw : WH G s (stW G (K 0) S ++ (stW G (K 1) S ++ (sbY G (K 5 1) u_101 ([]) ++ (ctC G (K 5) rc.2.2.1 (nI 0) rc.2.2.2 ++ (dmO G K F ++ (hiW G (K 3) r V (nI nw) (nI dp) ++ X)))))) H locs := hw
            replace hw : WH G s (sbY G (K 5 1) u_101 ([]) ++ (ctC G (K 5) rc.2.2.1 (nI 0) rc.2.2.2 ++ (stW G (K 0) S ++ (dmO G K F ++ (stW G (K 1) S ++ (hiW G (K 3) r V (nI nw) (nI dp) ++ X)))))) H locs := hw.perm ((((List.perm_append_comm_assoc _ _ _).append_left _).trans (List.perm_append_comm_assoc _ _ _)).trans (((((List.perm_append_comm_assoc _ _ _).append_left _).trans (List.perm_append_comm_assoc _ _ _)).trans ((((List.perm_append_comm_assoc _ _ _)).append_left _).append_left _)).append_left _))
            refine lv_aload_n C.1 C.2.1 dX11_execute_120 rfl (lv_at hl 0 rfl) ?_
            refine lv_iload_n C.1 C.2.1 dX11_execute_121 rfl (lv_at hl 2 rfl) ?_
            refine r_put C hw 24 rfl rfl in_X11 tyX11 tyX11_ok nmX11 9 (by decide) fl_X11_58 rfl rfl rfl rfl (Nat.le_of_ble_eq_true rfl) (w' := sbY G (K 5 1) u_101 ([]) ++ (ctC G (K 5) rc.2.2.1 (nI 0) rc.2.2.2 ++ (stW G (K 0) S ++ (dmO G K (va_up F 2 (nI i)) ++ (stW G (K 1) S ++ (hiW G (K 3) r V (nI nw) (nI dp) ++ X)))))) rfl dX11_execute_122 (fun H locs hw => ?_)
            exact x_thr3V C hw (sr_343 hF) (u := u_101) (Or.inr ⟨rfl, hcut, hp_101⟩) (by rw [← hRv, ← hRg, ← hRi]; rfl) hnt hl.1 dX11_execute_125 dX11_execute_128 dX11_execute_129 dX11_execute_132 dX11_execute_135 (Nat.le_of_ble_eq_true rfl) (Nat.le_of_ble_eq_true rfl) (by show _ ≤ 70; omega) (by show _ ≤ 300; omega) (by show _ ≤ 70; omega) (by show _ ≤ 300; omega)
          · have hcf : cmF S1 rc.2.2.2 rc.2.2.1 = 0 := hF.2.2.1.2 _ 0 (cmF_6 ..) (by decide) (Option.some.inj c_84)
            have hex : exS L (t + 1) S1 q1 vb1 g1 = ((exS L t (cmS S1 rc.2.2.2 rc.2.2.1) rc.2.1 rc.2.2.1 rc.2.2.2).1 + 1, (exS L t (cmS S1 rc.2.2.2 rc.2.2.1) rc.2.1 rc.2.2.1 rc.2.2.2).2) := by rw [exS, ← hrc, if_pos hb1, if_pos hcf]
            have ht1 : n - (i + 1) = t := by omega
            refine lv_aload_n C.1 C.2.1 dX11_execute_87 rfl (lv_at hl 0 rfl) ?_
            replace hw : WH G s (stW G (K 0) S1 ++ (dmO G K F ++ (ctC G (K 5) rc.2.2.1 (nI rc.2.1) rc.2.2.2 ++ (sbY G (K 5 1) u L ++ (stW G (K 1) S ++ (hiW G (K 3) r V (nI nw) (nI dp) ++ X)))))) H locs := hw.perm ((((List.perm_append_comm_assoc _ _ _).append_left _).trans (List.perm_append_comm_assoc _ _ _)).trans (((((List.perm_append_comm_assoc _ _ _).append_left _).trans (List.perm_append_comm_assoc _ _ _)).trans (((List.perm_append_comm_assoc _ _ _)).append_left _)).append_left _))
            refine r_vv C hw (k11_runCommand hF (K := K) (S := S1) (F := F) (vb := rc.2.2.1) (p0 := rc.2.1) (g := rc.2.2.2) (X := (sbY G (K 5 1) u L ++ (stW G (K 1) S ++ (hiW G (K 3) r V (nI nw) (nI dp) ++ X)))) hrl.2 hok1 hcf) ml_X11_340 yf_X11_runCommand 19 rfl rfl (As := []) rfl rfl ⟨(Nat.le_of_ble_eq_true rfl), (Nat.le_of_ble_eq_true rfl)⟩ ⟨by show _ ≤ 70; omega, by show _ ≤ 300; omega⟩ hl.1 (Nat.le_of_ble_eq_true rfl) dX11_execute_88 (fun _ H locs hp_88 hw => ?_)
            replace hw : WH G s (stW G (K 0) (cmS S1 rc.2.2.2 rc.2.2.1) ++ (dmO G K F ++ (ctC G (K 5) rc.2.2.1 (nI rc.2.1) rc.2.2.2 ++ (sbY G (K 5 1) u L ++ (stW G (K 1) S ++ (hiW G (K 3) r V (nI nw) (nI dp) ++ X)))))) H locs := hw
            replace hw : WH G s (sbY G (K 5 1) u L ++ (ctC G (K 5) rc.2.2.1 (nI rc.2.1) rc.2.2.2 ++ (stW G (K 0) (cmS S1 rc.2.2.2 rc.2.2.1) ++ (dmO G K F ++ (stW G (K 1) S ++ (hiW G (K 3) r V (nI nw) (nI dp) ++ X)))))) H locs := hw.perm ((((((List.perm_append_comm_assoc _ _ _).append_left _).trans (List.perm_append_comm_assoc _ _ _)).append_left _).trans (List.perm_append_comm_assoc _ _ _)).trans (((((List.perm_append_comm_assoc _ _ _).append_left _).trans (List.perm_append_comm_assoc _ _ _))).append_left _))
            refine lv_iinc (v := nI (i + 1)) (lv' := [(2, .int (nI (i + 1))), (0, .ref (K 7 0)), (1, .int (nI n))]) C.1 C.2.1 dX11_execute_91 hl (k := 2) rfl (inc_nI i) (by decide) rfl (fun ls hl => ?_)
            refine lv_goto (tgt := 62) C.1 C.2.1 dX11_execute_94 (by decide) ?_
            exact ih62 (i + 1, cmS S1 rc.2.2.2 rc.2.2.1, rc.2.1, rc.2.2.1, rc.2.2.2) (⟨by omega, by omega, okS_cm hok1 hcf, hrl.1, hrl.2, by rw [hex] at h6; rw [ht1, ← h6]; show _ = i + (_ + 1); omega, by rw [hex] at h7; rw [ht1]; exact h7⟩) _ _ hw _ (lv_sub hl [1, 2, 0] rfl)
    · rintro ⟨i, S1, q1, vb1, g1⟩ ⟨h1, h2, hok1, hq1, hvb1, h6, h7⟩; omega
  · have hnone : cn.1 = none := (oI_none (fun q9 hq9 => by have h9 := cnC_lt (L := L) (t := 60) (k := 1) (q := 0) (vb := vb) (g := g) (n := q9) (by rw [← hcn]; exact hq9); omega)).mp c_10
    refine lv_aload_n C.1 C.2.1 dX11_execute_13 rfl (lv_at hl 1 rfl) ?_
    refine lv_aload_n C.1 C.2.1 dX11_execute_14 rfl (lv_at hl 1 rfl) ?_
    refine r_get C hw 24 rfl rfl in_X11 5 (by decide) fl_X11_39 rfl (v := .ref (K 5 0)) rfl dX11_execute_15 ?_
    refine r_get C hw 2 rfl rfl in_X2 3 (by decide) fl_X11_314 rfl (v := .int (nI cn.2.1)) rfl dX11_execute_18 ?_
    refine r_put C hw 24 rfl rfl in_X11 tyX11 tyX11_ok nmX11 8 (by decide) fl_X11_54 rfl rfl rfl rfl (Nat.le_of_ble_eq_true rfl) (w' := sbY G (K 5 1) u L ++ (ctC G (K 5) cn.2.2.1 (nI cn.2.1) cn.2.2.2 ++ (stW G (K 0) S ++ (dmO G K (va_up F 1 (nI cn.2.1)) ++ (stW G (K 1) B ++ (hiW G (K 3) r V (nI nw) (nI dp) ++ X)))))) rfl dX11_execute_21 (fun H locs hw => ?_)
    refine lv_aload_n C.1 C.2.1 dX11_execute_24 rfl (lv_at hl 1 rfl) ?_
    refine r_get C hw 24 rfl rfl in_X11 5 (by decide) fl_X11_39 rfl (v := .ref (K 5 0)) rfl dX11_execute_25 ?_
    refine r_vv C hw (k2_empty hF (t := K 5) (vb := cn.2.2.1) (p0 := cn.2.1) (g := cn.2.2.2) (X := (stW G (K 0) S ++ (dmO G K (va_up F 1 (nI cn.2.1)) ++ (stW G (K 1) B ++ (hiW G (K 3) r V (nI nw) (nI dp) ++ X))))) hT) ml_X11_317 yf_X2_empty 2 rfl rfl (As := []) rfl rfl ⟨(Nat.le_of_ble_eq_true rfl), (Nat.le_of_ble_eq_true rfl)⟩ ⟨by show _ ≤ 70; omega, by show _ ≤ 300; omega⟩ hl.1 (Nat.le_of_ble_eq_true rfl) dX11_execute_28 (fun u_28 H locs hp_28 hw => ?_)
    replace hw : WH G s (sbY G (K 5 1) u_28 ([]) ++ (ctC G (K 5) cn.2.2.1 (nI 0) cn.2.2.2 ++ (stW G (K 0) S ++ (dmO G K (va_up F 1 (nI cn.2.1)) ++ (stW G (K 1) B ++ (hiW G (K 3) r V (nI nw) (nI dp) ++ X)))))) H locs := hw
    exact x_thr2V C hw (sr_320 hF) (u := u_28) (Or.inl ⟨rfl, by rw [← hcn]; exact hnone, hp_28⟩) (by rw [← hcn]; rfl) hnt hl.1 dX11_execute_31 dX11_execute_34 dX11_execute_35 dX11_execute_38 dX11_execute_41 (Nat.le_of_ble_eq_true rfl) (Nat.le_of_ble_eq_true rfl) (Nat.le_of_ble_eq_true rfl) (Nat.le_of_ble_eq_true rfl) (Nat.le_of_ble_eq_true rfl) (Nat.le_of_ble_eq_true rfl)

