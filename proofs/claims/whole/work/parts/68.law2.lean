/-! The last wrappers; calls of wrappers -/
theorem wyW_good {y : MethodName} {cc : ByteArray} {n : Nat} {r : Option FieldType} {hh : List (Nat × Nat × Nat × Nat)} (h : Cond.codeWith y cc n r hh ∈ LW) : GoodIn LW (wyW y cc n r hh) := fun w hw => by
  rcases List.mem_cons.mp hw with e | e
  · rw [e]; exact ⟨h, LW_good _ h⟩
  · exact ⟨e, LW_good _ e⟩
section ZROWS
variable {p : Program} {l : Launch} {e : Env} {R : Room} {s : State} {m : MethodId} {args : Array Value} {below : List Frame} {meth : Method} {c : Code} {H : Heap} {locs : List Loc} {cells slots : Nat} {Q : State → Prop}
variable {G : Gx} {own : String} {cc : ByteArray} {nL : Nat} {ret : Option FieldType} {pc : Nat} {ls : Array Slot} {rest st : List Value} {w : va_W}
theorem r_hsi (C : Cx l G own cc nL ret p s m meth c args) (hw : WH G s w H locs) {y : MethodName} {bytes : ByteArray} {maxL d k z n index : Nat} {hh : List (Nat × Nat × Nat × Nat)} {As : List Value} {S : Type} {post : Int32 → S → Prop} {Wf : S → va_W} (hM : HI l G y bytes maxL hh d k z As w post Wf) (ml : Cond.methodLink own index y ∈ LW) (yf : YfW y bytes maxL hh n) (hn : As.length = n) (hst : st = As.reverse ++ rest) (hR : d + 1 ≤ R.frames ∧ 8 + (maxL + 11) + 64 * d ≤ R.locals) (hf : cells + k ≤ R.cells ∧ slots + z ≤ R.slots) (hsz : ls.size = nL) (hrest : (rest.map fun v => v.category).sum ≤ 8) (hdg : decode cc pc = .ok (.invokestatic index, 3))
    (kk : ∀ (r : Int32) (u : S) (H : Heap) (locs : List Loc), post r u → WH G s (Wf u) H locs → W p l e R s m args below meth c H locs (cells + k) (slots + z) Q (F0 m (pc + 3) ls (.int r :: rest))) : W p l e R s m args below meth c H locs cells slots Q (F0 m pc ls st) :=
  va_calli (vx_runSW (As := As) (rest := rest) (n := n) ⟨C.1, C.2.1, C.2.2.2.1, C.2.2.2.2.1, C.2.2.2.2.2.1⟩ hM ⟨⟨rfl, rfl, hR.1, hR.2, pay_in C.2.2.2.2.2.1 (wyW_good yf.1.2.2), List.mem_cons_self⟩, C.2.2.2.2.2.1 _ yf.1.2.2, C.2.2.2.2.2.1 _ yf.1.2.1, ⟨yf.2.1, yf.2.2.1⟩, fun sig h => by have h2 := yf.2.2.2; rw [h] at h2; exact (Option.some.inj h2).symm, C.2.2.2.2.2.1 _ ml, C.2.2.2.2.2.1 _ yf.1.1⟩ ⟨Inv.blind, fun U hU hW => ⟨rfl, hw.inv C hU hW⟩⟩ rfl hn hsz hst (lv_room hrest) hdg hf) hw.2.1 (fun q _ h => h) (fun q h => h) (fun r u t H1 locs1 ht hvm hp hB _ _ hS => kk r u H1 locs1 hp ⟨hw.1, hS, ht ▸ hB.2.2.1, hB.2.2.2⟩)
theorem y_vi2 (C : Cx l G own cc nL ret p s m meth c args) (hw : WH G s w H locs) {y : MethodName} {bytes : ByteArray} {maxL d k z n index : Nat} {As : List Value} {S : Type} {rt : FieldType} {post : Int32 → S → Prop} {Wf : S → va_W} {px : Nat × (Nat × Nat × (Nat → Int32) × Int32) → Prop} {Wx : Nat × (Nat × Nat × (Nat → Int32) × Int32) → va_W} {b ci : Nat} {fs : List Value} (hM : vx_Met l y (wy y bytes maxL (some rt)) (rmD d k z) (va_Pc (.ref b :: As) (Inv G w)) (va_Qi post (fun u t => Inv G (Wf u) t) (gA G)) (XQ2 G px Wx) k z (gA G)) (ml : Cond.methodLink own index y ∈ LW) (yf : YfV y bytes maxL (some rt) n) (q0 : Nat) (he : w[q0]? = some (b, .inr (ci, fs))) {T : u_T} {N : Nat} (hci : vwCl[ci]? = some (y.cls, T, N)) (hn : As.length = n) (hst : st = As.reverse ++ .ref b :: rest) (hR : d + 1 ≤ R.frames ∧ 8 + (maxL + 11) + 64 * d ≤ R.locals) (hf : cells + k ≤ R.cells ∧ slots + z ≤ R.slots) (hsz : ls.size = nL) (hrest : (rest.map fun v => v.category).sum ≤ 8) (hdg : decode cc pc = .ok (.invokevirtual index, 3))
    (kx : ∀ (k1 : Nat × (Nat × Nat × (Nat → Int32) × Int32)) (q : Nat) (ce : Cell) (H : Heap) (locs : List Loc), px k1 → WH G s (Wx k1) H locs → H[q]? = some ce → ce.vm = .none → s.vm.findClass (exN k1.1) = some ce.cls → vx_W p l e R s m args below meth c H locs (cells + k) (slots + z) Q (F0 m pc ls rest) q)
    (kk : ∀ (r : Int32) (u : S) (H : Heap) (locs : List Loc), post r u → WH G s (Wf u) H locs → W p l e R s m args below meth c H locs (cells + k) (slots + z) Q (F0 m (pc + 3) ls (.int r :: rest))) : W p l e R s m args below meth c H locs cells slots Q (F0 m pc ls st) :=
  vx_calli (vx_runV (As := As) (rest := rest) (n := n) ⟨C.1, C.2.1, C.2.2.2.1, C.2.2.2.2.1, C.2.2.2.2.2.1⟩ hM (cwV n C.2.2.2.2.2.1 (gi_V ml yf) rfl rfl rfl ⟨rfl, yf.2⟩ hR) ⟨Inv.blind, va_recv C.K hw.2.2.1 hci he, fun U hU hW => ⟨rfl, hw.inv C hU hW⟩⟩ rfl hn hsz hst (lv_room hrest) hdg hf) hw.2.1 (fun q _ h => h) (fun q h => h) (fun q _ h => h) (fun E ce q9 k1 t H1 locs1 ht hvm hp hB _ _ hS hc1 hc2 hc3 => kx k1 q9 ce H1 locs1 hp ⟨hw.1, hS, ht ▸ hB.2.2.1, hB.2.2.2⟩ hc1 hc2 (hB.1 ▸ hc3)) (fun r u t H1 locs1 ht hvm hp hB _ _ hS => kk r u H1 locs1 hp ⟨hw.1, hS, ht ▸ hB.2.2.1, hB.2.2.2⟩)
theorem r_dast (C : Cx l G own cc nL ret p s m meth c args) (hw : WH G s w H locs) {a n : Nat} {f : Nat → UInt64} (q0 : Nat) (he : w[q0]? = some (a, .inl (G.2.2.1 5, n, .inr (.inr (.inr (.inl f)))))) {i : Int32} {x : UInt64} (hi : vp_in i n) {w' : va_W} (hw' : w.set q0 (a, .inl (G.2.2.1 5, n, .inr (.inr (.inr (.inl (vf_upd f i.toNatClampNeg x)))))) = w') (hdg : decode cc pc = .ok (.dastore, 1))
    (kk : ∀ (H : Heap) (locs : List Loc), WH G s w' H locs → W p l e R s m args below meth c H locs cells slots Q (F0 m (pc + 1) ls rest)) : W p l e R s m args below meth c H locs cells slots Q (F0 m pc ls (.double x :: .int i :: .ref a :: rest)) :=
  va_dast (D := G.1) C.1 C.2.1 C.K hw.2.2.1 hw.2.2.2 hw.2.1 q0 5 he rfl hi hdg (fun H1 locs1 hP hD hS => kk H1 locs1 ⟨hw.1, hS, hw' ▸ hP, hw' ▸ hD⟩)
theorem r_lald (C : Cx l G own cc nL ret p s m meth c args) (hw : WH G s w H locs) {a n : Nat} {f : Nat → Int64} (q0 : Nat) (he : w[q0]? = some (a, .inl (G.2.2.1 4, n, .inr (.inl f)))) {i : Int32} (hi : vp_in i n) (hdg : decode cc pc = .ok (.laload, 1))
    (kk : W p l e R s m args below meth c H locs cells slots Q (F0 m (pc + 1) ls (.long (f i.toNatClampNeg) :: rest))) : W p l e R s m args below meth c H locs cells slots Q (F0 m pc ls (.int i :: .ref a :: rest)) :=
  va_lald (D := G.1) C.1 C.2.1 C.K hw.2.2.1 q0 4 he rfl hi hdg kk
theorem r_dald (C : Cx l G own cc nL ret p s m meth c args) (hw : WH G s w H locs) {a n : Nat} {f : Nat → UInt64} (q0 : Nat) (he : w[q0]? = some (a, .inl (G.2.2.1 5, n, .inr (.inr (.inr (.inl f)))))) {i : Int32} (hi : vp_in i n) (hdg : decode cc pc = .ok (.daload, 1))
    (kk : W p l e R s m args below meth c H locs cells slots Q (F0 m (pc + 1) ls (.double (f i.toNatClampNeg) :: rest))) : W p l e R s m args below meth c H locs cells slots Q (F0 m pc ls (.int i :: .ref a :: rest)) :=
  va_dald (D := G.1) C.1 C.2.1 C.K hw.2.2.1 q0 5 he rfl hi hdg kk
end ZROWS
set_option maxHeartbeats 4000000 in
set_option maxRecDepth 100000 in
theorem w_meanPrice {l : Launch} {G : Gx} (hF : SF l G) {S : Type} {d k z : Nat} {post : UInt64 → S → Prop} {Wf : S → va_W} {px : Nat → Prop} {Wx : Nat → va_W} {b o : Nat} {fs : List Value} {f : Nat → UInt64} {wA w : va_W} {WfA : S → va_W} {WxA : Nat → va_W} (hM : XD l G yX11_meanPrice cX11_meanPrice 1 d k z [.ref b] w post Wf px Wx) (hpe : List.Perm ((o, .inl (G.2.2.1 5, 1, .inr (.inr (.inr (.inl f))))) :: wA) w) (q0 : Nat) (he : w[q0]? = some (b, .inr (12, fs))) (hpn : ∀ u, List.Perm (Wf u) ((o, .inl (G.2.2.1 5, 1, .inr (.inr (.inr (.inl f))))) :: WfA u)) (hpx : ∀ k1, px k1 → (k1 = 6) ∧ List.Perm (Wx k1) ((o, .inl (G.2.2.1 5, 1, .inr (.inr (.inr (.inl f))))) :: WxA k1)) : HI l G yL_meanPrice cL_meanPrice 3 [(0, 7, 10, 116)] (d + 1) k z [.ref b, .ref o] ((o, .inl (G.2.2.1 5, 1, .inr (.inr (.inr (.inl f))))) :: wA) (fun c1 (t : (UInt64 × S) ⊕ (Nat)) => match t with | .inl (r, u) => c1 = 0 ∧ post r u | .inr k1 => c1 = (if k1 = 6 then 1 else 0) ∧ px k1) (fun t => match t with | .inl (r, u) => (o, .inl (G.2.2.1 5, 1, .inr (.inr (.inr (.inl (vf_upd f 0 r)))))) :: WfA u | .inr k1 => (o, .inl (G.2.2.1 5, 1, .inr (.inr (.inr (.inl f))))) :: WxA k1) := by
  refine mh_of hF (by decide) (Nat.le_of_ble_eq_true rfl) ?_
  intro p e s m below meth c C htab ls hl H locs hw
  have hl : lv_has ls 3 [(0, .ref b), (1, .ref o)] := hl
  obtain ⟨bb, hb, -⟩ := id C.2.2.2.2.2.2.2.2.2.2.2.2
  refine lv_aload_n C.1 C.2.1 dL_meanPrice_0 rfl (lv_at hl 1 rfl) ?_
  refine lv_iconst (v := 0) C.1 C.2.1 dL_meanPrice_1 (by decide) ?_
  refine lv_aload_n C.1 C.2.1 dL_meanPrice_2 rfl (lv_at hl 0 rfl) ?_
  refine y_vd C (hw.perm hpe) (rt := .int) hM ml_L_112 yf_X11_meanPrice q0 he rfl (As := []) rfl rfl ⟨Nat.le_refl _, by show 8 + (1 + 11) + 64 * d ≤ 64 * (d + 1); omega⟩ ⟨Nat.le_of_eq (Nat.zero_add _), Nat.le_of_eq (Nat.zero_add _)⟩ hl.1 (Nat.le_of_ble_eq_true rfl) dL_meanPrice_3 (fun k1 q ce H locs hp hw hc1 hc2 hc3 => ?_) (fun r u H locs hp hw => ?_)
  · obtain ⟨hk, hpm⟩ := hpx k1 hp
    replace hw := hw.perm hpm
    subst hk
    refine vx_catch (own := RL) (name := "java/lang/ArithmeticException") (E := "java/lang/ArithmeticException") C.2.2.2.2.1 (tableOf []) { startPc := 0, endPc := 7, handlerPc := 10, catchType := 116 } (tableOf []) htab (fun z hz => nomatch hz) (by decide) (by decide) (C.2.2.2.2.2.1 _ cl_L_116) (fw_mv C rfl rfl (hb _ (tb6 _ (List.mem_of_getElem? (i := 132) rfl)))) hc1 hc2 hc3 ?_
    refine lv_astore_n (lv' := [(2, .ref q), (0, .ref b), (1, .ref o)]) C.1 C.2.1 dL_meanPrice_10 rfl hl (by decide) rfl (fun ls hl => ?_)
    refine lv_iconst (v := 1) C.1 C.2.1 dL_meanPrice_11 (by decide) ?_
    exact r_iret C hw rfl rfl (Sum.inr 6) ⟨rfl, hp⟩ rfl (Nat.le_of_eq (Nat.zero_add _)) (Nat.le_of_eq (Nat.zero_add _)) dL_meanPrice_12
  · replace hw := hw.perm (hpn u)
    refine r_dast C hw 0 rfl (n := 1) (i := 0) (x := r) (show ¬ ((0 : Int32) < 0 ∨ 1 ≤ (0 : Int32).toNatClampNeg) by decide) (w' := (o, .inl (G.2.2.1 5, 1, .inr (.inr (.inr (.inl (vf_upd f 0 r)))))) :: WfA u) rfl dL_meanPrice_6 (fun H locs hw => ?_)
    refine lv_goto (tgt := 13) C.1 C.2.1 dL_meanPrice_7 (by decide) ?_
    refine lv_iconst (v := 0) C.1 C.2.1 dL_meanPrice_13 (by decide) ?_
    exact r_iret C hw rfl rfl (Sum.inl (r, u)) ⟨rfl, hp⟩ rfl (Nat.le_of_eq (Nat.zero_add _)) (Nat.le_of_eq (Nat.zero_add _)) dL_meanPrice_14
set_option maxHeartbeats 4000000 in
set_option maxRecDepth 100000 in
theorem w_buyingShare {l : Launch} {G : Gx} (hF : SF l G) {S : Type} {d k z : Nat} {post : UInt32 → S → Prop} {Wf : S → va_W} {px : Nat → Prop} {Wx : Nat → va_W} {b o : Nat} {fs : List Value} {f : Nat → UInt64} {wA w : va_W} {WfA : S → va_W} {WxA : Nat → va_W} (hM : XF l G yX11_buyingShare cX11_buyingShare 1 d k z [.ref b] w post Wf px Wx) (hnn : ∀ r u, post r u → vf_n64 (FP.f2d r)) (hpe : List.Perm ((o, .inl (G.2.2.1 5, 1, .inr (.inr (.inr (.inl f))))) :: wA) w) (q0 : Nat) (he : w[q0]? = some (b, .inr (12, fs))) (hpn : ∀ u, List.Perm (Wf u) ((o, .inl (G.2.2.1 5, 1, .inr (.inr (.inr (.inl f))))) :: WfA u)) (hpx : ∀ k1, px k1 → (k1 = 6) ∧ List.Perm (Wx k1) ((o, .inl (G.2.2.1 5, 1, .inr (.inr (.inr (.inl f))))) :: WxA k1)) : HI l G yL_buyingShare cL_buyingShare 3 [(0, 8, 11, 116)] (d + 1) k z [.ref b, .ref o] ((o, .inl (G.2.2.1 5, 1, .inr (.inr (.inr (.inl f))))) :: wA) (fun c1 (t : (UInt32 × S) ⊕ (Nat)) => match t with | .inl (r, u) => c1 = 0 ∧ post r u | .inr k1 => c1 = (if k1 = 6 then 1 else 0) ∧ px k1) (fun t => match t with | .inl (r, u) => (o, .inl (G.2.2.1 5, 1, .inr (.inr (.inr (.inl (vf_upd f 0 (FP.f2d r))))))) :: WfA u | .inr k1 => (o, .inl (G.2.2.1 5, 1, .inr (.inr (.inr (.inl f))))) :: WxA k1) := by
  refine mh_of hF (by decide) (Nat.le_of_ble_eq_true rfl) ?_
  intro p e s m below meth c C htab ls hl H locs hw
  have hl : lv_has ls 3 [(0, .ref b), (1, .ref o)] := hl
  obtain ⟨bb, hb, -⟩ := id C.2.2.2.2.2.2.2.2.2.2.2.2
  refine lv_aload_n C.1 C.2.1 dL_buyingShare_0 rfl (lv_at hl 1 rfl) ?_
  refine lv_iconst (v := 0) C.1 C.2.1 dL_buyingShare_1 (by decide) ?_
  refine lv_aload_n C.1 C.2.1 dL_buyingShare_2 rfl (lv_at hl 0 rfl) ?_
  refine y_vf C (hw.perm hpe) (rt := .int) hM ml_L_118 yf_X11_buyingShare q0 he rfl (As := []) rfl rfl ⟨Nat.le_refl _, by show 8 + (1 + 11) + 64 * d ≤ 64 * (d + 1); omega⟩ ⟨Nat.le_of_eq (Nat.zero_add _), Nat.le_of_eq (Nat.zero_add _)⟩ hl.1 (Nat.le_of_ble_eq_true rfl) dL_buyingShare_3 (fun k1 q ce H locs hp hw hc1 hc2 hc3 => ?_) (fun r u H locs hp hw => ?_)
  · obtain ⟨hk, hpm⟩ := hpx k1 hp
    replace hw := hw.perm hpm
    subst hk
    refine vx_catch (own := RL) (name := "java/lang/ArithmeticException") (E := "java/lang/ArithmeticException") C.2.2.2.2.1 (tableOf []) { startPc := 0, endPc := 8, handlerPc := 11, catchType := 116 } (tableOf []) htab (fun z hz => nomatch hz) (by decide) (by decide) (C.2.2.2.2.2.1 _ cl_L_116) (fw_mv C rfl rfl (hb _ (tb6 _ (List.mem_of_getElem? (i := 132) rfl)))) hc1 hc2 hc3 ?_
    refine lv_astore_n (lv' := [(2, .ref q), (0, .ref b), (1, .ref o)]) C.1 C.2.1 dL_buyingShare_11 rfl hl (by decide) rfl (fun ls hl => ?_)
    refine lv_iconst (v := 1) C.1 C.2.1 dL_buyingShare_12 (by decide) ?_
    exact r_iret C hw rfl rfl (Sum.inr 6) ⟨rfl, hp⟩ rfl (Nat.le_of_eq (Nat.zero_add _)) (Nat.le_of_eq (Nat.zero_add _)) dL_buyingShare_13
  · replace hw := hw.perm (hpn u)
    refine lv_f2d C.1 C.2.1 dL_buyingShare_6 (hnn r u hp) ?_
    refine r_dast C hw 0 rfl (n := 1) (i := 0) (x := (FP.f2d r)) (show ¬ ((0 : Int32) < 0 ∨ 1 ≤ (0 : Int32).toNatClampNeg) by decide) (w' := (o, .inl (G.2.2.1 5, 1, .inr (.inr (.inr (.inl (vf_upd f 0 (FP.f2d r))))))) :: WfA u) rfl dL_buyingShare_7 (fun H locs hw => ?_)
    refine lv_goto (tgt := 14) C.1 C.2.1 dL_buyingShare_8 (by decide) ?_
    refine lv_iconst (v := 0) C.1 C.2.1 dL_buyingShare_14 (by decide) ?_
    exact r_iret C hw rfl rfl (Sum.inl (r, u)) ⟨rfl, hp⟩ rfl (Nat.le_of_eq (Nat.zero_add _)) (Nat.le_of_eq (Nat.zero_add _)) dL_buyingShare_15
set_option maxHeartbeats 4000000 in
set_option maxRecDepth 100000 in
theorem w_execute {l : Launch} {G : Gx} (hF : SF l G) {S : Type} {d k z : Nat} {post : Int32 → S → Prop} {Wf : S → va_W} {px : Nat × (Nat × Nat × (Nat → Int32) × Int32) → Prop} {Wx : Nat × (Nat × Nat × (Nat → Int32) × Int32) → va_W} {b o : Nat} {fs : List Value} {f : Nat → Int64} {wA w : va_W} {WfA : S → va_W} {WxA : Nat × (Nat × Nat × (Nat → Int32) × Int32) → va_W} (hM : vx_Met l yX11_execute (wy yX11_execute cX11_execute 3 (some .int)) (rmD d k z) (va_Pc [.ref b] (Inv G w)) (va_Qi post (fun u t => Inv G (Wf u) t) (gA G)) (XQ2 G px Wx) k z (gA G)) (hpe : List.Perm ((o, .inl (G.2.2.1 4, 1, .inr (.inl f))) :: wA) w) (q0 : Nat) (he : w[q0]? = some (b, .inr (12, fs))) (hpn : ∀ u, List.Perm (Wf u) ((o, .inl (G.2.2.1 4, 1, .inr (.inl f))) :: WfA u)) (hpx : ∀ k1, px k1 → (k1.1 = 2 ∨ k1.1 = 3) ∧ List.Perm (Wx k1) ((o, .inl (G.2.2.1 4, 1, .inr (.inl f))) :: WxA k1)) : HI l G yL_execute cL_execute 3 [(0, 8, 11, 13), (0, 8, 14, 15)] (d + 1) k z [.ref b, .ref o] ((o, .inl (G.2.2.1 4, 1, .inr (.inl f))) :: wA) (fun c1 (t : (Int32 × S) ⊕ (Nat × (Nat × Nat × (Nat → Int32) × Int32))) => match t with | .inl (r, u) => c1 = 0 ∧ post r u | .inr k1 => c1 = (if k1.1 = 2 then 1 else if k1.1 = 3 then 2 else 0) ∧ px k1) (fun t => match t with | .inl (r, u) => (o, .inl (G.2.2.1 4, 1, .inr (.inl (vp_updL f 0 r.toInt64)))) :: WfA u | .inr k1 => (o, .inl (G.2.2.1 4, 1, .inr (.inl f))) :: WxA k1) := by
  refine mh_of hF (by decide) (Nat.le_of_ble_eq_true rfl) ?_
  intro p e s m below meth c C htab ls hl H locs hw
  have hl : lv_has ls 3 [(0, .ref b), (1, .ref o)] := hl
  obtain ⟨bb, hb, -⟩ := id C.2.2.2.2.2.2.2.2.2.2.2.2
  refine lv_aload_n C.1 C.2.1 dL_execute_0 rfl (lv_at hl 1 rfl) ?_
  refine lv_iconst (v := 0) C.1 C.2.1 dL_execute_1 (by decide) ?_
  refine lv_aload_n C.1 C.2.1 dL_execute_2 rfl (lv_at hl 0 rfl) ?_
  refine y_vi2 C (hw.perm hpe) hM ml_L_142 yf_X11_execute q0 he rfl (As := []) rfl rfl ⟨Nat.le_refl _, by show 8 + (3 + 11) + 64 * d ≤ 64 * (d + 1); omega⟩ ⟨Nat.le_of_eq (Nat.zero_add _), Nat.le_of_eq (Nat.zero_add _)⟩ hl.1 (Nat.le_of_ble_eq_true rfl) dL_execute_3 (fun k1 q ce H locs hp hw hc1 hc2 hc3 => ?_) (fun r u H locs hp hw => ?_)
  · obtain ⟨hk, hpm⟩ := hpx k1 hp
    replace hw := hw.perm hpm
    obtain ⟨k1, k2⟩ := k1
    replace hk : k1 = 2 ∨ k1 = 3 := hk
    rcases hk with rfl | rfl
    · refine vx_catch (own := RL) (name := "java/lang/IllegalArgumentException") (E := "java/lang/IllegalArgumentException") C.2.2.2.2.1 (tableOf []) { startPc := 0, endPc := 8, handlerPc := 11, catchType := 13 } (tableOf [(0, 8, 14, 15)]) htab (fun z hz => nomatch hz) (by decide) (by decide) (C.2.2.2.2.2.1 _ cl_L_13) (fw_mv C rfl rfl (hb _ (tb3 _ (List.mem_of_getElem? (i := 55) rfl)))) hc1 hc2 hc3 ?_
      refine lv_astore_n (lv' := [(2, .ref q), (0, .ref b), (1, .ref o)]) C.1 C.2.1 dL_execute_11 rfl hl (by decide) rfl (fun ls hl => ?_)
      refine lv_iconst (v := 1) C.1 C.2.1 dL_execute_12 (by decide) ?_
      exact r_iret C hw rfl rfl (Sum.inr (2, k2)) ⟨rfl, hp⟩ rfl (Nat.le_of_eq (Nat.zero_add _)) (Nat.le_of_eq (Nat.zero_add _)) dL_execute_13
    · refine vx_catch (own := RL) (name := "java/lang/IllegalStateException") (E := "java/lang/IllegalStateException") C.2.2.2.2.1 (tableOf [(0, 8, 11, 13)]) { startPc := 0, endPc := 8, handlerPc := 14, catchType := 15 } (tableOf []) htab (List.forall_mem_cons.mpr ⟨Or.inr ⟨by decide, _, C.2.2.2.2.2.1 _ cl_L_13, (SF.nc_3_2 hF).moved C.2.2.2.2.2.2.2.1.alike⟩, (fun z hz => nomatch hz)⟩) (by decide) (by decide) (C.2.2.2.2.2.1 _ cl_L_15) (fw_mv C rfl rfl (hb _ (tb4 _ (List.mem_of_getElem? (i := 180) rfl)))) hc1 hc2 hc3 ?_
      refine lv_astore_n (lv' := [(2, .ref q), (0, .ref b), (1, .ref o)]) C.1 C.2.1 dL_execute_14 rfl hl (by decide) rfl (fun ls hl => ?_)
      refine lv_iconst (v := 2) C.1 C.2.1 dL_execute_15 (by decide) ?_
      exact r_iret C hw rfl rfl (Sum.inr (3, k2)) ⟨rfl, hp⟩ rfl (Nat.le_of_eq (Nat.zero_add _)) (Nat.le_of_eq (Nat.zero_add _)) dL_execute_16
  · replace hw := hw.perm (hpn u)
    refine lv_i2l (v := r.toInt64) C.1 C.2.1 dL_execute_6 rfl ?_
    refine r_last C hw 0 rfl (n := 1) (i := 0) (x := r.toInt64) (show ¬ ((0 : Int32) < 0 ∨ 1 ≤ (0 : Int32).toNatClampNeg) by decide) (w' := (o, .inl (G.2.2.1 4, 1, .inr (.inl (vp_updL f 0 r.toInt64)))) :: WfA u) rfl dL_execute_7 (fun H locs hw => ?_)
    refine lv_goto (tgt := 17) C.1 C.2.1 dL_execute_8 (by decide) ?_
    refine lv_iconst (v := 0) C.1 C.2.1 dL_execute_17 (by decide) ?_
    exact r_iret C hw rfl rfl (Sum.inl (r, u)) ⟨rfl, hp⟩ rfl (Nat.le_of_eq (Nat.zero_add _)) (Nat.le_of_eq (Nat.zero_add _)) dL_execute_18
