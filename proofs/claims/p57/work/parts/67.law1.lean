/-! The wrappers of the law -/
def wyW (y : MethodName) (cc : ByteArray) (n : Nat) (r : Option FieldType) (hh : List (Nat × Nat × Nat × Nat)) : List Cond := Cond.codeWith y cc n r hh :: LW
def YfW (y : MethodName) (cc : ByteArray) (n : Nat) (hh : List (Nat × Nat × Nat × Nat)) (k : Nat) : Prop := (Cond.static y ∈ LW ∧ Cond.initialized y.cls ∈ LW ∧ Cond.codeWith y cc n (some .int) hh ∈ LW) ∧ (y.cls ≠ "java/lang/invoke/MethodHandle" ∧ y.cls ≠ "java/lang/invoke/VarHandle" ∧ (parseMethodDescriptor y.desc).map (fun d => d.parameters.length) = some k)
abbrev HI (l : Launch) (G : Gx) (y : MethodName) (cc : ByteArray) (n : Nat) (hh : List (Nat × Nat × Nat × Nat)) (d k z : Nat) (av : List Value) (w : va_W) {S : Type} (post : Int32 → S → Prop) (Wf : S → va_W) : Prop := Met l y (wyW y cc n (some .int) hh) (rmD d k z) (va_Pc av (Inv G w)) (va_Qi post (fun u t => Inv G (Wf u) t) (gA G)) k z (gA G)
theorem mh_of {l : Launch} {G : Gx} {y : MethodName} {cc : ByteArray} {maxL : Nat} {ret : Option FieldType} {hh : List (Nat × Nat × Nat × Nat)} {rm : Room} {av : List Value} {w : va_W} {Qc : Array Value → State → Outcome → State → Prop} {mc ms : Nat} {free : Addr → Prop} (hF : SF l G) (hy : plainName y.cls = true) (hn : (lg_sl av).length ≤ maxL)
    (body : ∀ (p : Program) (e : Env) (s : State) (m : MethodId) (below : List Frame) (meth : Method) (c : Code), Cx l G y.cls cc maxL ret p s m meth c av.toArray → c.exceptionTable.toList = tableOf hh → ∀ ls : Array Slot, lv_has ls maxL (lv_args 0 av) → ∀ (H : Heap) (locs : List Loc), WH G s w H locs → W p l e rm s m av.toArray below meth c H locs 0 0 (MQ below Qc av.toArray s mc ms free) (F0 m 0 ls [])) :
    Met l y (wyW y cc maxL ret hh) rm (va_Pc av (Inv G w)) Qc mc ms free := by
  refine va_MetW (cc := cc) (maxL := maxL) (ret := ret) (hh := hh) hy rfl ?_
  intro p e s m args below meth c s₁ B hml hv
  obtain ⟨rfl, hI⟩ := hv
  have hts := atoms_spec (ws := wyW y cc maxL ret hh) B.pre
  have hl := lv_entry av (n := maxL) hn
  rw [lg_entry_eq]
  exact body p e s m below meth c ⟨B.exec, B.bytes, B.returns, hml, findClass_of_methodNamed B.named, fun w h => hts w (List.mem_cons_of_mem _ h), B.notSynchronized, hI.1, hF⟩ (vx_table (x := y) B (hts _ List.mem_cons_self)) _ hl _ _ ⟨hI.2.1, va_S.rf, hI.2.2⟩
section YROWS
variable {p : Program} {l : Launch} {e : Env} {R : Room} {s : State} {m : MethodId} {args : Array Value} {below : List Frame} {meth : Method} {c : Code} {H : Heap} {locs : List Loc} {cells slots : Nat} {Q : State → Prop}
variable {G : Gx} {own : String} {cc : ByteArray} {nL : Nat} {ret : Option FieldType} {pc : Nat} {ls : Array Slot} {rest st : List Value} {w : va_W}
theorem y_vi (C : Cx l G own cc nL ret p s m meth c args) (hw : WH G s w H locs) {y : MethodName} {bytes : ByteArray} {maxL d k z n index : Nat} {As : List Value} {S : Type} {rt : FieldType} {post : Int32 → S → Prop} {Wf : S → va_W} {px : Nat → Prop} {Wx : Nat → va_W} {b ci : Nat} {fs : List Value} (hM : XI l G y bytes maxL rt d k z (.ref b :: As) w post Wf px Wx) (ml : Cond.methodLink own index y ∈ LW) (yf : YfV y bytes maxL (some rt) n) (q0 : Nat) (he : w[q0]? = some (b, .inr (ci, fs))) {T : u_T} {N : Nat} (hci : vwCl[ci]? = some (y.cls, T, N)) (hn : As.length = n) (hst : st = As.reverse ++ .ref b :: rest) (hR : d + 1 ≤ R.frames ∧ 8 + (maxL + 11) + 64 * d ≤ R.locals) (hf : cells + k ≤ R.cells ∧ slots + z ≤ R.slots) (hsz : ls.size = nL) (hrest : (rest.map fun v => v.category).sum ≤ 8) (hdg : decode cc pc = .ok (.invokevirtual index, 3))
    (kx : ∀ (k1 : Nat) (q : Nat) (ce : Cell) (H : Heap) (locs : List Loc), px k1 → WH G s (Wx k1) H locs → H[q]? = some ce → ce.vm = .none → s.vm.findClass (exN k1) = some ce.cls → vx_W p l e R s m args below meth c H locs (cells + k) (slots + z) Q (F0 m pc ls rest) q)
    (kk : ∀ (r : Int32) (u : S) (H : Heap) (locs : List Loc), post r u → WH G s (Wf u) H locs → W p l e R s m args below meth c H locs (cells + k) (slots + z) Q (F0 m (pc + 3) ls (.int r :: rest))) : W p l e R s m args below meth c H locs cells slots Q (F0 m pc ls st) :=
  vx_calli (vx_runV (As := As) (rest := rest) (n := n) ⟨C.1, C.2.1, C.2.2.2.1, C.2.2.2.2.1, C.2.2.2.2.2.1⟩ hM (cwV n C.2.2.2.2.2.1 (gi_V ml yf) rfl rfl rfl ⟨rfl, yf.2⟩ hR) ⟨Inv.blind, va_recv C.K hw.2.2.1 hci he, fun U hU hW => ⟨rfl, hw.inv C hU hW⟩⟩ rfl hn hsz hst (lv_room hrest) hdg hf) hw.2.1 (fun q _ h => h) (fun q h => h) (fun q _ h => h) (fun E ce q9 k1 t H1 locs1 ht hvm hp hB _ _ hS hc1 hc2 hc3 => kx k1 q9 ce H1 locs1 hp ⟨hw.1, hS, ht ▸ hB.2.2.1, hB.2.2.2⟩ hc1 hc2 (hB.1 ▸ hc3)) (fun r u t H1 locs1 ht hvm hp hB _ _ hS => kk r u H1 locs1 hp ⟨hw.1, hS, ht ▸ hB.2.2.1, hB.2.2.2⟩)
theorem y_vd (C : Cx l G own cc nL ret p s m meth c args) (hw : WH G s w H locs) {y : MethodName} {bytes : ByteArray} {maxL d k z n index : Nat} {As : List Value} {S : Type} {rt : FieldType} {post : UInt64 → S → Prop} {Wf : S → va_W} {px : Nat → Prop} {Wx : Nat → va_W} {b ci : Nat} {fs : List Value} (hM : XD l G y bytes maxL d k z (.ref b :: As) w post Wf px Wx) (ml : Cond.methodLink own index y ∈ LW) (yf : YfV y bytes maxL (some .double) n) (q0 : Nat) (he : w[q0]? = some (b, .inr (ci, fs))) {T : u_T} {N : Nat} (hci : vwCl[ci]? = some (y.cls, T, N)) (hn : As.length = n) (hst : st = As.reverse ++ .ref b :: rest) (hR : d + 1 ≤ R.frames ∧ 8 + (maxL + 11) + 64 * d ≤ R.locals) (hf : cells + k ≤ R.cells ∧ slots + z ≤ R.slots) (hsz : ls.size = nL) (hrest : (rest.map fun v => v.category).sum ≤ 8) (hdg : decode cc pc = .ok (.invokevirtual index, 3))
    (kx : ∀ (k1 : Nat) (q : Nat) (ce : Cell) (H : Heap) (locs : List Loc), px k1 → WH G s (Wx k1) H locs → H[q]? = some ce → ce.vm = .none → s.vm.findClass (exN k1) = some ce.cls → vx_W p l e R s m args below meth c H locs (cells + k) (slots + z) Q (F0 m pc ls rest) q)
    (kk : ∀ (r : UInt64) (u : S) (H : Heap) (locs : List Loc), post r u → WH G s (Wf u) H locs → W p l e R s m args below meth c H locs (cells + k) (slots + z) Q (F0 m (pc + 3) ls (.double r :: rest))) : W p l e R s m args below meth c H locs cells slots Q (F0 m pc ls st) :=
  vx_calld (vx_runV (As := As) (rest := rest) (n := n) ⟨C.1, C.2.1, C.2.2.2.1, C.2.2.2.2.1, C.2.2.2.2.2.1⟩ hM (cwV n C.2.2.2.2.2.1 (gi_V ml yf) rfl rfl rfl ⟨rfl, yf.2⟩ hR) ⟨Inv.blind, va_recv C.K hw.2.2.1 hci he, fun U hU hW => ⟨rfl, hw.inv C hU hW⟩⟩ rfl hn hsz hst (lv_room hrest) hdg hf) hw.2.1 (fun q _ h => h) (fun q h => h) (fun q _ h => h) (fun E ce q9 k1 t H1 locs1 ht hvm hp hB _ _ hS hc1 hc2 hc3 => kx k1 q9 ce H1 locs1 hp ⟨hw.1, hS, ht ▸ hB.2.2.1, hB.2.2.2⟩ hc1 hc2 (hB.1 ▸ hc3)) (fun r u t H1 locs1 ht hvm hp hB _ _ hS => kk r u H1 locs1 hp ⟨hw.1, hS, ht ▸ hB.2.2.1, hB.2.2.2⟩)
theorem y_vf (C : Cx l G own cc nL ret p s m meth c args) (hw : WH G s w H locs) {y : MethodName} {bytes : ByteArray} {maxL d k z n index : Nat} {As : List Value} {S : Type} {rt : FieldType} {post : UInt32 → S → Prop} {Wf : S → va_W} {px : Nat → Prop} {Wx : Nat → va_W} {b ci : Nat} {fs : List Value} (hM : XF l G y bytes maxL d k z (.ref b :: As) w post Wf px Wx) (ml : Cond.methodLink own index y ∈ LW) (yf : YfV y bytes maxL (some .float) n) (q0 : Nat) (he : w[q0]? = some (b, .inr (ci, fs))) {T : u_T} {N : Nat} (hci : vwCl[ci]? = some (y.cls, T, N)) (hn : As.length = n) (hst : st = As.reverse ++ .ref b :: rest) (hR : d + 1 ≤ R.frames ∧ 8 + (maxL + 11) + 64 * d ≤ R.locals) (hf : cells + k ≤ R.cells ∧ slots + z ≤ R.slots) (hsz : ls.size = nL) (hrest : (rest.map fun v => v.category).sum ≤ 8) (hdg : decode cc pc = .ok (.invokevirtual index, 3))
    (kx : ∀ (k1 : Nat) (q : Nat) (ce : Cell) (H : Heap) (locs : List Loc), px k1 → WH G s (Wx k1) H locs → H[q]? = some ce → ce.vm = .none → s.vm.findClass (exN k1) = some ce.cls → vx_W p l e R s m args below meth c H locs (cells + k) (slots + z) Q (F0 m pc ls rest) q)
    (kk : ∀ (r : UInt32) (u : S) (H : Heap) (locs : List Loc), post r u → WH G s (Wf u) H locs → W p l e R s m args below meth c H locs (cells + k) (slots + z) Q (F0 m (pc + 3) ls (.float r :: rest))) : W p l e R s m args below meth c H locs cells slots Q (F0 m pc ls st) :=
  vx_callf (vx_runV (As := As) (rest := rest) (n := n) ⟨C.1, C.2.1, C.2.2.2.1, C.2.2.2.2.1, C.2.2.2.2.2.1⟩ hM (cwV n C.2.2.2.2.2.1 (gi_V ml yf) rfl rfl rfl ⟨rfl, yf.2⟩ hR) ⟨Inv.blind, va_recv C.K hw.2.2.1 hci he, fun U hU hW => ⟨rfl, hw.inv C hU hW⟩⟩ rfl hn hsz hst (lv_room hrest) hdg hf) hw.2.1 (fun q _ h => h) (fun q h => h) (fun q _ h => h) (fun E ce q9 k1 t H1 locs1 ht hvm hp hB _ _ hS hc1 hc2 hc3 => kx k1 q9 ce H1 locs1 hp ⟨hw.1, hS, ht ▸ hB.2.2.1, hB.2.2.2⟩ hc1 hc2 (hB.1 ▸ hc3)) (fun r u t H1 locs1 ht hvm hp hB _ _ hS => kk r u H1 locs1 hp ⟨hw.1, hS, ht ▸ hB.2.2.1, hB.2.2.2⟩)


theorem y_vi2 (C : Cx l G own cc nL ret p s m meth c args) (hw : WH G s w H locs) {y : MethodName} {bytes : ByteArray} {maxL d k z n index : Nat} {As : List Value} {S : Type} {rt : FieldType} {post : Int32 → S → Prop} {Wf : S → va_W} {px : Nat × (Nat × Nat × (Nat → Int32) × Int32) → Prop} {Wx : Nat × (Nat × Nat × (Nat → Int32) × Int32) → va_W} {b ci : Nat} {fs : List Value} (hM : vx_Met l y (wy y bytes maxL (some rt)) (rmD d k z) (va_Pc (.ref b :: As) (Inv G w)) (va_Qi post (fun u t => Inv G (Wf u) t) (gA G)) (XQ2 G px Wx) k z (gA G)) (ml : Cond.methodLink own index y ∈ LW) (yf : YfV y bytes maxL (some rt) n) (q0 : Nat) (he : w[q0]? = some (b, .inr (ci, fs))) {T : u_T} {N : Nat} (hci : vwCl[ci]? = some (y.cls, T, N)) (hn : As.length = n) (hst : st = As.reverse ++ .ref b :: rest) (hR : d + 1 ≤ R.frames ∧ 8 + (maxL + 11) + 64 * d ≤ R.locals) (hf : cells + k ≤ R.cells ∧ slots + z ≤ R.slots) (hsz : ls.size = nL) (hrest : (rest.map fun v => v.category).sum ≤ 8) (hdg : decode cc pc = .ok (.invokevirtual index, 3))
    (kx : ∀ (k1 : Nat × (Nat × Nat × (Nat → Int32) × Int32)) (q : Nat) (ce : Cell) (H : Heap) (locs : List Loc), px k1 → WH G s (Wx k1) H locs → H[q]? = some ce → ce.vm = .none → s.vm.findClass (exN k1.1) = some ce.cls → vx_W p l e R s m args below meth c H locs (cells + k) (slots + z) Q (F0 m pc ls rest) q)
    (kk : ∀ (r : Int32) (u : S) (H : Heap) (locs : List Loc), post r u → WH G s (Wf u) H locs → W p l e R s m args below meth c H locs (cells + k) (slots + z) Q (F0 m (pc + 3) ls (.int r :: rest))) : W p l e R s m args below meth c H locs cells slots Q (F0 m pc ls st) :=
  vx_calli (vx_runV (As := As) (rest := rest) (n := n) ⟨C.1, C.2.1, C.2.2.2.1, C.2.2.2.2.1, C.2.2.2.2.2.1⟩ hM (cwV n C.2.2.2.2.2.1 (gi_V ml yf) rfl rfl rfl ⟨rfl, yf.2⟩ hR) ⟨Inv.blind, va_recv C.K hw.2.2.1 hci he, fun U hU hW => ⟨rfl, hw.inv C hU hW⟩⟩ rfl hn hsz hst (lv_room hrest) hdg hf) hw.2.1 (fun q _ h => h) (fun q h => h) (fun q _ h => h) (fun E ce q9 k1 t H1 locs1 ht hvm hp hB _ _ hS hc1 hc2 hc3 => kx k1 q9 ce H1 locs1 hp ⟨hw.1, hS, ht ▸ hB.2.2.1, hB.2.2.2⟩ hc1 hc2 (hB.1 ▸ hc3)) (fun r u t H1 locs1 ht hvm hp hB _ _ hS => kk r u H1 locs1 hp ⟨hw.1, hS, ht ▸ hB.2.2.1, hB.2.2.2⟩)
end YROWS
theorem wyW_good {y : MethodName} {cc : ByteArray} {n : Nat} {r : Option FieldType} {hh : List (Nat × Nat × Nat × Nat)} (h : Cond.codeWith y cc n r hh ∈ LW) : GoodIn LW (wyW y cc n r hh) := fun w hw => by
  rcases List.mem_cons.mp hw with e | e
  · rw [e]; exact ⟨h, LW_good _ h⟩
  · exact ⟨e, LW_good _ e⟩
section ZROWS
variable {p : Program} {l : Launch} {e : Env} {R : Room} {s : State} {m : MethodId} {args : Array Value} {below : List Frame} {meth : Method} {c : Code} {H : Heap} {locs : List Loc} {cells slots : Nat} {Q : State → Prop}
variable {G : Gx} {own : String} {cc : ByteArray} {nL : Nat} {ret : Option FieldType} {pc : Nat} {ls : Array Slot} {rest st : List Value} {w : va_W}
theorem r_hsi (C : Cx l G own cc nL ret p s m meth c args) (hw : WH G s w H locs) {y : MethodName} {bytes : ByteArray} {maxL d k z n index : Nat} {hh : List (Nat × Nat × Nat × Nat)} {As : List Value} {S : Type} {post : Int32 → S → Prop} {Wf : S → va_W} (hM : HI l G y bytes maxL hh d k z As w post Wf) (ml : Cond.methodLink own index y ∈ LW) (yf : YfW y bytes maxL hh n) (hn : As.length = n) (hst : st = As.reverse ++ rest) (hR : d + 1 ≤ R.frames ∧ 8 + (maxL + 11) + 64 * d ≤ R.locals) (hf : cells + k ≤ R.cells ∧ slots + z ≤ R.slots) (hsz : ls.size = nL) (hrest : (rest.map fun v => v.category).sum ≤ 8) (hdg : decode cc pc = .ok (.invokestatic index, 3))
    (kk : ∀ (r : Int32) (u : S) (H : Heap) (locs : List Loc), post r u → WH G s (Wf u) H locs → W p l e R s m args below meth c H locs (cells + k) (slots + z) Q (F0 m (pc + 3) ls (.int r :: rest))) : W p l e R s m args below meth c H locs cells slots Q (F0 m pc ls st) :=
  va_calli (vx_runSW (As := As) (rest := rest) (n := n) ⟨C.1, C.2.1, C.2.2.2.1, C.2.2.2.2.1, C.2.2.2.2.2.1⟩ hM ⟨⟨rfl, rfl, hR.1, hR.2, pay_in C.2.2.2.2.2.1 (wyW_good yf.1.2.2), List.mem_cons_self⟩, C.2.2.2.2.2.1 _ yf.1.2.2, C.2.2.2.2.2.1 _ yf.1.2.1, ⟨yf.2.1, yf.2.2.1⟩, fun sig h => by have h2 := yf.2.2.2; rw [h] at h2; exact (Option.some.inj h2).symm, C.2.2.2.2.2.1 _ ml, C.2.2.2.2.2.1 _ yf.1.1⟩ ⟨Inv.blind, fun U hU hW => ⟨rfl, hw.inv C hU hW⟩⟩ rfl hn hsz hst (lv_room hrest) hdg hf) hw.2.1 (fun q _ h => h) (fun q h => h) (fun r u t H1 locs1 ht hvm hp hB _ _ hS => kk r u H1 locs1 hp ⟨hw.1, hS, ht ▸ hB.2.2.1, hB.2.2.2⟩)
theorem r_lald (C : Cx l G own cc nL ret p s m meth c args) (hw : WH G s w H locs) {a n : Nat} {f : Nat → Int64} (q0 : Nat) (he : w[q0]? = some (a, .inl (G.2.2.1 4, n, .inr (.inl f)))) {i : Int32} (hi : vp_in i n) (hdg : decode cc pc = .ok (.laload, 1))
    (kk : W p l e R s m args below meth c H locs cells slots Q (F0 m (pc + 1) ls (.long (f i.toNatClampNeg) :: rest))) : W p l e R s m args below meth c H locs cells slots Q (F0 m pc ls (.int i :: .ref a :: rest)) :=
  va_lald (D := G.1) C.1 C.2.1 C.K hw.2.2.1 q0 4 he rfl hi hdg kk
theorem r_last (C : Cx l G own cc nL ret p s m meth c args) (hw : WH G s w H locs) {a n : Nat} {f : Nat → Int64} (q0 : Nat) (he : w[q0]? = some (a, .inl (G.2.2.1 4, n, .inr (.inl f)))) {i : Int32} {x : Int64} (hi : vp_in i n) {w' : va_W} (hw' : w.set q0 (a, .inl (G.2.2.1 4, n, .inr (.inl (vp_updL f i.toNatClampNeg x)))) = w') (hdg : decode cc pc = .ok (.lastore, 1))
    (kk : ∀ (H : Heap) (locs : List Loc), WH G s w' H locs → W p l e R s m args below meth c H locs cells slots Q (F0 m (pc + 1) ls rest)) : W p l e R s m args below meth c H locs cells slots Q (F0 m pc ls (.long x :: .int i :: .ref a :: rest)) :=
  va_last (D := G.1) C.1 C.2.1 C.K hw.2.2.1 hw.2.2.2 hw.2.1 q0 4 he rfl hi hdg (fun H1 locs1 hP hD hS => kk H1 locs1 ⟨hw.1, hS, hw' ▸ hP, hw' ▸ hD⟩)
end ZROWS
theorem yf_L_addStall : YfW yL_addStall cL_addStall 4 [(0, 6, 7, 14), (0, 6, 10, 16)] 3 := ⟨⟨lwm (tb2 _ (List.mem_of_getElem? (i := 62) rfl)) rfl, ini_L, lwm (tb2 _ (List.mem_of_getElem? (i := 63) rfl)) rfl⟩, by decide +kernel⟩
theorem yf_L_buy : YfW yL_buy cL_buy 5 [(0, 7, 8, 22), (0, 7, 12, 14), (0, 7, 17, 16), (0, 7, 22, 24)] 4 := ⟨⟨lwm (tb3 _ (List.mem_of_getElem? (i := 31) rfl)) rfl, ini_L, lwm (tb3 _ (List.mem_of_getElem? (i := 32) rfl)) rfl⟩, by decide +kernel⟩
theorem yf_L_sell : YfW yL_sell cL_sell 5 [(0, 7, 8, 22), (0, 7, 12, 14), (0, 7, 17, 16), (0, 7, 22, 24)] 4 := ⟨⟨lwm (tb3 _ (List.mem_of_getElem? (i := 146) rfl)) rfl, ini_L, lwm (tb3 _ (List.mem_of_getElem? (i := 147) rfl)) rfl⟩, by decide +kernel⟩
theorem yf_L_buyFor : YfW yL_buyFor cL_buyFor 6 [(0, 9, 10, 22), (0, 9, 14, 14), (0, 9, 19, 16), (0, 9, 24, 24)] 5 := ⟨⟨lwm (tb3 _ (List.mem_of_getElem? (i := 153) rfl)) rfl, ini_L, lwm (tb3 _ (List.mem_of_getElem? (i := 154) rfl)) rfl⟩, by decide +kernel⟩
theorem yf_L_sellFor : YfW yL_sellFor cL_sellFor 6 [(0, 9, 10, 22), (0, 9, 14, 14), (0, 9, 19, 16), (0, 9, 24, 24)] 5 := ⟨⟨lwm (tb3 _ (List.mem_of_getElem? (i := 161) rfl)) rfl, ini_L, lwm (tb3 _ (List.mem_of_getElem? (i := 162) rfl)) rfl⟩, by decide +kernel⟩
theorem yf_L_takeBuy : YfW yL_takeBuy cL_takeBuy 5 [(0, 7, 8, 22), (0, 7, 12, 14), (0, 7, 17, 16), (0, 7, 22, 24)] 4 := ⟨⟨lwm (tb3 _ (List.mem_of_getElem? (i := 168) rfl)) rfl, ini_L, lwm (tb3 _ (List.mem_of_getElem? (i := 169) rfl)) rfl⟩, by decide +kernel⟩
theorem yf_L_pass : YfW yL_pass cL_pass 3 [(0, 5, 6, 14)] 2 := ⟨⟨lwm (tb3 _ (List.mem_of_getElem? (i := 183) rfl)) rfl, ini_L, lwm (tb3 _ (List.mem_of_getElem? (i := 184) rfl)) rfl⟩, by decide +kernel⟩
theorem yf_L_takeSell : YfW yL_takeSell cL_takeSell 5 [(0, 7, 8, 22), (0, 7, 12, 14), (0, 7, 17, 16), (0, 7, 22, 24)] 4 := ⟨⟨lwm (tb3 _ (List.mem_of_getElem? (i := 200) rfl)) rfl, ini_L, lwm (tb3 _ (List.mem_of_getElem? (i := 201) rfl)) rfl⟩, by decide +kernel⟩
theorem yf_L_close : YfW yL_close cL_close 2 [(0, 4, 5, 16)] 1 := ⟨⟨lwm (tb3 _ (List.mem_of_getElem? (i := 211) rfl)) rfl, ini_L, lwm (tb3 _ (List.mem_of_getElem? (i := 212) rfl)) rfl⟩, by decide +kernel⟩
theorem yf_L_open : YfW yL_open cL_open 2 [(0, 4, 5, 16)] 1 := ⟨⟨lwm (tb4 _ (List.mem_of_getElem? (i := 34) rfl)) rfl, ini_L, lwm (tb4 _ (List.mem_of_getElem? (i := 35) rfl)) rfl⟩, by decide +kernel⟩
theorem yf_L_money : YfW yL_money cL_money 3 [(0, 5, 6, 22)] 2 := ⟨⟨lwm (tb4 _ (List.mem_of_getElem? (i := 56) rfl)) rfl, ini_L, lwm (tb4 _ (List.mem_of_getElem? (i := 57) rfl)) rfl⟩, by decide +kernel⟩
theorem yf_L_drops : YfW yL_drops cL_drops 3 [(0, 5, 6, 22)] 2 := ⟨⟨lwm (tb4 _ (List.mem_of_getElem? (i := 69) rfl)) rfl, ini_L, lwm (tb4 _ (List.mem_of_getElem? (i := 70) rfl)) rfl⟩, by decide +kernel⟩
theorem yf_L_byMoney : YfW yL_byMoney cL_byMoney 3 [(0, 5, 6, 46)] 2 := ⟨⟨lwm (tb4 _ (List.mem_of_getElem? (i := 110) rfl)) rfl, ini_L, lwm (tb4 _ (List.mem_of_getElem? (i := 111) rfl)) rfl⟩, by decide +kernel⟩
theorem yf_L_freeMoney : YfW yL_freeMoney cL_freeMoney 3 [(0, 5, 6, 22)] 2 := ⟨⟨lwm (tb4 _ (List.mem_of_getElem? (i := 128) rfl)) rfl, ini_L, lwm (tb4 _ (List.mem_of_getElem? (i := 129) rfl)) rfl⟩, by decide +kernel⟩
theorem yf_L_freeDrops : YfW yL_freeDrops cL_freeDrops 3 [(0, 5, 6, 22)] 2 := ⟨⟨lwm (tb4 _ (List.mem_of_getElem? (i := 136) rfl)) rfl, ini_L, lwm (tb4 _ (List.mem_of_getElem? (i := 137) rfl)) rfl⟩, by decide +kernel⟩
theorem yf_L_orderAt : YfW yL_orderAt cL_orderAt 3 [(0, 5, 6, 22)] 2 := ⟨⟨lwm (tb4 _ (List.mem_of_getElem? (i := 159) rfl)) rfl, ini_L, lwm (tb4 _ (List.mem_of_getElem? (i := 160) rfl)) rfl⟩, by decide +kernel⟩
theorem yf_L_isBuying : YfW yL_isBuying cL_isBuying 3 [(0, 13, 14, 46)] 2 := ⟨⟨lwm (tb4 _ (List.mem_of_getElem? (i := 162) rfl)) rfl, ini_L, lwm (tb4 _ (List.mem_of_getElem? (i := 163) rfl)) rfl⟩, by decide +kernel⟩
theorem yf_L_priceOf : YfW yL_priceOf cL_priceOf 3 [(0, 5, 6, 46)] 2 := ⟨⟨lwm (tb4 _ (List.mem_of_getElem? (i := 165) rfl)) rfl, ini_L, lwm (tb4 _ (List.mem_of_getElem? (i := 166) rfl)) rfl⟩, by decide +kernel⟩
theorem yf_L_quantityOf : YfW yL_quantityOf cL_quantityOf 3 [(0, 5, 6, 46)] 2 := ⟨⟨lwm (tb4 _ (List.mem_of_getElem? (i := 168) rfl)) rfl, ini_L, lwm (tb4 _ (List.mem_of_getElem? (i := 169) rfl)) rfl⟩, by decide +kernel⟩
theorem yf_L_minutesLeft : YfW yL_minutesLeft cL_minutesLeft 3 [(0, 5, 6, 46), (0, 5, 10, 16)] 2 := ⟨⟨lwm (tb4 _ (List.mem_of_getElem? (i := 171) rfl)) rfl, ini_L, lwm (tb4 _ (List.mem_of_getElem? (i := 172) rfl)) rfl⟩, by decide +kernel⟩
theorem yf_L_stallOf : YfW yL_stallOf cL_stallOf 3 [(0, 5, 6, 46)] 2 := ⟨⟨lwm (tb4 _ (List.mem_of_getElem? (i := 179) rfl)) rfl, ini_L, lwm (tb4 _ (List.mem_of_getElem? (i := 180) rfl)) rfl⟩, by decide +kernel⟩
theorem yf_L_buyingAt : YfW yL_buyingAt cL_buyingAt 3 [(0, 5, 6, 14)] 2 := ⟨⟨lwm (tb4 _ (List.mem_of_getElem? (i := 182) rfl)) rfl, ini_L, lwm (tb4 _ (List.mem_of_getElem? (i := 183) rfl)) rfl⟩, by decide +kernel⟩
theorem yf_L_sellingAt : YfW yL_sellingAt cL_sellingAt 3 [(0, 5, 6, 14)] 2 := ⟨⟨lwm (tb4 _ (List.mem_of_getElem? (i := 197) rfl)) rfl, ini_L, lwm (tb4 _ (List.mem_of_getElem? (i := 198) rfl)) rfl⟩, by decide +kernel⟩
theorem yf_L_bestBuy : YfW yL_bestBuy cL_bestBuy 2 [(0, 4, 5, 46)] 1 := ⟨⟨lwm (tb4 _ (List.mem_of_getElem? (i := 228) rfl)) rfl, ini_L, lwm (tb4 _ (List.mem_of_getElem? (i := 229) rfl)) rfl⟩, by decide +kernel⟩
theorem yf_L_bestSell : YfW yL_bestSell cL_bestSell 2 [(0, 4, 5, 46)] 1 := ⟨⟨lwm (tb5 _ (List.mem_of_getElem? (i := 1) rfl)) rfl, ini_L, lwm (tb5 _ (List.mem_of_getElem? (i := 2) rfl)) rfl⟩, by decide +kernel⟩
theorem yf_L_spread : YfW yL_spread cL_spread 2 [(0, 4, 5, 46)] 1 := ⟨⟨lwm (tb5 _ (List.mem_of_getElem? (i := 8) rfl)) rfl, ini_L, lwm (tb5 _ (List.mem_of_getElem? (i := 9) rfl)) rfl⟩, by decide +kernel⟩
theorem yf_L_spreadBySums : YfW yL_spreadBySums cL_spreadBySums 2 [(0, 4, 5, 46)] 1 := ⟨⟨lwm (tb5 _ (List.mem_of_getElem? (i := 24) rfl)) rfl, ini_L, lwm (tb5 _ (List.mem_of_getElem? (i := 25) rfl)) rfl⟩, by decide +kernel⟩
theorem yf_L_volumeAt : YfW yL_volumeAt cL_volumeAt 3 [(0, 5, 6, 14)] 2 := ⟨⟨lwm (tb5 _ (List.mem_of_getElem? (i := 49) rfl)) rfl, ini_L, lwm (tb5 _ (List.mem_of_getElem? (i := 50) rfl)) rfl⟩, by decide +kernel⟩
theorem yf_L_lastPrice : YfW yL_lastPrice cL_lastPrice 2 [(0, 4, 5, 46)] 1 := ⟨⟨lwm (tb5 _ (List.mem_of_getElem? (i := 78) rfl)) rfl, ini_L, lwm (tb5 _ (List.mem_of_getElem? (i := 79) rfl)) rfl⟩, by decide +kernel⟩
theorem yf_L_poolPrice : YfW yL_poolPrice cL_poolPrice 2 [(0, 4, 5, 46)] 1 := ⟨⟨lwm (tb5 _ (List.mem_of_getElem? (i := 85) rfl)) rfl, ini_L, lwm (tb5 _ (List.mem_of_getElem? (i := 86) rfl)) rfl⟩, by decide +kernel⟩
theorem yf_L_poolBySums : YfW yL_poolBySums cL_poolBySums 2 [(0, 4, 5, 46)] 1 := ⟨⟨lwm (tb5 _ (List.mem_of_getElem? (i := 97) rfl)) rfl, ini_L, lwm (tb5 _ (List.mem_of_getElem? (i := 98) rfl)) rfl⟩, by decide +kernel⟩
theorem yf_L_writeOrder : YfW yL_writeOrder cL_writeOrder 3 [(0, 5, 6, 46)] 2 := ⟨⟨lwm (tb6 _ (List.mem_of_getElem? (i := 92) rfl)) rfl, ini_L, lwm (tb6 _ (List.mem_of_getElem? (i := 93) rfl)) rfl⟩, by decide +kernel⟩
theorem yf_L_lineAt : YfW yL_lineAt cL_lineAt 3 [(0, 5, 6, 22)] 2 := ⟨⟨lwm (tb6 _ (List.mem_of_getElem? (i := 179) rfl)) rfl, ini_L, lwm (tb6 _ (List.mem_of_getElem? (i := 180) rfl)) rfl⟩, by decide +kernel⟩
theorem yf_L_cancel : YfW yL_cancel cL_cancel 3 [(0, 5, 6, 46)] 2 := ⟨⟨lwm (tb6 _ (List.mem_of_getElem? (i := 239) rfl)) rfl, ini_L, lwm (tb7 _ (List.mem_of_getElem? (i := 0) rfl)) rfl⟩, by decide +kernel⟩
theorem yf_L_type : YfW yL_type cL_type 3 [(0, 5, 6, 14), (0, 5, 10, 16)] 2 := ⟨⟨lwm (tb7 _ (List.mem_of_getElem? (i := 23) rfl)) rfl, ini_L, lwm (tb7 _ (List.mem_of_getElem? (i := 24) rfl)) rfl⟩, by decide +kernel⟩
theorem yf_L_executes : YfW yL_executes cL_executes 2 [(0, 4, 5, 14), (0, 4, 8, 16)] 1 := ⟨⟨lwm (tb7 _ (List.mem_of_getElem? (i := 42) rfl)) rfl, ini_L, lwm (tb7 _ (List.mem_of_getElem? (i := 43) rfl)) rfl⟩, by decide +kernel⟩
theorem yf_L_undo : YfW yL_undo cL_undo 2 [(0, 4, 5, 16)] 1 := ⟨⟨lwm (tb7 _ (List.mem_of_getElem? (i := 123) rfl)) rfl, ini_L, lwm (tb7 _ (List.mem_of_getElem? (i := 124) rfl)) rfl⟩, by decide +kernel⟩
set_option maxHeartbeats 4000000 in
set_option maxRecDepth 100000 in
theorem w_addStall {l : Launch} {G : Gx} (hF : SF l G) {S T : Type} {d k z : Nat} {post : Int32 → S → Prop} {Wf : S → va_W} {px : Nat → Prop} {Wx : Nat → va_W} {b : Nat} {fs : List Value} {w0 w : va_W} {x0 x1 : Int32} (hM : XI l G yX11_addStall cX11_addStall 3 .int d k z [.ref b, .int x0, .int x1] w post Wf px Wx) (hpe : List.Perm w0 w) (q0 : Nat) (he : w[q0]? = some (b, .inr (12, fs))) {Post : Int32 → T → Prop} {Wg : T → va_W} (hr : ∀ r u, post r u → ∃ t, Post r t ∧ List.Perm (Wf u) (Wg t)) (hx : ∀ k1, px k1 → (k1 = 2 ∨ k1 = 3) ∧ ∃ t, Post (if k1 = 2 then (-1) else (if k1 = 3 then (-2) else 0)) t ∧ List.Perm (Wx k1) (Wg t)) : HI l G yL_addStall cL_addStall 4 [(0, 6, 7, 14), (0, 6, 10, 16)] (d + 1) k z [.ref b, .int x0, .int x1] w0 Post Wg := by
  refine mh_of hF (by decide) (Nat.le_of_ble_eq_true rfl) ?_
  intro p e s m below meth c C htab ls hl H locs hw
  have hl : lv_has ls 4 [(0, .ref b), (1, .int x0), (2, .int x1)] := hl
  obtain ⟨bb, hb, -⟩ := id C.2.2.2.2.2.2.2.2.2.2.2.2
  refine lv_aload_n C.1 C.2.1 dL_addStall_0 rfl (lv_at hl 0 rfl) ?_
  refine lv_iload_n C.1 C.2.1 dL_addStall_1 rfl (lv_at hl 1 rfl) ?_
  refine lv_iload_n C.1 C.2.1 dL_addStall_2 rfl (lv_at hl 2 rfl) ?_
  refine y_vi C (hw.perm hpe) hM ml_L_8 yf_X11_addStall q0 he rfl (As := [.int x0, .int x1]) rfl rfl ⟨Nat.le_refl _, by show 8 + (3 + 11) + 64 * d ≤ 64 * (d + 1); omega⟩ ⟨Nat.le_of_eq (Nat.zero_add _), Nat.le_of_eq (Nat.zero_add _)⟩ hl.1 (Nat.le_of_ble_eq_true rfl) dL_addStall_3 (fun k1 q ce H locs hp hw hc1 hc2 hc3 => ?_) (fun r u H locs hp hw => ?_)
  · obtain ⟨hk, t, ht, hpm⟩ := hx k1 hp
    replace hw := hw.perm hpm
    rcases hk with rfl | rfl
    · refine vx_catch (own := RL) (name := "java/lang/IllegalArgumentException") (E := "java/lang/IllegalArgumentException") C.2.2.2.2.1 (tableOf []) { startPc := 0, endPc := 6, handlerPc := 7, catchType := 14 } (tableOf [(0, 6, 10, 16)]) htab (fun z hz => nomatch hz) (by decide) (by decide) (C.2.2.2.2.2.1 _ cl_L_14) (fw_mv C rfl rfl (hb _ (tb2 _ (List.mem_of_getElem? (i := 167) rfl)))) hc1 hc2 hc3 ?_
      refine lv_astore_n (lv' := [(3, .ref q), (0, .ref b), (1, .int x0), (2, .int x1)]) C.1 C.2.1 dL_addStall_7 rfl hl (by decide) rfl (fun ls hl => ?_)
      refine lv_iconst (v := -1) C.1 C.2.1 dL_addStall_8 (by decide) ?_
      exact r_iret C hw rfl rfl t ht rfl (Nat.le_of_eq (Nat.zero_add _)) (Nat.le_of_eq (Nat.zero_add _)) dL_addStall_9
    · refine vx_catch (own := RL) (name := "java/lang/IllegalStateException") (E := "java/lang/IllegalStateException") C.2.2.2.2.1 (tableOf [(0, 6, 7, 14)]) { startPc := 0, endPc := 6, handlerPc := 10, catchType := 16 } (tableOf []) htab (List.forall_mem_cons.mpr ⟨Or.inr ⟨by decide, _, C.2.2.2.2.2.1 _ cl_L_14, (SF.nc_3_2 hF).moved C.2.2.2.2.2.2.2.1.alike⟩, (fun z hz => nomatch hz)⟩) (by decide) (by decide) (C.2.2.2.2.2.1 _ cl_L_16) (fw_mv C rfl rfl (hb _ (tb2 _ (List.mem_of_getElem? (i := 184) rfl)))) hc1 hc2 hc3 ?_
      refine lv_astore_n (lv' := [(3, .ref q), (0, .ref b), (1, .int x0), (2, .int x1)]) C.1 C.2.1 dL_addStall_10 rfl hl (by decide) rfl (fun ls hl => ?_)
      refine lv_bipush (v := -2) C.1 C.2.1 dL_addStall_11 (by decide) ?_
      exact r_iret C hw rfl rfl t ht rfl (Nat.le_of_eq (Nat.zero_add _)) (Nat.le_of_eq (Nat.zero_add _)) dL_addStall_13
  · obtain ⟨t, ht, hpm⟩ := hr r u hp
    replace hw := hw.perm hpm
    exact r_iret C hw rfl rfl t ht rfl (Nat.le_of_eq (Nat.zero_add _)) (Nat.le_of_eq (Nat.zero_add _)) dL_addStall_6
set_option maxHeartbeats 4000000 in
set_option maxRecDepth 100000 in
theorem w_buy {l : Launch} {G : Gx} (hF : SF l G) {S T : Type} {d k z : Nat} {post : Int32 → S → Prop} {Wf : S → va_W} {px : Nat → Prop} {Wx : Nat → va_W} {b : Nat} {fs : List Value} {w0 w : va_W} {x0 x1 x2 : Int32} (hM : XI l G yX11_placeBuy cX11_placeBuy 4 .int d k z [.ref b, .int x0, .int x1, .int x2] w post Wf px Wx) (hpe : List.Perm w0 w) (q0 : Nat) (he : w[q0]? = some (b, .inr (12, fs))) {Post : Int32 → T → Prop} {Wg : T → va_W} (hr : ∀ r u, post r u → ∃ t, Post r t ∧ List.Perm (Wf u) (Wg t)) (hx : ∀ k1, px k1 → (k1 = 1 ∨ k1 = 2 ∨ k1 = 3 ∨ k1 = 4) ∧ ∃ t, Post (if k1 = 1 then (-1) else (if k1 = 2 then (-2) else (if k1 = 3 then (-3) else (if k1 = 4 then (-4) else 0)))) t ∧ List.Perm (Wx k1) (Wg t)) : HI l G yL_buy cL_buy 5 [(0, 7, 8, 22), (0, 7, 12, 14), (0, 7, 17, 16), (0, 7, 22, 24)] (d + 1) k z [.ref b, .int x0, .int x1, .int x2] w0 Post Wg := by
  refine mh_of hF (by decide) (Nat.le_of_ble_eq_true rfl) ?_
  intro p e s m below meth c C htab ls hl H locs hw
  have hl : lv_has ls 5 [(0, .ref b), (1, .int x0), (2, .int x1), (3, .int x2)] := hl
  obtain ⟨bb, hb, -⟩ := id C.2.2.2.2.2.2.2.2.2.2.2.2
  refine lv_aload_n C.1 C.2.1 dL_buy_0 rfl (lv_at hl 0 rfl) ?_
  refine lv_iload_n C.1 C.2.1 dL_buy_1 rfl (lv_at hl 1 rfl) ?_
  refine lv_iload_n C.1 C.2.1 dL_buy_2 rfl (lv_at hl 2 rfl) ?_
  refine lv_iload_n C.1 C.2.1 dL_buy_3 rfl (lv_at hl 3 rfl) ?_
  refine y_vi C (hw.perm hpe) hM ml_L_18 yf_X11_placeBuy q0 he rfl (As := [.int x0, .int x1, .int x2]) rfl rfl ⟨Nat.le_refl _, by show 8 + (4 + 11) + 64 * d ≤ 64 * (d + 1); omega⟩ ⟨Nat.le_of_eq (Nat.zero_add _), Nat.le_of_eq (Nat.zero_add _)⟩ hl.1 (Nat.le_of_ble_eq_true rfl) dL_buy_4 (fun k1 q ce H locs hp hw hc1 hc2 hc3 => ?_) (fun r u H locs hp hw => ?_)
  · obtain ⟨hk, t, ht, hpm⟩ := hx k1 hp
    replace hw := hw.perm hpm
    rcases hk with rfl | rfl | rfl | rfl
    · refine vx_catch (own := RL) (name := "java/lang/IndexOutOfBoundsException") (E := "java/lang/IndexOutOfBoundsException") C.2.2.2.2.1 (tableOf []) { startPc := 0, endPc := 7, handlerPc := 8, catchType := 22 } (tableOf [(0, 7, 12, 14), (0, 7, 17, 16), (0, 7, 22, 24)]) htab (fun z hz => nomatch hz) (by decide) (by decide) (C.2.2.2.2.2.1 _ cl_L_22) (fw_mv C rfl rfl (hb _ (tb2 _ (List.mem_of_getElem? (i := 94) rfl)))) hc1 hc2 hc3 ?_
      refine lv_astore (lv' := [(4, .ref q), (0, .ref b), (1, .int x0), (2, .int x1), (3, .int x2)]) C.1 C.2.1 dL_buy_8 hl (by decide) rfl (fun ls hl => ?_)
      refine lv_iconst (v := -1) C.1 C.2.1 dL_buy_10 (by decide) ?_
      exact r_iret C hw rfl rfl t ht rfl (Nat.le_of_eq (Nat.zero_add _)) (Nat.le_of_eq (Nat.zero_add _)) dL_buy_11
    · refine vx_catch (own := RL) (name := "java/lang/IllegalArgumentException") (E := "java/lang/IllegalArgumentException") C.2.2.2.2.1 (tableOf [(0, 7, 8, 22)]) { startPc := 0, endPc := 7, handlerPc := 12, catchType := 14 } (tableOf [(0, 7, 17, 16), (0, 7, 22, 24)]) htab (List.forall_mem_cons.mpr ⟨Or.inr ⟨by decide, _, C.2.2.2.2.2.1 _ cl_L_22, (SF.nc_2_1 hF).moved C.2.2.2.2.2.2.2.1.alike⟩, (fun z hz => nomatch hz)⟩) (by decide) (by decide) (C.2.2.2.2.2.1 _ cl_L_14) (fw_mv C rfl rfl (hb _ (tb2 _ (List.mem_of_getElem? (i := 167) rfl)))) hc1 hc2 hc3 ?_
      refine lv_astore (lv' := [(4, .ref q), (0, .ref b), (1, .int x0), (2, .int x1), (3, .int x2)]) C.1 C.2.1 dL_buy_12 hl (by decide) rfl (fun ls hl => ?_)
      refine lv_bipush (v := -2) C.1 C.2.1 dL_buy_14 (by decide) ?_
      exact r_iret C hw rfl rfl t ht rfl (Nat.le_of_eq (Nat.zero_add _)) (Nat.le_of_eq (Nat.zero_add _)) dL_buy_16
    · refine vx_catch (own := RL) (name := "java/lang/IllegalStateException") (E := "java/lang/IllegalStateException") C.2.2.2.2.1 (tableOf [(0, 7, 8, 22), (0, 7, 12, 14)]) { startPc := 0, endPc := 7, handlerPc := 17, catchType := 16 } (tableOf [(0, 7, 22, 24)]) htab (List.forall_mem_cons.mpr ⟨Or.inr ⟨by decide, _, C.2.2.2.2.2.1 _ cl_L_22, (SF.nc_3_1 hF).moved C.2.2.2.2.2.2.2.1.alike⟩, (List.forall_mem_cons.mpr ⟨Or.inr ⟨by decide, _, C.2.2.2.2.2.1 _ cl_L_14, (SF.nc_3_2 hF).moved C.2.2.2.2.2.2.2.1.alike⟩, (fun z hz => nomatch hz)⟩)⟩) (by decide) (by decide) (C.2.2.2.2.2.1 _ cl_L_16) (fw_mv C rfl rfl (hb _ (tb2 _ (List.mem_of_getElem? (i := 184) rfl)))) hc1 hc2 hc3 ?_
      refine lv_astore (lv' := [(4, .ref q), (0, .ref b), (1, .int x0), (2, .int x1), (3, .int x2)]) C.1 C.2.1 dL_buy_17 hl (by decide) rfl (fun ls hl => ?_)
      refine lv_bipush (v := -3) C.1 C.2.1 dL_buy_19 (by decide) ?_
      exact r_iret C hw rfl rfl t ht rfl (Nat.le_of_eq (Nat.zero_add _)) (Nat.le_of_eq (Nat.zero_add _)) dL_buy_21
    · refine vx_catch (own := RL) (name := "java/lang/UnsupportedOperationException") (E := "java/lang/UnsupportedOperationException") C.2.2.2.2.1 (tableOf [(0, 7, 8, 22), (0, 7, 12, 14), (0, 7, 17, 16)]) { startPc := 0, endPc := 7, handlerPc := 22, catchType := 24 } (tableOf []) htab (List.forall_mem_cons.mpr ⟨Or.inr ⟨by decide, _, C.2.2.2.2.2.1 _ cl_L_22, (SF.nc_4_1 hF).moved C.2.2.2.2.2.2.2.1.alike⟩, (List.forall_mem_cons.mpr ⟨Or.inr ⟨by decide, _, C.2.2.2.2.2.1 _ cl_L_14, (SF.nc_4_2 hF).moved C.2.2.2.2.2.2.2.1.alike⟩, (List.forall_mem_cons.mpr ⟨Or.inr ⟨by decide, _, C.2.2.2.2.2.1 _ cl_L_16, (SF.nc_4_3 hF).moved C.2.2.2.2.2.2.2.1.alike⟩, (fun z hz => nomatch hz)⟩)⟩)⟩) (by decide) (by decide) (C.2.2.2.2.2.1 _ cl_L_24) (fw_mv C rfl rfl (hb _ (tb2 _ (List.mem_of_getElem? (i := 202) rfl)))) hc1 hc2 hc3 ?_
      refine lv_astore (lv' := [(4, .ref q), (0, .ref b), (1, .int x0), (2, .int x1), (3, .int x2)]) C.1 C.2.1 dL_buy_22 hl (by decide) rfl (fun ls hl => ?_)
      refine lv_bipush (v := -4) C.1 C.2.1 dL_buy_24 (by decide) ?_
      exact r_iret C hw rfl rfl t ht rfl (Nat.le_of_eq (Nat.zero_add _)) (Nat.le_of_eq (Nat.zero_add _)) dL_buy_26
  · obtain ⟨t, ht, hpm⟩ := hr r u hp
    replace hw := hw.perm hpm
    exact r_iret C hw rfl rfl t ht rfl (Nat.le_of_eq (Nat.zero_add _)) (Nat.le_of_eq (Nat.zero_add _)) dL_buy_7
set_option maxHeartbeats 4000000 in
set_option maxRecDepth 100000 in
theorem w_sell {l : Launch} {G : Gx} (hF : SF l G) {S T : Type} {d k z : Nat} {post : Int32 → S → Prop} {Wf : S → va_W} {px : Nat → Prop} {Wx : Nat → va_W} {b : Nat} {fs : List Value} {w0 w : va_W} {x0 x1 x2 : Int32} (hM : XI l G yX11_placeSell cX11_placeSell 4 .int d k z [.ref b, .int x0, .int x1, .int x2] w post Wf px Wx) (hpe : List.Perm w0 w) (q0 : Nat) (he : w[q0]? = some (b, .inr (12, fs))) {Post : Int32 → T → Prop} {Wg : T → va_W} (hr : ∀ r u, post r u → ∃ t, Post r t ∧ List.Perm (Wf u) (Wg t)) (hx : ∀ k1, px k1 → (k1 = 1 ∨ k1 = 2 ∨ k1 = 3 ∨ k1 = 4) ∧ ∃ t, Post (if k1 = 1 then (-1) else (if k1 = 2 then (-2) else (if k1 = 3 then (-3) else (if k1 = 4 then (-4) else 0)))) t ∧ List.Perm (Wx k1) (Wg t)) : HI l G yL_sell cL_sell 5 [(0, 7, 8, 22), (0, 7, 12, 14), (0, 7, 17, 16), (0, 7, 22, 24)] (d + 1) k z [.ref b, .int x0, .int x1, .int x2] w0 Post Wg := by
  refine mh_of hF (by decide) (Nat.le_of_ble_eq_true rfl) ?_
  intro p e s m below meth c C htab ls hl H locs hw
  have hl : lv_has ls 5 [(0, .ref b), (1, .int x0), (2, .int x1), (3, .int x2)] := hl
  obtain ⟨bb, hb, -⟩ := id C.2.2.2.2.2.2.2.2.2.2.2.2
  refine lv_aload_n C.1 C.2.1 dL_sell_0 rfl (lv_at hl 0 rfl) ?_
  refine lv_iload_n C.1 C.2.1 dL_sell_1 rfl (lv_at hl 1 rfl) ?_
  refine lv_iload_n C.1 C.2.1 dL_sell_2 rfl (lv_at hl 2 rfl) ?_
  refine lv_iload_n C.1 C.2.1 dL_sell_3 rfl (lv_at hl 3 rfl) ?_
  refine y_vi C (hw.perm hpe) hM ml_L_26 yf_X11_placeSell q0 he rfl (As := [.int x0, .int x1, .int x2]) rfl rfl ⟨Nat.le_refl _, by show 8 + (4 + 11) + 64 * d ≤ 64 * (d + 1); omega⟩ ⟨Nat.le_of_eq (Nat.zero_add _), Nat.le_of_eq (Nat.zero_add _)⟩ hl.1 (Nat.le_of_ble_eq_true rfl) dL_sell_4 (fun k1 q ce H locs hp hw hc1 hc2 hc3 => ?_) (fun r u H locs hp hw => ?_)
  · obtain ⟨hk, t, ht, hpm⟩ := hx k1 hp
    replace hw := hw.perm hpm
    rcases hk with rfl | rfl | rfl | rfl
    · refine vx_catch (own := RL) (name := "java/lang/IndexOutOfBoundsException") (E := "java/lang/IndexOutOfBoundsException") C.2.2.2.2.1 (tableOf []) { startPc := 0, endPc := 7, handlerPc := 8, catchType := 22 } (tableOf [(0, 7, 12, 14), (0, 7, 17, 16), (0, 7, 22, 24)]) htab (fun z hz => nomatch hz) (by decide) (by decide) (C.2.2.2.2.2.1 _ cl_L_22) (fw_mv C rfl rfl (hb _ (tb2 _ (List.mem_of_getElem? (i := 94) rfl)))) hc1 hc2 hc3 ?_
      refine lv_astore (lv' := [(4, .ref q), (0, .ref b), (1, .int x0), (2, .int x1), (3, .int x2)]) C.1 C.2.1 dL_sell_8 hl (by decide) rfl (fun ls hl => ?_)
      refine lv_iconst (v := -1) C.1 C.2.1 dL_sell_10 (by decide) ?_
      exact r_iret C hw rfl rfl t ht rfl (Nat.le_of_eq (Nat.zero_add _)) (Nat.le_of_eq (Nat.zero_add _)) dL_sell_11
    · refine vx_catch (own := RL) (name := "java/lang/IllegalArgumentException") (E := "java/lang/IllegalArgumentException") C.2.2.2.2.1 (tableOf [(0, 7, 8, 22)]) { startPc := 0, endPc := 7, handlerPc := 12, catchType := 14 } (tableOf [(0, 7, 17, 16), (0, 7, 22, 24)]) htab (List.forall_mem_cons.mpr ⟨Or.inr ⟨by decide, _, C.2.2.2.2.2.1 _ cl_L_22, (SF.nc_2_1 hF).moved C.2.2.2.2.2.2.2.1.alike⟩, (fun z hz => nomatch hz)⟩) (by decide) (by decide) (C.2.2.2.2.2.1 _ cl_L_14) (fw_mv C rfl rfl (hb _ (tb2 _ (List.mem_of_getElem? (i := 167) rfl)))) hc1 hc2 hc3 ?_
      refine lv_astore (lv' := [(4, .ref q), (0, .ref b), (1, .int x0), (2, .int x1), (3, .int x2)]) C.1 C.2.1 dL_sell_12 hl (by decide) rfl (fun ls hl => ?_)
      refine lv_bipush (v := -2) C.1 C.2.1 dL_sell_14 (by decide) ?_
      exact r_iret C hw rfl rfl t ht rfl (Nat.le_of_eq (Nat.zero_add _)) (Nat.le_of_eq (Nat.zero_add _)) dL_sell_16
    · refine vx_catch (own := RL) (name := "java/lang/IllegalStateException") (E := "java/lang/IllegalStateException") C.2.2.2.2.1 (tableOf [(0, 7, 8, 22), (0, 7, 12, 14)]) { startPc := 0, endPc := 7, handlerPc := 17, catchType := 16 } (tableOf [(0, 7, 22, 24)]) htab (List.forall_mem_cons.mpr ⟨Or.inr ⟨by decide, _, C.2.2.2.2.2.1 _ cl_L_22, (SF.nc_3_1 hF).moved C.2.2.2.2.2.2.2.1.alike⟩, (List.forall_mem_cons.mpr ⟨Or.inr ⟨by decide, _, C.2.2.2.2.2.1 _ cl_L_14, (SF.nc_3_2 hF).moved C.2.2.2.2.2.2.2.1.alike⟩, (fun z hz => nomatch hz)⟩)⟩) (by decide) (by decide) (C.2.2.2.2.2.1 _ cl_L_16) (fw_mv C rfl rfl (hb _ (tb2 _ (List.mem_of_getElem? (i := 184) rfl)))) hc1 hc2 hc3 ?_
      refine lv_astore (lv' := [(4, .ref q), (0, .ref b), (1, .int x0), (2, .int x1), (3, .int x2)]) C.1 C.2.1 dL_sell_17 hl (by decide) rfl (fun ls hl => ?_)
      refine lv_bipush (v := -3) C.1 C.2.1 dL_sell_19 (by decide) ?_
      exact r_iret C hw rfl rfl t ht rfl (Nat.le_of_eq (Nat.zero_add _)) (Nat.le_of_eq (Nat.zero_add _)) dL_sell_21
    · refine vx_catch (own := RL) (name := "java/lang/UnsupportedOperationException") (E := "java/lang/UnsupportedOperationException") C.2.2.2.2.1 (tableOf [(0, 7, 8, 22), (0, 7, 12, 14), (0, 7, 17, 16)]) { startPc := 0, endPc := 7, handlerPc := 22, catchType := 24 } (tableOf []) htab (List.forall_mem_cons.mpr ⟨Or.inr ⟨by decide, _, C.2.2.2.2.2.1 _ cl_L_22, (SF.nc_4_1 hF).moved C.2.2.2.2.2.2.2.1.alike⟩, (List.forall_mem_cons.mpr ⟨Or.inr ⟨by decide, _, C.2.2.2.2.2.1 _ cl_L_14, (SF.nc_4_2 hF).moved C.2.2.2.2.2.2.2.1.alike⟩, (List.forall_mem_cons.mpr ⟨Or.inr ⟨by decide, _, C.2.2.2.2.2.1 _ cl_L_16, (SF.nc_4_3 hF).moved C.2.2.2.2.2.2.2.1.alike⟩, (fun z hz => nomatch hz)⟩)⟩)⟩) (by decide) (by decide) (C.2.2.2.2.2.1 _ cl_L_24) (fw_mv C rfl rfl (hb _ (tb2 _ (List.mem_of_getElem? (i := 202) rfl)))) hc1 hc2 hc3 ?_
      refine lv_astore (lv' := [(4, .ref q), (0, .ref b), (1, .int x0), (2, .int x1), (3, .int x2)]) C.1 C.2.1 dL_sell_22 hl (by decide) rfl (fun ls hl => ?_)
      refine lv_bipush (v := -4) C.1 C.2.1 dL_sell_24 (by decide) ?_
      exact r_iret C hw rfl rfl t ht rfl (Nat.le_of_eq (Nat.zero_add _)) (Nat.le_of_eq (Nat.zero_add _)) dL_sell_26
  · obtain ⟨t, ht, hpm⟩ := hr r u hp
    replace hw := hw.perm hpm
    exact r_iret C hw rfl rfl t ht rfl (Nat.le_of_eq (Nat.zero_add _)) (Nat.le_of_eq (Nat.zero_add _)) dL_sell_7
set_option maxHeartbeats 4000000 in
set_option maxRecDepth 100000 in
theorem w_buyFor {l : Launch} {G : Gx} (hF : SF l G) {S T : Type} {d k z : Nat} {post : Int32 → S → Prop} {Wf : S → va_W} {px : Nat → Prop} {Wx : Nat → va_W} {b : Nat} {fs : List Value} {w0 w : va_W} {x0 x1 x2 x3 : Int32} (hM : XI l G yX11_placeBuyFor cX11_placeBuyFor 5 .int d k z [.ref b, .int x0, .int x1, .int x2, .int x3] w post Wf px Wx) (hpe : List.Perm w0 w) (q0 : Nat) (he : w[q0]? = some (b, .inr (12, fs))) {Post : Int32 → T → Prop} {Wg : T → va_W} (hr : ∀ r u, post r u → ∃ t, Post r t ∧ List.Perm (Wf u) (Wg t)) (hx : ∀ k1, px k1 → (k1 = 1 ∨ k1 = 2 ∨ k1 = 3 ∨ k1 = 4) ∧ ∃ t, Post (if k1 = 1 then (-1) else (if k1 = 2 then (-2) else (if k1 = 3 then (-3) else (if k1 = 4 then (-4) else 0)))) t ∧ List.Perm (Wx k1) (Wg t)) : HI l G yL_buyFor cL_buyFor 6 [(0, 9, 10, 22), (0, 9, 14, 14), (0, 9, 19, 16), (0, 9, 24, 24)] (d + 1) k z [.ref b, .int x0, .int x1, .int x2, .int x3] w0 Post Wg := by
  refine mh_of hF (by decide) (Nat.le_of_ble_eq_true rfl) ?_
  intro p e s m below meth c C htab ls hl H locs hw
  have hl : lv_has ls 6 [(0, .ref b), (1, .int x0), (2, .int x1), (3, .int x2), (4, .int x3)] := hl
  obtain ⟨bb, hb, -⟩ := id C.2.2.2.2.2.2.2.2.2.2.2.2
  refine lv_aload_n C.1 C.2.1 dL_buyFor_0 rfl (lv_at hl 0 rfl) ?_
  refine lv_iload_n C.1 C.2.1 dL_buyFor_1 rfl (lv_at hl 1 rfl) ?_
  refine lv_iload_n C.1 C.2.1 dL_buyFor_2 rfl (lv_at hl 2 rfl) ?_
  refine lv_iload_n C.1 C.2.1 dL_buyFor_3 rfl (lv_at hl 3 rfl) ?_
  refine lv_iload C.1 C.2.1 dL_buyFor_4 (lv_at hl 4 rfl) ?_
  refine y_vi C (hw.perm hpe) hM ml_L_29 yf_X11_placeBuyFor q0 he rfl (As := [.int x0, .int x1, .int x2, .int x3]) rfl rfl ⟨Nat.le_refl _, by show 8 + (5 + 11) + 64 * d ≤ 64 * (d + 1); omega⟩ ⟨Nat.le_of_eq (Nat.zero_add _), Nat.le_of_eq (Nat.zero_add _)⟩ hl.1 (Nat.le_of_ble_eq_true rfl) dL_buyFor_6 (fun k1 q ce H locs hp hw hc1 hc2 hc3 => ?_) (fun r u H locs hp hw => ?_)
  · obtain ⟨hk, t, ht, hpm⟩ := hx k1 hp
    replace hw := hw.perm hpm
    rcases hk with rfl | rfl | rfl | rfl
    · refine vx_catch (own := RL) (name := "java/lang/IndexOutOfBoundsException") (E := "java/lang/IndexOutOfBoundsException") C.2.2.2.2.1 (tableOf []) { startPc := 0, endPc := 9, handlerPc := 10, catchType := 22 } (tableOf [(0, 9, 14, 14), (0, 9, 19, 16), (0, 9, 24, 24)]) htab (fun z hz => nomatch hz) (by decide) (by decide) (C.2.2.2.2.2.1 _ cl_L_22) (fw_mv C rfl rfl (hb _ (tb2 _ (List.mem_of_getElem? (i := 94) rfl)))) hc1 hc2 hc3 ?_
      refine lv_astore (lv' := [(5, .ref q), (0, .ref b), (1, .int x0), (2, .int x1), (3, .int x2), (4, .int x3)]) C.1 C.2.1 dL_buyFor_10 hl (by decide) rfl (fun ls hl => ?_)
      refine lv_iconst (v := -1) C.1 C.2.1 dL_buyFor_12 (by decide) ?_
      exact r_iret C hw rfl rfl t ht rfl (Nat.le_of_eq (Nat.zero_add _)) (Nat.le_of_eq (Nat.zero_add _)) dL_buyFor_13
    · refine vx_catch (own := RL) (name := "java/lang/IllegalArgumentException") (E := "java/lang/IllegalArgumentException") C.2.2.2.2.1 (tableOf [(0, 9, 10, 22)]) { startPc := 0, endPc := 9, handlerPc := 14, catchType := 14 } (tableOf [(0, 9, 19, 16), (0, 9, 24, 24)]) htab (List.forall_mem_cons.mpr ⟨Or.inr ⟨by decide, _, C.2.2.2.2.2.1 _ cl_L_22, (SF.nc_2_1 hF).moved C.2.2.2.2.2.2.2.1.alike⟩, (fun z hz => nomatch hz)⟩) (by decide) (by decide) (C.2.2.2.2.2.1 _ cl_L_14) (fw_mv C rfl rfl (hb _ (tb2 _ (List.mem_of_getElem? (i := 167) rfl)))) hc1 hc2 hc3 ?_
      refine lv_astore (lv' := [(5, .ref q), (0, .ref b), (1, .int x0), (2, .int x1), (3, .int x2), (4, .int x3)]) C.1 C.2.1 dL_buyFor_14 hl (by decide) rfl (fun ls hl => ?_)
      refine lv_bipush (v := -2) C.1 C.2.1 dL_buyFor_16 (by decide) ?_
      exact r_iret C hw rfl rfl t ht rfl (Nat.le_of_eq (Nat.zero_add _)) (Nat.le_of_eq (Nat.zero_add _)) dL_buyFor_18
    · refine vx_catch (own := RL) (name := "java/lang/IllegalStateException") (E := "java/lang/IllegalStateException") C.2.2.2.2.1 (tableOf [(0, 9, 10, 22), (0, 9, 14, 14)]) { startPc := 0, endPc := 9, handlerPc := 19, catchType := 16 } (tableOf [(0, 9, 24, 24)]) htab (List.forall_mem_cons.mpr ⟨Or.inr ⟨by decide, _, C.2.2.2.2.2.1 _ cl_L_22, (SF.nc_3_1 hF).moved C.2.2.2.2.2.2.2.1.alike⟩, (List.forall_mem_cons.mpr ⟨Or.inr ⟨by decide, _, C.2.2.2.2.2.1 _ cl_L_14, (SF.nc_3_2 hF).moved C.2.2.2.2.2.2.2.1.alike⟩, (fun z hz => nomatch hz)⟩)⟩) (by decide) (by decide) (C.2.2.2.2.2.1 _ cl_L_16) (fw_mv C rfl rfl (hb _ (tb2 _ (List.mem_of_getElem? (i := 184) rfl)))) hc1 hc2 hc3 ?_
      refine lv_astore (lv' := [(5, .ref q), (0, .ref b), (1, .int x0), (2, .int x1), (3, .int x2), (4, .int x3)]) C.1 C.2.1 dL_buyFor_19 hl (by decide) rfl (fun ls hl => ?_)
      refine lv_bipush (v := -3) C.1 C.2.1 dL_buyFor_21 (by decide) ?_
      exact r_iret C hw rfl rfl t ht rfl (Nat.le_of_eq (Nat.zero_add _)) (Nat.le_of_eq (Nat.zero_add _)) dL_buyFor_23
    · refine vx_catch (own := RL) (name := "java/lang/UnsupportedOperationException") (E := "java/lang/UnsupportedOperationException") C.2.2.2.2.1 (tableOf [(0, 9, 10, 22), (0, 9, 14, 14), (0, 9, 19, 16)]) { startPc := 0, endPc := 9, handlerPc := 24, catchType := 24 } (tableOf []) htab (List.forall_mem_cons.mpr ⟨Or.inr ⟨by decide, _, C.2.2.2.2.2.1 _ cl_L_22, (SF.nc_4_1 hF).moved C.2.2.2.2.2.2.2.1.alike⟩, (List.forall_mem_cons.mpr ⟨Or.inr ⟨by decide, _, C.2.2.2.2.2.1 _ cl_L_14, (SF.nc_4_2 hF).moved C.2.2.2.2.2.2.2.1.alike⟩, (List.forall_mem_cons.mpr ⟨Or.inr ⟨by decide, _, C.2.2.2.2.2.1 _ cl_L_16, (SF.nc_4_3 hF).moved C.2.2.2.2.2.2.2.1.alike⟩, (fun z hz => nomatch hz)⟩)⟩)⟩) (by decide) (by decide) (C.2.2.2.2.2.1 _ cl_L_24) (fw_mv C rfl rfl (hb _ (tb2 _ (List.mem_of_getElem? (i := 202) rfl)))) hc1 hc2 hc3 ?_
      refine lv_astore (lv' := [(5, .ref q), (0, .ref b), (1, .int x0), (2, .int x1), (3, .int x2), (4, .int x3)]) C.1 C.2.1 dL_buyFor_24 hl (by decide) rfl (fun ls hl => ?_)
      refine lv_bipush (v := -4) C.1 C.2.1 dL_buyFor_26 (by decide) ?_
      exact r_iret C hw rfl rfl t ht rfl (Nat.le_of_eq (Nat.zero_add _)) (Nat.le_of_eq (Nat.zero_add _)) dL_buyFor_28
  · obtain ⟨t, ht, hpm⟩ := hr r u hp
    replace hw := hw.perm hpm
    exact r_iret C hw rfl rfl t ht rfl (Nat.le_of_eq (Nat.zero_add _)) (Nat.le_of_eq (Nat.zero_add _)) dL_buyFor_9
set_option maxHeartbeats 4000000 in
set_option maxRecDepth 100000 in
theorem w_sellFor {l : Launch} {G : Gx} (hF : SF l G) {S T : Type} {d k z : Nat} {post : Int32 → S → Prop} {Wf : S → va_W} {px : Nat → Prop} {Wx : Nat → va_W} {b : Nat} {fs : List Value} {w0 w : va_W} {x0 x1 x2 x3 : Int32} (hM : XI l G yX11_placeSellFor cX11_placeSellFor 5 .int d k z [.ref b, .int x0, .int x1, .int x2, .int x3] w post Wf px Wx) (hpe : List.Perm w0 w) (q0 : Nat) (he : w[q0]? = some (b, .inr (12, fs))) {Post : Int32 → T → Prop} {Wg : T → va_W} (hr : ∀ r u, post r u → ∃ t, Post r t ∧ List.Perm (Wf u) (Wg t)) (hx : ∀ k1, px k1 → (k1 = 1 ∨ k1 = 2 ∨ k1 = 3 ∨ k1 = 4) ∧ ∃ t, Post (if k1 = 1 then (-1) else (if k1 = 2 then (-2) else (if k1 = 3 then (-3) else (if k1 = 4 then (-4) else 0)))) t ∧ List.Perm (Wx k1) (Wg t)) : HI l G yL_sellFor cL_sellFor 6 [(0, 9, 10, 22), (0, 9, 14, 14), (0, 9, 19, 16), (0, 9, 24, 24)] (d + 1) k z [.ref b, .int x0, .int x1, .int x2, .int x3] w0 Post Wg := by
  refine mh_of hF (by decide) (Nat.le_of_ble_eq_true rfl) ?_
  intro p e s m below meth c C htab ls hl H locs hw
  have hl : lv_has ls 6 [(0, .ref b), (1, .int x0), (2, .int x1), (3, .int x2), (4, .int x3)] := hl
  obtain ⟨bb, hb, -⟩ := id C.2.2.2.2.2.2.2.2.2.2.2.2
  refine lv_aload_n C.1 C.2.1 dL_sellFor_0 rfl (lv_at hl 0 rfl) ?_
  refine lv_iload_n C.1 C.2.1 dL_sellFor_1 rfl (lv_at hl 1 rfl) ?_
  refine lv_iload_n C.1 C.2.1 dL_sellFor_2 rfl (lv_at hl 2 rfl) ?_
  refine lv_iload_n C.1 C.2.1 dL_sellFor_3 rfl (lv_at hl 3 rfl) ?_
  refine lv_iload C.1 C.2.1 dL_sellFor_4 (lv_at hl 4 rfl) ?_
  refine y_vi C (hw.perm hpe) hM ml_L_33 yf_X11_placeSellFor q0 he rfl (As := [.int x0, .int x1, .int x2, .int x3]) rfl rfl ⟨Nat.le_refl _, by show 8 + (5 + 11) + 64 * d ≤ 64 * (d + 1); omega⟩ ⟨Nat.le_of_eq (Nat.zero_add _), Nat.le_of_eq (Nat.zero_add _)⟩ hl.1 (Nat.le_of_ble_eq_true rfl) dL_sellFor_6 (fun k1 q ce H locs hp hw hc1 hc2 hc3 => ?_) (fun r u H locs hp hw => ?_)
  · obtain ⟨hk, t, ht, hpm⟩ := hx k1 hp
    replace hw := hw.perm hpm
    rcases hk with rfl | rfl | rfl | rfl
    · refine vx_catch (own := RL) (name := "java/lang/IndexOutOfBoundsException") (E := "java/lang/IndexOutOfBoundsException") C.2.2.2.2.1 (tableOf []) { startPc := 0, endPc := 9, handlerPc := 10, catchType := 22 } (tableOf [(0, 9, 14, 14), (0, 9, 19, 16), (0, 9, 24, 24)]) htab (fun z hz => nomatch hz) (by decide) (by decide) (C.2.2.2.2.2.1 _ cl_L_22) (fw_mv C rfl rfl (hb _ (tb2 _ (List.mem_of_getElem? (i := 94) rfl)))) hc1 hc2 hc3 ?_
      refine lv_astore (lv' := [(5, .ref q), (0, .ref b), (1, .int x0), (2, .int x1), (3, .int x2), (4, .int x3)]) C.1 C.2.1 dL_sellFor_10 hl (by decide) rfl (fun ls hl => ?_)
      refine lv_iconst (v := -1) C.1 C.2.1 dL_sellFor_12 (by decide) ?_
      exact r_iret C hw rfl rfl t ht rfl (Nat.le_of_eq (Nat.zero_add _)) (Nat.le_of_eq (Nat.zero_add _)) dL_sellFor_13
    · refine vx_catch (own := RL) (name := "java/lang/IllegalArgumentException") (E := "java/lang/IllegalArgumentException") C.2.2.2.2.1 (tableOf [(0, 9, 10, 22)]) { startPc := 0, endPc := 9, handlerPc := 14, catchType := 14 } (tableOf [(0, 9, 19, 16), (0, 9, 24, 24)]) htab (List.forall_mem_cons.mpr ⟨Or.inr ⟨by decide, _, C.2.2.2.2.2.1 _ cl_L_22, (SF.nc_2_1 hF).moved C.2.2.2.2.2.2.2.1.alike⟩, (fun z hz => nomatch hz)⟩) (by decide) (by decide) (C.2.2.2.2.2.1 _ cl_L_14) (fw_mv C rfl rfl (hb _ (tb2 _ (List.mem_of_getElem? (i := 167) rfl)))) hc1 hc2 hc3 ?_
      refine lv_astore (lv' := [(5, .ref q), (0, .ref b), (1, .int x0), (2, .int x1), (3, .int x2), (4, .int x3)]) C.1 C.2.1 dL_sellFor_14 hl (by decide) rfl (fun ls hl => ?_)
      refine lv_bipush (v := -2) C.1 C.2.1 dL_sellFor_16 (by decide) ?_
      exact r_iret C hw rfl rfl t ht rfl (Nat.le_of_eq (Nat.zero_add _)) (Nat.le_of_eq (Nat.zero_add _)) dL_sellFor_18
    · refine vx_catch (own := RL) (name := "java/lang/IllegalStateException") (E := "java/lang/IllegalStateException") C.2.2.2.2.1 (tableOf [(0, 9, 10, 22), (0, 9, 14, 14)]) { startPc := 0, endPc := 9, handlerPc := 19, catchType := 16 } (tableOf [(0, 9, 24, 24)]) htab (List.forall_mem_cons.mpr ⟨Or.inr ⟨by decide, _, C.2.2.2.2.2.1 _ cl_L_22, (SF.nc_3_1 hF).moved C.2.2.2.2.2.2.2.1.alike⟩, (List.forall_mem_cons.mpr ⟨Or.inr ⟨by decide, _, C.2.2.2.2.2.1 _ cl_L_14, (SF.nc_3_2 hF).moved C.2.2.2.2.2.2.2.1.alike⟩, (fun z hz => nomatch hz)⟩)⟩) (by decide) (by decide) (C.2.2.2.2.2.1 _ cl_L_16) (fw_mv C rfl rfl (hb _ (tb2 _ (List.mem_of_getElem? (i := 184) rfl)))) hc1 hc2 hc3 ?_
      refine lv_astore (lv' := [(5, .ref q), (0, .ref b), (1, .int x0), (2, .int x1), (3, .int x2), (4, .int x3)]) C.1 C.2.1 dL_sellFor_19 hl (by decide) rfl (fun ls hl => ?_)
      refine lv_bipush (v := -3) C.1 C.2.1 dL_sellFor_21 (by decide) ?_
      exact r_iret C hw rfl rfl t ht rfl (Nat.le_of_eq (Nat.zero_add _)) (Nat.le_of_eq (Nat.zero_add _)) dL_sellFor_23
    · refine vx_catch (own := RL) (name := "java/lang/UnsupportedOperationException") (E := "java/lang/UnsupportedOperationException") C.2.2.2.2.1 (tableOf [(0, 9, 10, 22), (0, 9, 14, 14), (0, 9, 19, 16)]) { startPc := 0, endPc := 9, handlerPc := 24, catchType := 24 } (tableOf []) htab (List.forall_mem_cons.mpr ⟨Or.inr ⟨by decide, _, C.2.2.2.2.2.1 _ cl_L_22, (SF.nc_4_1 hF).moved C.2.2.2.2.2.2.2.1.alike⟩, (List.forall_mem_cons.mpr ⟨Or.inr ⟨by decide, _, C.2.2.2.2.2.1 _ cl_L_14, (SF.nc_4_2 hF).moved C.2.2.2.2.2.2.2.1.alike⟩, (List.forall_mem_cons.mpr ⟨Or.inr ⟨by decide, _, C.2.2.2.2.2.1 _ cl_L_16, (SF.nc_4_3 hF).moved C.2.2.2.2.2.2.2.1.alike⟩, (fun z hz => nomatch hz)⟩)⟩)⟩) (by decide) (by decide) (C.2.2.2.2.2.1 _ cl_L_24) (fw_mv C rfl rfl (hb _ (tb2 _ (List.mem_of_getElem? (i := 202) rfl)))) hc1 hc2 hc3 ?_
      refine lv_astore (lv' := [(5, .ref q), (0, .ref b), (1, .int x0), (2, .int x1), (3, .int x2), (4, .int x3)]) C.1 C.2.1 dL_sellFor_24 hl (by decide) rfl (fun ls hl => ?_)
      refine lv_bipush (v := -4) C.1 C.2.1 dL_sellFor_26 (by decide) ?_
      exact r_iret C hw rfl rfl t ht rfl (Nat.le_of_eq (Nat.zero_add _)) (Nat.le_of_eq (Nat.zero_add _)) dL_sellFor_28
  · obtain ⟨t, ht, hpm⟩ := hr r u hp
    replace hw := hw.perm hpm
    exact r_iret C hw rfl rfl t ht rfl (Nat.le_of_eq (Nat.zero_add _)) (Nat.le_of_eq (Nat.zero_add _)) dL_sellFor_9
set_option maxHeartbeats 4000000 in
set_option maxRecDepth 100000 in
theorem w_takeBuy {l : Launch} {G : Gx} (hF : SF l G) {S T : Type} {d k z : Nat} {post : Int32 → S → Prop} {Wf : S → va_W} {px : Nat → Prop} {Wx : Nat → va_W} {b : Nat} {fs : List Value} {w0 w : va_W} {x0 x1 x2 : Int32} (hM : XI l G yX11_takeBuy cX11_takeBuy 4 .int d k z [.ref b, .int x0, .int x1, .int x2] w post Wf px Wx) (hpe : List.Perm w0 w) (q0 : Nat) (he : w[q0]? = some (b, .inr (12, fs))) {Post : Int32 → T → Prop} {Wg : T → va_W} (hr : ∀ r u, post r u → ∃ t, Post r t ∧ List.Perm (Wf u) (Wg t)) (hx : ∀ k1, px k1 → (k1 = 1 ∨ k1 = 2 ∨ k1 = 3 ∨ k1 = 4) ∧ ∃ t, Post (if k1 = 1 then (-1) else (if k1 = 2 then (-2) else (if k1 = 3 then (-3) else (if k1 = 4 then (-4) else 0)))) t ∧ List.Perm (Wx k1) (Wg t)) : HI l G yL_takeBuy cL_takeBuy 5 [(0, 7, 8, 22), (0, 7, 12, 14), (0, 7, 17, 16), (0, 7, 22, 24)] (d + 1) k z [.ref b, .int x0, .int x1, .int x2] w0 Post Wg := by
  refine mh_of hF (by decide) (Nat.le_of_ble_eq_true rfl) ?_
  intro p e s m below meth c C htab ls hl H locs hw
  have hl : lv_has ls 5 [(0, .ref b), (1, .int x0), (2, .int x1), (3, .int x2)] := hl
  obtain ⟨bb, hb, -⟩ := id C.2.2.2.2.2.2.2.2.2.2.2.2
  refine lv_aload_n C.1 C.2.1 dL_takeBuy_0 rfl (lv_at hl 0 rfl) ?_
  refine lv_iload_n C.1 C.2.1 dL_takeBuy_1 rfl (lv_at hl 1 rfl) ?_
  refine lv_iload_n C.1 C.2.1 dL_takeBuy_2 rfl (lv_at hl 2 rfl) ?_
  refine lv_iload_n C.1 C.2.1 dL_takeBuy_3 rfl (lv_at hl 3 rfl) ?_
  refine y_vi C (hw.perm hpe) hM ml_L_36 yf_X11_takeBuy q0 he rfl (As := [.int x0, .int x1, .int x2]) rfl rfl ⟨Nat.le_refl _, by show 8 + (4 + 11) + 64 * d ≤ 64 * (d + 1); omega⟩ ⟨Nat.le_of_eq (Nat.zero_add _), Nat.le_of_eq (Nat.zero_add _)⟩ hl.1 (Nat.le_of_ble_eq_true rfl) dL_takeBuy_4 (fun k1 q ce H locs hp hw hc1 hc2 hc3 => ?_) (fun r u H locs hp hw => ?_)
  · obtain ⟨hk, t, ht, hpm⟩ := hx k1 hp
    replace hw := hw.perm hpm
    rcases hk with rfl | rfl | rfl | rfl
    · refine vx_catch (own := RL) (name := "java/lang/IndexOutOfBoundsException") (E := "java/lang/IndexOutOfBoundsException") C.2.2.2.2.1 (tableOf []) { startPc := 0, endPc := 7, handlerPc := 8, catchType := 22 } (tableOf [(0, 7, 12, 14), (0, 7, 17, 16), (0, 7, 22, 24)]) htab (fun z hz => nomatch hz) (by decide) (by decide) (C.2.2.2.2.2.1 _ cl_L_22) (fw_mv C rfl rfl (hb _ (tb2 _ (List.mem_of_getElem? (i := 94) rfl)))) hc1 hc2 hc3 ?_
      refine lv_astore (lv' := [(4, .ref q), (0, .ref b), (1, .int x0), (2, .int x1), (3, .int x2)]) C.1 C.2.1 dL_takeBuy_8 hl (by decide) rfl (fun ls hl => ?_)
      refine lv_iconst (v := -1) C.1 C.2.1 dL_takeBuy_10 (by decide) ?_
      exact r_iret C hw rfl rfl t ht rfl (Nat.le_of_eq (Nat.zero_add _)) (Nat.le_of_eq (Nat.zero_add _)) dL_takeBuy_11
    · refine vx_catch (own := RL) (name := "java/lang/IllegalArgumentException") (E := "java/lang/IllegalArgumentException") C.2.2.2.2.1 (tableOf [(0, 7, 8, 22)]) { startPc := 0, endPc := 7, handlerPc := 12, catchType := 14 } (tableOf [(0, 7, 17, 16), (0, 7, 22, 24)]) htab (List.forall_mem_cons.mpr ⟨Or.inr ⟨by decide, _, C.2.2.2.2.2.1 _ cl_L_22, (SF.nc_2_1 hF).moved C.2.2.2.2.2.2.2.1.alike⟩, (fun z hz => nomatch hz)⟩) (by decide) (by decide) (C.2.2.2.2.2.1 _ cl_L_14) (fw_mv C rfl rfl (hb _ (tb2 _ (List.mem_of_getElem? (i := 167) rfl)))) hc1 hc2 hc3 ?_
      refine lv_astore (lv' := [(4, .ref q), (0, .ref b), (1, .int x0), (2, .int x1), (3, .int x2)]) C.1 C.2.1 dL_takeBuy_12 hl (by decide) rfl (fun ls hl => ?_)
      refine lv_bipush (v := -2) C.1 C.2.1 dL_takeBuy_14 (by decide) ?_
      exact r_iret C hw rfl rfl t ht rfl (Nat.le_of_eq (Nat.zero_add _)) (Nat.le_of_eq (Nat.zero_add _)) dL_takeBuy_16
    · refine vx_catch (own := RL) (name := "java/lang/IllegalStateException") (E := "java/lang/IllegalStateException") C.2.2.2.2.1 (tableOf [(0, 7, 8, 22), (0, 7, 12, 14)]) { startPc := 0, endPc := 7, handlerPc := 17, catchType := 16 } (tableOf [(0, 7, 22, 24)]) htab (List.forall_mem_cons.mpr ⟨Or.inr ⟨by decide, _, C.2.2.2.2.2.1 _ cl_L_22, (SF.nc_3_1 hF).moved C.2.2.2.2.2.2.2.1.alike⟩, (List.forall_mem_cons.mpr ⟨Or.inr ⟨by decide, _, C.2.2.2.2.2.1 _ cl_L_14, (SF.nc_3_2 hF).moved C.2.2.2.2.2.2.2.1.alike⟩, (fun z hz => nomatch hz)⟩)⟩) (by decide) (by decide) (C.2.2.2.2.2.1 _ cl_L_16) (fw_mv C rfl rfl (hb _ (tb2 _ (List.mem_of_getElem? (i := 184) rfl)))) hc1 hc2 hc3 ?_
      refine lv_astore (lv' := [(4, .ref q), (0, .ref b), (1, .int x0), (2, .int x1), (3, .int x2)]) C.1 C.2.1 dL_takeBuy_17 hl (by decide) rfl (fun ls hl => ?_)
      refine lv_bipush (v := -3) C.1 C.2.1 dL_takeBuy_19 (by decide) ?_
      exact r_iret C hw rfl rfl t ht rfl (Nat.le_of_eq (Nat.zero_add _)) (Nat.le_of_eq (Nat.zero_add _)) dL_takeBuy_21
    · refine vx_catch (own := RL) (name := "java/lang/UnsupportedOperationException") (E := "java/lang/UnsupportedOperationException") C.2.2.2.2.1 (tableOf [(0, 7, 8, 22), (0, 7, 12, 14), (0, 7, 17, 16)]) { startPc := 0, endPc := 7, handlerPc := 22, catchType := 24 } (tableOf []) htab (List.forall_mem_cons.mpr ⟨Or.inr ⟨by decide, _, C.2.2.2.2.2.1 _ cl_L_22, (SF.nc_4_1 hF).moved C.2.2.2.2.2.2.2.1.alike⟩, (List.forall_mem_cons.mpr ⟨Or.inr ⟨by decide, _, C.2.2.2.2.2.1 _ cl_L_14, (SF.nc_4_2 hF).moved C.2.2.2.2.2.2.2.1.alike⟩, (List.forall_mem_cons.mpr ⟨Or.inr ⟨by decide, _, C.2.2.2.2.2.1 _ cl_L_16, (SF.nc_4_3 hF).moved C.2.2.2.2.2.2.2.1.alike⟩, (fun z hz => nomatch hz)⟩)⟩)⟩) (by decide) (by decide) (C.2.2.2.2.2.1 _ cl_L_24) (fw_mv C rfl rfl (hb _ (tb2 _ (List.mem_of_getElem? (i := 202) rfl)))) hc1 hc2 hc3 ?_
      refine lv_astore (lv' := [(4, .ref q), (0, .ref b), (1, .int x0), (2, .int x1), (3, .int x2)]) C.1 C.2.1 dL_takeBuy_22 hl (by decide) rfl (fun ls hl => ?_)
      refine lv_bipush (v := -4) C.1 C.2.1 dL_takeBuy_24 (by decide) ?_
      exact r_iret C hw rfl rfl t ht rfl (Nat.le_of_eq (Nat.zero_add _)) (Nat.le_of_eq (Nat.zero_add _)) dL_takeBuy_26
  · obtain ⟨t, ht, hpm⟩ := hr r u hp
    replace hw := hw.perm hpm
    exact r_iret C hw rfl rfl t ht rfl (Nat.le_of_eq (Nat.zero_add _)) (Nat.le_of_eq (Nat.zero_add _)) dL_takeBuy_7
set_option maxHeartbeats 4000000 in
set_option maxRecDepth 100000 in
theorem w_pass {l : Launch} {G : Gx} (hF : SF l G) {S T : Type} {d k z : Nat} {post : Int32 → S → Prop} {Wf : S → va_W} {px : Nat → Prop} {Wx : Nat → va_W} {b : Nat} {fs : List Value} {w0 w : va_W} {x0 : Int32} (hM : XI l G yX11_pass cX11_pass 2 .int d k z [.ref b, .int x0] w post Wf px Wx) (hpe : List.Perm w0 w) (q0 : Nat) (he : w[q0]? = some (b, .inr (12, fs))) {Post : Int32 → T → Prop} {Wg : T → va_W} (hr : ∀ r u, post r u → ∃ t, Post r t ∧ List.Perm (Wf u) (Wg t)) (hx : ∀ k1, px k1 → (k1 = 2) ∧ ∃ t, Post (if k1 = 2 then (-1) else 0) t ∧ List.Perm (Wx k1) (Wg t)) : HI l G yL_pass cL_pass 3 [(0, 5, 6, 14)] (d + 1) k z [.ref b, .int x0] w0 Post Wg := by
  refine mh_of hF (by decide) (Nat.le_of_ble_eq_true rfl) ?_
  intro p e s m below meth c C htab ls hl H locs hw
  have hl : lv_has ls 3 [(0, .ref b), (1, .int x0)] := hl
  obtain ⟨bb, hb, -⟩ := id C.2.2.2.2.2.2.2.2.2.2.2.2
  refine lv_aload_n C.1 C.2.1 dL_pass_0 rfl (lv_at hl 0 rfl) ?_
  refine lv_iload_n C.1 C.2.1 dL_pass_1 rfl (lv_at hl 1 rfl) ?_
  refine y_vi C (hw.perm hpe) hM ml_L_48 yf_X11_pass q0 he rfl (As := [.int x0]) rfl rfl ⟨Nat.le_refl _, by show 8 + (2 + 11) + 64 * d ≤ 64 * (d + 1); omega⟩ ⟨Nat.le_of_eq (Nat.zero_add _), Nat.le_of_eq (Nat.zero_add _)⟩ hl.1 (Nat.le_of_ble_eq_true rfl) dL_pass_2 (fun k1 q ce H locs hp hw hc1 hc2 hc3 => ?_) (fun r u H locs hp hw => ?_)
  · obtain ⟨hk, t, ht, hpm⟩ := hx k1 hp
    replace hw := hw.perm hpm
    subst hk
    refine vx_catch (own := RL) (name := "java/lang/IllegalArgumentException") (E := "java/lang/IllegalArgumentException") C.2.2.2.2.1 (tableOf []) { startPc := 0, endPc := 5, handlerPc := 6, catchType := 14 } (tableOf []) htab (fun z hz => nomatch hz) (by decide) (by decide) (C.2.2.2.2.2.1 _ cl_L_14) (fw_mv C rfl rfl (hb _ (tb2 _ (List.mem_of_getElem? (i := 167) rfl)))) hc1 hc2 hc3 ?_
    refine lv_astore_n (lv' := [(2, .ref q), (0, .ref b), (1, .int x0)]) C.1 C.2.1 dL_pass_6 rfl hl (by decide) rfl (fun ls hl => ?_)
    refine lv_iconst (v := -1) C.1 C.2.1 dL_pass_7 (by decide) ?_
    exact r_iret C hw rfl rfl t ht rfl (Nat.le_of_eq (Nat.zero_add _)) (Nat.le_of_eq (Nat.zero_add _)) dL_pass_8
  · obtain ⟨t, ht, hpm⟩ := hr r u hp
    replace hw := hw.perm hpm
    exact r_iret C hw rfl rfl t ht rfl (Nat.le_of_eq (Nat.zero_add _)) (Nat.le_of_eq (Nat.zero_add _)) dL_pass_5
set_option maxHeartbeats 4000000 in
set_option maxRecDepth 100000 in
theorem w_takeSell {l : Launch} {G : Gx} (hF : SF l G) {S T : Type} {d k z : Nat} {post : Int32 → S → Prop} {Wf : S → va_W} {px : Nat → Prop} {Wx : Nat → va_W} {b : Nat} {fs : List Value} {w0 w : va_W} {x0 x1 x2 : Int32} (hM : XI l G yX11_takeSell cX11_takeSell 4 .int d k z [.ref b, .int x0, .int x1, .int x2] w post Wf px Wx) (hpe : List.Perm w0 w) (q0 : Nat) (he : w[q0]? = some (b, .inr (12, fs))) {Post : Int32 → T → Prop} {Wg : T → va_W} (hr : ∀ r u, post r u → ∃ t, Post r t ∧ List.Perm (Wf u) (Wg t)) (hx : ∀ k1, px k1 → (k1 = 1 ∨ k1 = 2 ∨ k1 = 3 ∨ k1 = 4) ∧ ∃ t, Post (if k1 = 1 then (-1) else (if k1 = 2 then (-2) else (if k1 = 3 then (-3) else (if k1 = 4 then (-4) else 0)))) t ∧ List.Perm (Wx k1) (Wg t)) : HI l G yL_takeSell cL_takeSell 5 [(0, 7, 8, 22), (0, 7, 12, 14), (0, 7, 17, 16), (0, 7, 22, 24)] (d + 1) k z [.ref b, .int x0, .int x1, .int x2] w0 Post Wg := by
  refine mh_of hF (by decide) (Nat.le_of_ble_eq_true rfl) ?_
  intro p e s m below meth c C htab ls hl H locs hw
  have hl : lv_has ls 5 [(0, .ref b), (1, .int x0), (2, .int x1), (3, .int x2)] := hl
  obtain ⟨bb, hb, -⟩ := id C.2.2.2.2.2.2.2.2.2.2.2.2
  refine lv_aload_n C.1 C.2.1 dL_takeSell_0 rfl (lv_at hl 0 rfl) ?_
  refine lv_iload_n C.1 C.2.1 dL_takeSell_1 rfl (lv_at hl 1 rfl) ?_
  refine lv_iload_n C.1 C.2.1 dL_takeSell_2 rfl (lv_at hl 2 rfl) ?_
  refine lv_iload_n C.1 C.2.1 dL_takeSell_3 rfl (lv_at hl 3 rfl) ?_
  refine y_vi C (hw.perm hpe) hM ml_L_39 yf_X11_takeSell q0 he rfl (As := [.int x0, .int x1, .int x2]) rfl rfl ⟨Nat.le_refl _, by show 8 + (4 + 11) + 64 * d ≤ 64 * (d + 1); omega⟩ ⟨Nat.le_of_eq (Nat.zero_add _), Nat.le_of_eq (Nat.zero_add _)⟩ hl.1 (Nat.le_of_ble_eq_true rfl) dL_takeSell_4 (fun k1 q ce H locs hp hw hc1 hc2 hc3 => ?_) (fun r u H locs hp hw => ?_)
  · obtain ⟨hk, t, ht, hpm⟩ := hx k1 hp
    replace hw := hw.perm hpm
    rcases hk with rfl | rfl | rfl | rfl
    · refine vx_catch (own := RL) (name := "java/lang/IndexOutOfBoundsException") (E := "java/lang/IndexOutOfBoundsException") C.2.2.2.2.1 (tableOf []) { startPc := 0, endPc := 7, handlerPc := 8, catchType := 22 } (tableOf [(0, 7, 12, 14), (0, 7, 17, 16), (0, 7, 22, 24)]) htab (fun z hz => nomatch hz) (by decide) (by decide) (C.2.2.2.2.2.1 _ cl_L_22) (fw_mv C rfl rfl (hb _ (tb2 _ (List.mem_of_getElem? (i := 94) rfl)))) hc1 hc2 hc3 ?_
      refine lv_astore (lv' := [(4, .ref q), (0, .ref b), (1, .int x0), (2, .int x1), (3, .int x2)]) C.1 C.2.1 dL_takeSell_8 hl (by decide) rfl (fun ls hl => ?_)
      refine lv_iconst (v := -1) C.1 C.2.1 dL_takeSell_10 (by decide) ?_
      exact r_iret C hw rfl rfl t ht rfl (Nat.le_of_eq (Nat.zero_add _)) (Nat.le_of_eq (Nat.zero_add _)) dL_takeSell_11
    · refine vx_catch (own := RL) (name := "java/lang/IllegalArgumentException") (E := "java/lang/IllegalArgumentException") C.2.2.2.2.1 (tableOf [(0, 7, 8, 22)]) { startPc := 0, endPc := 7, handlerPc := 12, catchType := 14 } (tableOf [(0, 7, 17, 16), (0, 7, 22, 24)]) htab (List.forall_mem_cons.mpr ⟨Or.inr ⟨by decide, _, C.2.2.2.2.2.1 _ cl_L_22, (SF.nc_2_1 hF).moved C.2.2.2.2.2.2.2.1.alike⟩, (fun z hz => nomatch hz)⟩) (by decide) (by decide) (C.2.2.2.2.2.1 _ cl_L_14) (fw_mv C rfl rfl (hb _ (tb2 _ (List.mem_of_getElem? (i := 167) rfl)))) hc1 hc2 hc3 ?_
      refine lv_astore (lv' := [(4, .ref q), (0, .ref b), (1, .int x0), (2, .int x1), (3, .int x2)]) C.1 C.2.1 dL_takeSell_12 hl (by decide) rfl (fun ls hl => ?_)
      refine lv_bipush (v := -2) C.1 C.2.1 dL_takeSell_14 (by decide) ?_
      exact r_iret C hw rfl rfl t ht rfl (Nat.le_of_eq (Nat.zero_add _)) (Nat.le_of_eq (Nat.zero_add _)) dL_takeSell_16
    · refine vx_catch (own := RL) (name := "java/lang/IllegalStateException") (E := "java/lang/IllegalStateException") C.2.2.2.2.1 (tableOf [(0, 7, 8, 22), (0, 7, 12, 14)]) { startPc := 0, endPc := 7, handlerPc := 17, catchType := 16 } (tableOf [(0, 7, 22, 24)]) htab (List.forall_mem_cons.mpr ⟨Or.inr ⟨by decide, _, C.2.2.2.2.2.1 _ cl_L_22, (SF.nc_3_1 hF).moved C.2.2.2.2.2.2.2.1.alike⟩, (List.forall_mem_cons.mpr ⟨Or.inr ⟨by decide, _, C.2.2.2.2.2.1 _ cl_L_14, (SF.nc_3_2 hF).moved C.2.2.2.2.2.2.2.1.alike⟩, (fun z hz => nomatch hz)⟩)⟩) (by decide) (by decide) (C.2.2.2.2.2.1 _ cl_L_16) (fw_mv C rfl rfl (hb _ (tb2 _ (List.mem_of_getElem? (i := 184) rfl)))) hc1 hc2 hc3 ?_
      refine lv_astore (lv' := [(4, .ref q), (0, .ref b), (1, .int x0), (2, .int x1), (3, .int x2)]) C.1 C.2.1 dL_takeSell_17 hl (by decide) rfl (fun ls hl => ?_)
      refine lv_bipush (v := -3) C.1 C.2.1 dL_takeSell_19 (by decide) ?_
      exact r_iret C hw rfl rfl t ht rfl (Nat.le_of_eq (Nat.zero_add _)) (Nat.le_of_eq (Nat.zero_add _)) dL_takeSell_21
    · refine vx_catch (own := RL) (name := "java/lang/UnsupportedOperationException") (E := "java/lang/UnsupportedOperationException") C.2.2.2.2.1 (tableOf [(0, 7, 8, 22), (0, 7, 12, 14), (0, 7, 17, 16)]) { startPc := 0, endPc := 7, handlerPc := 22, catchType := 24 } (tableOf []) htab (List.forall_mem_cons.mpr ⟨Or.inr ⟨by decide, _, C.2.2.2.2.2.1 _ cl_L_22, (SF.nc_4_1 hF).moved C.2.2.2.2.2.2.2.1.alike⟩, (List.forall_mem_cons.mpr ⟨Or.inr ⟨by decide, _, C.2.2.2.2.2.1 _ cl_L_14, (SF.nc_4_2 hF).moved C.2.2.2.2.2.2.2.1.alike⟩, (List.forall_mem_cons.mpr ⟨Or.inr ⟨by decide, _, C.2.2.2.2.2.1 _ cl_L_16, (SF.nc_4_3 hF).moved C.2.2.2.2.2.2.2.1.alike⟩, (fun z hz => nomatch hz)⟩)⟩)⟩) (by decide) (by decide) (C.2.2.2.2.2.1 _ cl_L_24) (fw_mv C rfl rfl (hb _ (tb2 _ (List.mem_of_getElem? (i := 202) rfl)))) hc1 hc2 hc3 ?_
      refine lv_astore (lv' := [(4, .ref q), (0, .ref b), (1, .int x0), (2, .int x1), (3, .int x2)]) C.1 C.2.1 dL_takeSell_22 hl (by decide) rfl (fun ls hl => ?_)
      refine lv_bipush (v := -4) C.1 C.2.1 dL_takeSell_24 (by decide) ?_
      exact r_iret C hw rfl rfl t ht rfl (Nat.le_of_eq (Nat.zero_add _)) (Nat.le_of_eq (Nat.zero_add _)) dL_takeSell_26
  · obtain ⟨t, ht, hpm⟩ := hr r u hp
    replace hw := hw.perm hpm
    exact r_iret C hw rfl rfl t ht rfl (Nat.le_of_eq (Nat.zero_add _)) (Nat.le_of_eq (Nat.zero_add _)) dL_takeSell_7
set_option maxHeartbeats 4000000 in
set_option maxRecDepth 100000 in
theorem w_close {l : Launch} {G : Gx} (hF : SF l G) {S T : Type} {d k z : Nat} {post : Int32 → S → Prop} {Wf : S → va_W} {px : Nat → Prop} {Wx : Nat → va_W} {b : Nat} {fs : List Value} {w0 w : va_W} (hM : XI l G yX11_closePool cX11_closePool 1 .int d k z [.ref b] w post Wf px Wx) (hpe : List.Perm w0 w) (q0 : Nat) (he : w[q0]? = some (b, .inr (12, fs))) {Post : Int32 → T → Prop} {Wg : T → va_W} (hr : ∀ r u, post r u → ∃ t, Post r t ∧ List.Perm (Wf u) (Wg t)) (hx : ∀ k1, px k1 → (k1 = 3) ∧ ∃ t, Post (if k1 = 3 then (-1) else 0) t ∧ List.Perm (Wx k1) (Wg t)) : HI l G yL_close cL_close 2 [(0, 4, 5, 16)] (d + 1) k z [.ref b] w0 Post Wg := by
  refine mh_of hF (by decide) (Nat.le_of_ble_eq_true rfl) ?_
  intro p e s m below meth c C htab ls hl H locs hw
  have hl : lv_has ls 2 [(0, .ref b)] := hl
  obtain ⟨bb, hb, -⟩ := id C.2.2.2.2.2.2.2.2.2.2.2.2
  refine lv_aload_n C.1 C.2.1 dL_close_0 rfl (lv_at hl 0 rfl) ?_
  refine y_vi C (hw.perm hpe) hM ml_L_55 yf_X11_closePool q0 he rfl (As := []) rfl rfl ⟨Nat.le_refl _, by show 8 + (1 + 11) + 64 * d ≤ 64 * (d + 1); omega⟩ ⟨Nat.le_of_eq (Nat.zero_add _), Nat.le_of_eq (Nat.zero_add _)⟩ hl.1 (Nat.le_of_ble_eq_true rfl) dL_close_1 (fun k1 q ce H locs hp hw hc1 hc2 hc3 => ?_) (fun r u H locs hp hw => ?_)
  · obtain ⟨hk, t, ht, hpm⟩ := hx k1 hp
    replace hw := hw.perm hpm
    subst hk
    refine vx_catch (own := RL) (name := "java/lang/IllegalStateException") (E := "java/lang/IllegalStateException") C.2.2.2.2.1 (tableOf []) { startPc := 0, endPc := 4, handlerPc := 5, catchType := 16 } (tableOf []) htab (fun z hz => nomatch hz) (by decide) (by decide) (C.2.2.2.2.2.1 _ cl_L_16) (fw_mv C rfl rfl (hb _ (tb2 _ (List.mem_of_getElem? (i := 184) rfl)))) hc1 hc2 hc3 ?_
    refine lv_astore_n (lv' := [(1, .ref q), (0, .ref b)]) C.1 C.2.1 dL_close_5 rfl hl (by decide) rfl (fun ls hl => ?_)
    refine lv_iconst (v := -1) C.1 C.2.1 dL_close_6 (by decide) ?_
    exact r_iret C hw rfl rfl t ht rfl (Nat.le_of_eq (Nat.zero_add _)) (Nat.le_of_eq (Nat.zero_add _)) dL_close_7
  · obtain ⟨t, ht, hpm⟩ := hr r u hp
    replace hw := hw.perm hpm
    exact r_iret C hw rfl rfl t ht rfl (Nat.le_of_eq (Nat.zero_add _)) (Nat.le_of_eq (Nat.zero_add _)) dL_close_4
set_option maxHeartbeats 4000000 in
set_option maxRecDepth 100000 in
theorem w_open {l : Launch} {G : Gx} (hF : SF l G) {S T : Type} {d k z : Nat} {post : Int32 → S → Prop} {Wf : S → va_W} {px : Nat → Prop} {Wx : Nat → va_W} {b : Nat} {fs : List Value} {w0 w : va_W} (hM : XI l G yX11_openPool cX11_openPool 1 .int d k z [.ref b] w post Wf px Wx) (hpe : List.Perm w0 w) (q0 : Nat) (he : w[q0]? = some (b, .inr (12, fs))) {Post : Int32 → T → Prop} {Wg : T → va_W} (hr : ∀ r u, post r u → ∃ t, Post r t ∧ List.Perm (Wf u) (Wg t)) (hx : ∀ k1, px k1 → (k1 = 3) ∧ ∃ t, Post (if k1 = 3 then (-1) else 0) t ∧ List.Perm (Wx k1) (Wg t)) : HI l G yL_open cL_open 2 [(0, 4, 5, 16)] (d + 1) k z [.ref b] w0 Post Wg := by
  refine mh_of hF (by decide) (Nat.le_of_ble_eq_true rfl) ?_
  intro p e s m below meth c C htab ls hl H locs hw
  have hl : lv_has ls 2 [(0, .ref b)] := hl
  obtain ⟨bb, hb, -⟩ := id C.2.2.2.2.2.2.2.2.2.2.2.2
  refine lv_aload_n C.1 C.2.1 dL_open_0 rfl (lv_at hl 0 rfl) ?_
  refine y_vi C (hw.perm hpe) hM ml_L_51 yf_X11_openPool q0 he rfl (As := []) rfl rfl ⟨Nat.le_refl _, by show 8 + (1 + 11) + 64 * d ≤ 64 * (d + 1); omega⟩ ⟨Nat.le_of_eq (Nat.zero_add _), Nat.le_of_eq (Nat.zero_add _)⟩ hl.1 (Nat.le_of_ble_eq_true rfl) dL_open_1 (fun k1 q ce H locs hp hw hc1 hc2 hc3 => ?_) (fun r u H locs hp hw => ?_)
  · obtain ⟨hk, t, ht, hpm⟩ := hx k1 hp
    replace hw := hw.perm hpm
    subst hk
    refine vx_catch (own := RL) (name := "java/lang/IllegalStateException") (E := "java/lang/IllegalStateException") C.2.2.2.2.1 (tableOf []) { startPc := 0, endPc := 4, handlerPc := 5, catchType := 16 } (tableOf []) htab (fun z hz => nomatch hz) (by decide) (by decide) (C.2.2.2.2.2.1 _ cl_L_16) (fw_mv C rfl rfl (hb _ (tb2 _ (List.mem_of_getElem? (i := 184) rfl)))) hc1 hc2 hc3 ?_
    refine lv_astore_n (lv' := [(1, .ref q), (0, .ref b)]) C.1 C.2.1 dL_open_5 rfl hl (by decide) rfl (fun ls hl => ?_)
    refine lv_iconst (v := -1) C.1 C.2.1 dL_open_6 (by decide) ?_
    exact r_iret C hw rfl rfl t ht rfl (Nat.le_of_eq (Nat.zero_add _)) (Nat.le_of_eq (Nat.zero_add _)) dL_open_7
  · obtain ⟨t, ht, hpm⟩ := hr r u hp
    replace hw := hw.perm hpm
    exact r_iret C hw rfl rfl t ht rfl (Nat.le_of_eq (Nat.zero_add _)) (Nat.le_of_eq (Nat.zero_add _)) dL_open_4
set_option maxHeartbeats 4000000 in
set_option maxRecDepth 100000 in
theorem w_money {l : Launch} {G : Gx} (hF : SF l G) {S T : Type} {d k z : Nat} {post : Int32 → S → Prop} {Wf : S → va_W} {px : Nat → Prop} {Wx : Nat → va_W} {b : Nat} {fs : List Value} {w0 w : va_W} {x0 : Int32} (hM : XI l G yX11_moneyOf cX11_moneyOf 2 .int d k z [.ref b, .int x0] w post Wf px Wx) (hpe : List.Perm w0 w) (q0 : Nat) (he : w[q0]? = some (b, .inr (12, fs))) {Post : Int32 → T → Prop} {Wg : T → va_W} (hr : ∀ r u, post r u → ∃ t, Post r t ∧ List.Perm (Wf u) (Wg t)) (hx : ∀ k1, px k1 → (k1 = 1) ∧ ∃ t, Post (if k1 = 1 then (-11) else 0) t ∧ List.Perm (Wx k1) (Wg t)) : HI l G yL_money cL_money 3 [(0, 5, 6, 22)] (d + 1) k z [.ref b, .int x0] w0 Post Wg := by
  refine mh_of hF (by decide) (Nat.le_of_ble_eq_true rfl) ?_
  intro p e s m below meth c C htab ls hl H locs hw
  have hl : lv_has ls 3 [(0, .ref b), (1, .int x0)] := hl
  obtain ⟨bb, hb, -⟩ := id C.2.2.2.2.2.2.2.2.2.2.2.2
  refine lv_aload_n C.1 C.2.1 dL_money_0 rfl (lv_at hl 0 rfl) ?_
  refine lv_iload_n C.1 C.2.1 dL_money_1 rfl (lv_at hl 1 rfl) ?_
  refine y_vi C (hw.perm hpe) hM ml_L_58 yf_X11_moneyOf q0 he rfl (As := [.int x0]) rfl rfl ⟨Nat.le_refl _, by show 8 + (2 + 11) + 64 * d ≤ 64 * (d + 1); omega⟩ ⟨Nat.le_of_eq (Nat.zero_add _), Nat.le_of_eq (Nat.zero_add _)⟩ hl.1 (Nat.le_of_ble_eq_true rfl) dL_money_2 (fun k1 q ce H locs hp hw hc1 hc2 hc3 => ?_) (fun r u H locs hp hw => ?_)
  · obtain ⟨hk, t, ht, hpm⟩ := hx k1 hp
    replace hw := hw.perm hpm
    subst hk
    refine vx_catch (own := RL) (name := "java/lang/IndexOutOfBoundsException") (E := "java/lang/IndexOutOfBoundsException") C.2.2.2.2.1 (tableOf []) { startPc := 0, endPc := 5, handlerPc := 6, catchType := 22 } (tableOf []) htab (fun z hz => nomatch hz) (by decide) (by decide) (C.2.2.2.2.2.1 _ cl_L_22) (fw_mv C rfl rfl (hb _ (tb2 _ (List.mem_of_getElem? (i := 94) rfl)))) hc1 hc2 hc3 ?_
    refine lv_astore_n (lv' := [(2, .ref q), (0, .ref b), (1, .int x0)]) C.1 C.2.1 dL_money_6 rfl hl (by decide) rfl (fun ls hl => ?_)
    refine lv_bipush (v := -11) C.1 C.2.1 dL_money_7 (by decide) ?_
    exact r_iret C hw rfl rfl t ht rfl (Nat.le_of_eq (Nat.zero_add _)) (Nat.le_of_eq (Nat.zero_add _)) dL_money_9
  · obtain ⟨t, ht, hpm⟩ := hr r u hp
    replace hw := hw.perm hpm
    exact r_iret C hw rfl rfl t ht rfl (Nat.le_of_eq (Nat.zero_add _)) (Nat.le_of_eq (Nat.zero_add _)) dL_money_5
set_option maxHeartbeats 4000000 in
set_option maxRecDepth 100000 in
theorem w_drops {l : Launch} {G : Gx} (hF : SF l G) {S T : Type} {d k z : Nat} {post : Int32 → S → Prop} {Wf : S → va_W} {px : Nat → Prop} {Wx : Nat → va_W} {b : Nat} {fs : List Value} {w0 w : va_W} {x0 : Int32} (hM : XI l G yX11_dropsOf cX11_dropsOf 2 .int d k z [.ref b, .int x0] w post Wf px Wx) (hpe : List.Perm w0 w) (q0 : Nat) (he : w[q0]? = some (b, .inr (12, fs))) {Post : Int32 → T → Prop} {Wg : T → va_W} (hr : ∀ r u, post r u → ∃ t, Post r t ∧ List.Perm (Wf u) (Wg t)) (hx : ∀ k1, px k1 → (k1 = 1) ∧ ∃ t, Post (if k1 = 1 then (-11) else 0) t ∧ List.Perm (Wx k1) (Wg t)) : HI l G yL_drops cL_drops 3 [(0, 5, 6, 22)] (d + 1) k z [.ref b, .int x0] w0 Post Wg := by
  refine mh_of hF (by decide) (Nat.le_of_ble_eq_true rfl) ?_
  intro p e s m below meth c C htab ls hl H locs hw
  have hl : lv_has ls 3 [(0, .ref b), (1, .int x0)] := hl
  obtain ⟨bb, hb, -⟩ := id C.2.2.2.2.2.2.2.2.2.2.2.2
  refine lv_aload_n C.1 C.2.1 dL_drops_0 rfl (lv_at hl 0 rfl) ?_
  refine lv_iload_n C.1 C.2.1 dL_drops_1 rfl (lv_at hl 1 rfl) ?_
  refine y_vi C (hw.perm hpe) hM ml_L_61 yf_X11_dropsOf q0 he rfl (As := [.int x0]) rfl rfl ⟨Nat.le_refl _, by show 8 + (2 + 11) + 64 * d ≤ 64 * (d + 1); omega⟩ ⟨Nat.le_of_eq (Nat.zero_add _), Nat.le_of_eq (Nat.zero_add _)⟩ hl.1 (Nat.le_of_ble_eq_true rfl) dL_drops_2 (fun k1 q ce H locs hp hw hc1 hc2 hc3 => ?_) (fun r u H locs hp hw => ?_)
  · obtain ⟨hk, t, ht, hpm⟩ := hx k1 hp
    replace hw := hw.perm hpm
    subst hk
    refine vx_catch (own := RL) (name := "java/lang/IndexOutOfBoundsException") (E := "java/lang/IndexOutOfBoundsException") C.2.2.2.2.1 (tableOf []) { startPc := 0, endPc := 5, handlerPc := 6, catchType := 22 } (tableOf []) htab (fun z hz => nomatch hz) (by decide) (by decide) (C.2.2.2.2.2.1 _ cl_L_22) (fw_mv C rfl rfl (hb _ (tb2 _ (List.mem_of_getElem? (i := 94) rfl)))) hc1 hc2 hc3 ?_
    refine lv_astore_n (lv' := [(2, .ref q), (0, .ref b), (1, .int x0)]) C.1 C.2.1 dL_drops_6 rfl hl (by decide) rfl (fun ls hl => ?_)
    refine lv_bipush (v := -11) C.1 C.2.1 dL_drops_7 (by decide) ?_
    exact r_iret C hw rfl rfl t ht rfl (Nat.le_of_eq (Nat.zero_add _)) (Nat.le_of_eq (Nat.zero_add _)) dL_drops_9
  · obtain ⟨t, ht, hpm⟩ := hr r u hp
    replace hw := hw.perm hpm
    exact r_iret C hw rfl rfl t ht rfl (Nat.le_of_eq (Nat.zero_add _)) (Nat.le_of_eq (Nat.zero_add _)) dL_drops_5
set_option maxHeartbeats 4000000 in
set_option maxRecDepth 100000 in
theorem w_byMoney {l : Launch} {G : Gx} (hF : SF l G) {S T : Type} {d k z : Nat} {post : Int32 → S → Prop} {Wf : S → va_W} {px : Nat → Prop} {Wx : Nat → va_W} {b : Nat} {fs : List Value} {w0 w : va_W} {x0 : Int32} (hM : XI l G yX11_stallByMoney cX11_stallByMoney 3 .int d k z [.ref b, .int x0] w post Wf px Wx) (hpe : List.Perm w0 w) (q0 : Nat) (he : w[q0]? = some (b, .inr (12, fs))) {Post : Int32 → T → Prop} {Wg : T → va_W} (hr : ∀ r u, post r u → ∃ t, Post r t ∧ List.Perm (Wf u) (Wg t)) (hx : ∀ k1, px k1 → (k1 = 5) ∧ ∃ t, Post (if k1 = 5 then (-13) else 0) t ∧ List.Perm (Wx k1) (Wg t)) : HI l G yL_byMoney cL_byMoney 3 [(0, 5, 6, 46)] (d + 1) k z [.ref b, .int x0] w0 Post Wg := by
  refine mh_of hF (by decide) (Nat.le_of_ble_eq_true rfl) ?_
  intro p e s m below meth c C htab ls hl H locs hw
  have hl : lv_has ls 3 [(0, .ref b), (1, .int x0)] := hl
  obtain ⟨bb, hb, -⟩ := id C.2.2.2.2.2.2.2.2.2.2.2.2
  refine lv_aload_n C.1 C.2.1 dL_byMoney_0 rfl (lv_at hl 0 rfl) ?_
  refine lv_iload_n C.1 C.2.1 dL_byMoney_1 rfl (lv_at hl 1 rfl) ?_
  refine y_vi C (hw.perm hpe) hM ml_L_70 yf_X11_stallByMoney q0 he rfl (As := [.int x0]) rfl rfl ⟨Nat.le_refl _, by show 8 + (3 + 11) + 64 * d ≤ 64 * (d + 1); omega⟩ ⟨Nat.le_of_eq (Nat.zero_add _), Nat.le_of_eq (Nat.zero_add _)⟩ hl.1 (Nat.le_of_ble_eq_true rfl) dL_byMoney_2 (fun k1 q ce H locs hp hw hc1 hc2 hc3 => ?_) (fun r u H locs hp hw => ?_)
  · obtain ⟨hk, t, ht, hpm⟩ := hx k1 hp
    replace hw := hw.perm hpm
    subst hk
    refine vx_catch (own := RL) (name := "java/util/NoSuchElementException") (E := "java/util/NoSuchElementException") C.2.2.2.2.1 (tableOf []) { startPc := 0, endPc := 5, handlerPc := 6, catchType := 46 } (tableOf []) htab (fun z hz => nomatch hz) (by decide) (by decide) (C.2.2.2.2.2.1 _ cl_L_46) (fw_mv C rfl rfl (hb _ (tb2 _ (List.mem_of_getElem? (i := 220) rfl)))) hc1 hc2 hc3 ?_
    refine lv_astore_n (lv' := [(2, .ref q), (0, .ref b), (1, .int x0)]) C.1 C.2.1 dL_byMoney_6 rfl hl (by decide) rfl (fun ls hl => ?_)
    refine lv_bipush (v := -13) C.1 C.2.1 dL_byMoney_7 (by decide) ?_
    exact r_iret C hw rfl rfl t ht rfl (Nat.le_of_eq (Nat.zero_add _)) (Nat.le_of_eq (Nat.zero_add _)) dL_byMoney_9
  · obtain ⟨t, ht, hpm⟩ := hr r u hp
    replace hw := hw.perm hpm
    exact r_iret C hw rfl rfl t ht rfl (Nat.le_of_eq (Nat.zero_add _)) (Nat.le_of_eq (Nat.zero_add _)) dL_byMoney_5
set_option maxHeartbeats 4000000 in
set_option maxRecDepth 100000 in
theorem w_freeMoney {l : Launch} {G : Gx} (hF : SF l G) {S T : Type} {d k z : Nat} {post : Int32 → S → Prop} {Wf : S → va_W} {px : Nat → Prop} {Wx : Nat → va_W} {b : Nat} {fs : List Value} {w0 w : va_W} {x0 : Int32} (hM : XI l G yX11_freeMoneyOf cX11_freeMoneyOf 2 .int d k z [.ref b, .int x0] w post Wf px Wx) (hpe : List.Perm w0 w) (q0 : Nat) (he : w[q0]? = some (b, .inr (12, fs))) {Post : Int32 → T → Prop} {Wg : T → va_W} (hr : ∀ r u, post r u → ∃ t, Post r t ∧ List.Perm (Wf u) (Wg t)) (hx : ∀ k1, px k1 → (k1 = 1) ∧ ∃ t, Post (if k1 = 1 then (-11) else 0) t ∧ List.Perm (Wx k1) (Wg t)) : HI l G yL_freeMoney cL_freeMoney 3 [(0, 5, 6, 22)] (d + 1) k z [.ref b, .int x0] w0 Post Wg := by
  refine mh_of hF (by decide) (Nat.le_of_ble_eq_true rfl) ?_
  intro p e s m below meth c C htab ls hl H locs hw
  have hl : lv_has ls 3 [(0, .ref b), (1, .int x0)] := hl
  obtain ⟨bb, hb, -⟩ := id C.2.2.2.2.2.2.2.2.2.2.2.2
  refine lv_aload_n C.1 C.2.1 dL_freeMoney_0 rfl (lv_at hl 0 rfl) ?_
  refine lv_iload_n C.1 C.2.1 dL_freeMoney_1 rfl (lv_at hl 1 rfl) ?_
  refine y_vi C (hw.perm hpe) hM ml_L_64 yf_X11_freeMoneyOf q0 he rfl (As := [.int x0]) rfl rfl ⟨Nat.le_refl _, by show 8 + (2 + 11) + 64 * d ≤ 64 * (d + 1); omega⟩ ⟨Nat.le_of_eq (Nat.zero_add _), Nat.le_of_eq (Nat.zero_add _)⟩ hl.1 (Nat.le_of_ble_eq_true rfl) dL_freeMoney_2 (fun k1 q ce H locs hp hw hc1 hc2 hc3 => ?_) (fun r u H locs hp hw => ?_)
  · obtain ⟨hk, t, ht, hpm⟩ := hx k1 hp
    replace hw := hw.perm hpm
    subst hk
    refine vx_catch (own := RL) (name := "java/lang/IndexOutOfBoundsException") (E := "java/lang/IndexOutOfBoundsException") C.2.2.2.2.1 (tableOf []) { startPc := 0, endPc := 5, handlerPc := 6, catchType := 22 } (tableOf []) htab (fun z hz => nomatch hz) (by decide) (by decide) (C.2.2.2.2.2.1 _ cl_L_22) (fw_mv C rfl rfl (hb _ (tb2 _ (List.mem_of_getElem? (i := 94) rfl)))) hc1 hc2 hc3 ?_
    refine lv_astore_n (lv' := [(2, .ref q), (0, .ref b), (1, .int x0)]) C.1 C.2.1 dL_freeMoney_6 rfl hl (by decide) rfl (fun ls hl => ?_)
    refine lv_bipush (v := -11) C.1 C.2.1 dL_freeMoney_7 (by decide) ?_
    exact r_iret C hw rfl rfl t ht rfl (Nat.le_of_eq (Nat.zero_add _)) (Nat.le_of_eq (Nat.zero_add _)) dL_freeMoney_9
  · obtain ⟨t, ht, hpm⟩ := hr r u hp
    replace hw := hw.perm hpm
    exact r_iret C hw rfl rfl t ht rfl (Nat.le_of_eq (Nat.zero_add _)) (Nat.le_of_eq (Nat.zero_add _)) dL_freeMoney_5
set_option maxHeartbeats 4000000 in
set_option maxRecDepth 100000 in
theorem w_freeDrops {l : Launch} {G : Gx} (hF : SF l G) {S T : Type} {d k z : Nat} {post : Int32 → S → Prop} {Wf : S → va_W} {px : Nat → Prop} {Wx : Nat → va_W} {b : Nat} {fs : List Value} {w0 w : va_W} {x0 : Int32} (hM : XI l G yX11_freeDropsOf cX11_freeDropsOf 2 .int d k z [.ref b, .int x0] w post Wf px Wx) (hpe : List.Perm w0 w) (q0 : Nat) (he : w[q0]? = some (b, .inr (12, fs))) {Post : Int32 → T → Prop} {Wg : T → va_W} (hr : ∀ r u, post r u → ∃ t, Post r t ∧ List.Perm (Wf u) (Wg t)) (hx : ∀ k1, px k1 → (k1 = 1) ∧ ∃ t, Post (if k1 = 1 then (-11) else 0) t ∧ List.Perm (Wx k1) (Wg t)) : HI l G yL_freeDrops cL_freeDrops 3 [(0, 5, 6, 22)] (d + 1) k z [.ref b, .int x0] w0 Post Wg := by
  refine mh_of hF (by decide) (Nat.le_of_ble_eq_true rfl) ?_
  intro p e s m below meth c C htab ls hl H locs hw
  have hl : lv_has ls 3 [(0, .ref b), (1, .int x0)] := hl
  obtain ⟨bb, hb, -⟩ := id C.2.2.2.2.2.2.2.2.2.2.2.2
  refine lv_aload_n C.1 C.2.1 dL_freeDrops_0 rfl (lv_at hl 0 rfl) ?_
  refine lv_iload_n C.1 C.2.1 dL_freeDrops_1 rfl (lv_at hl 1 rfl) ?_
  refine y_vi C (hw.perm hpe) hM ml_L_67 yf_X11_freeDropsOf q0 he rfl (As := [.int x0]) rfl rfl ⟨Nat.le_refl _, by show 8 + (2 + 11) + 64 * d ≤ 64 * (d + 1); omega⟩ ⟨Nat.le_of_eq (Nat.zero_add _), Nat.le_of_eq (Nat.zero_add _)⟩ hl.1 (Nat.le_of_ble_eq_true rfl) dL_freeDrops_2 (fun k1 q ce H locs hp hw hc1 hc2 hc3 => ?_) (fun r u H locs hp hw => ?_)
  · obtain ⟨hk, t, ht, hpm⟩ := hx k1 hp
    replace hw := hw.perm hpm
    subst hk
    refine vx_catch (own := RL) (name := "java/lang/IndexOutOfBoundsException") (E := "java/lang/IndexOutOfBoundsException") C.2.2.2.2.1 (tableOf []) { startPc := 0, endPc := 5, handlerPc := 6, catchType := 22 } (tableOf []) htab (fun z hz => nomatch hz) (by decide) (by decide) (C.2.2.2.2.2.1 _ cl_L_22) (fw_mv C rfl rfl (hb _ (tb2 _ (List.mem_of_getElem? (i := 94) rfl)))) hc1 hc2 hc3 ?_
    refine lv_astore_n (lv' := [(2, .ref q), (0, .ref b), (1, .int x0)]) C.1 C.2.1 dL_freeDrops_6 rfl hl (by decide) rfl (fun ls hl => ?_)
    refine lv_bipush (v := -11) C.1 C.2.1 dL_freeDrops_7 (by decide) ?_
    exact r_iret C hw rfl rfl t ht rfl (Nat.le_of_eq (Nat.zero_add _)) (Nat.le_of_eq (Nat.zero_add _)) dL_freeDrops_9
  · obtain ⟨t, ht, hpm⟩ := hr r u hp
    replace hw := hw.perm hpm
    exact r_iret C hw rfl rfl t ht rfl (Nat.le_of_eq (Nat.zero_add _)) (Nat.le_of_eq (Nat.zero_add _)) dL_freeDrops_5
set_option maxHeartbeats 4000000 in
set_option maxRecDepth 100000 in
theorem w_orderAt {l : Launch} {G : Gx} (hF : SF l G) {S T : Type} {d k z : Nat} {post : Int32 → S → Prop} {Wf : S → va_W} {px : Nat → Prop} {Wx : Nat → va_W} {b : Nat} {fs : List Value} {w0 w : va_W} {x0 : Int32} (hM : XI l G yX11_orderAt cX11_orderAt 2 .int d k z [.ref b, .int x0] w post Wf px Wx) (hpe : List.Perm w0 w) (q0 : Nat) (he : w[q0]? = some (b, .inr (12, fs))) {Post : Int32 → T → Prop} {Wg : T → va_W} (hr : ∀ r u, post r u → ∃ t, Post r t ∧ List.Perm (Wf u) (Wg t)) (hx : ∀ k1, px k1 → (k1 = 1) ∧ ∃ t, Post (if k1 = 1 then (-11) else 0) t ∧ List.Perm (Wx k1) (Wg t)) : HI l G yL_orderAt cL_orderAt 3 [(0, 5, 6, 22)] (d + 1) k z [.ref b, .int x0] w0 Post Wg := by
  refine mh_of hF (by decide) (Nat.le_of_ble_eq_true rfl) ?_
  intro p e s m below meth c C htab ls hl H locs hw
  have hl : lv_has ls 3 [(0, .ref b), (1, .int x0)] := hl
  obtain ⟨bb, hb, -⟩ := id C.2.2.2.2.2.2.2.2.2.2.2.2
  refine lv_aload_n C.1 C.2.1 dL_orderAt_0 rfl (lv_at hl 0 rfl) ?_
  refine lv_iload_n C.1 C.2.1 dL_orderAt_1 rfl (lv_at hl 1 rfl) ?_
  refine y_vi C (hw.perm hpe) hM ml_L_73 yf_X11_orderAt q0 he rfl (As := [.int x0]) rfl rfl ⟨Nat.le_refl _, by show 8 + (2 + 11) + 64 * d ≤ 64 * (d + 1); omega⟩ ⟨Nat.le_of_eq (Nat.zero_add _), Nat.le_of_eq (Nat.zero_add _)⟩ hl.1 (Nat.le_of_ble_eq_true rfl) dL_orderAt_2 (fun k1 q ce H locs hp hw hc1 hc2 hc3 => ?_) (fun r u H locs hp hw => ?_)
  · obtain ⟨hk, t, ht, hpm⟩ := hx k1 hp
    replace hw := hw.perm hpm
    subst hk
    refine vx_catch (own := RL) (name := "java/lang/IndexOutOfBoundsException") (E := "java/lang/IndexOutOfBoundsException") C.2.2.2.2.1 (tableOf []) { startPc := 0, endPc := 5, handlerPc := 6, catchType := 22 } (tableOf []) htab (fun z hz => nomatch hz) (by decide) (by decide) (C.2.2.2.2.2.1 _ cl_L_22) (fw_mv C rfl rfl (hb _ (tb2 _ (List.mem_of_getElem? (i := 94) rfl)))) hc1 hc2 hc3 ?_
    refine lv_astore_n (lv' := [(2, .ref q), (0, .ref b), (1, .int x0)]) C.1 C.2.1 dL_orderAt_6 rfl hl (by decide) rfl (fun ls hl => ?_)
    refine lv_bipush (v := -11) C.1 C.2.1 dL_orderAt_7 (by decide) ?_
    exact r_iret C hw rfl rfl t ht rfl (Nat.le_of_eq (Nat.zero_add _)) (Nat.le_of_eq (Nat.zero_add _)) dL_orderAt_9
  · obtain ⟨t, ht, hpm⟩ := hr r u hp
    replace hw := hw.perm hpm
    exact r_iret C hw rfl rfl t ht rfl (Nat.le_of_eq (Nat.zero_add _)) (Nat.le_of_eq (Nat.zero_add _)) dL_orderAt_5
set_option maxHeartbeats 4000000 in
set_option maxRecDepth 100000 in
theorem w_isBuying {l : Launch} {G : Gx} (hF : SF l G) {S T : Type} {d k z : Nat} {post : Int32 → S → Prop} {Wf : S → va_W} {px : Nat → Prop} {Wx : Nat → va_W} {b : Nat} {fs : List Value} {w0 w : va_W} {x0 : Int32} (hM : XI l G yX11_isBuying cX11_isBuying 2 .boolean d k z [.ref b, .int x0] w post Wf px Wx) (hpe : List.Perm w0 w) (q0 : Nat) (he : w[q0]? = some (b, .inr (12, fs))) {Post : Int32 → T → Prop} {Wg : T → va_W} (hr : ∀ r u, post r u → ∃ t, Post (if r = 0 then 0 else 1) t ∧ List.Perm (Wf u) (Wg t)) (hx : ∀ k1, px k1 → (k1 = 5) ∧ ∃ t, Post (if k1 = 5 then (-13) else 0) t ∧ List.Perm (Wx k1) (Wg t)) : HI l G yL_isBuying cL_isBuying 3 [(0, 13, 14, 46)] (d + 1) k z [.ref b, .int x0] w0 Post Wg := by
  refine mh_of hF (by decide) (Nat.le_of_ble_eq_true rfl) ?_
  intro p e s m below meth c C htab ls hl H locs hw
  have hl : lv_has ls 3 [(0, .ref b), (1, .int x0)] := hl
  obtain ⟨bb, hb, -⟩ := id C.2.2.2.2.2.2.2.2.2.2.2.2
  refine lv_aload_n C.1 C.2.1 dL_isBuying_0 rfl (lv_at hl 0 rfl) ?_
  refine lv_iload_n C.1 C.2.1 dL_isBuying_1 rfl (lv_at hl 1 rfl) ?_
  refine y_vi C (hw.perm hpe) hM ml_L_79 yf_X11_isBuying q0 he rfl (As := [.int x0]) rfl rfl ⟨Nat.le_refl _, by show 8 + (2 + 11) + 64 * d ≤ 64 * (d + 1); omega⟩ ⟨Nat.le_of_eq (Nat.zero_add _), Nat.le_of_eq (Nat.zero_add _)⟩ hl.1 (Nat.le_of_ble_eq_true rfl) dL_isBuying_2 (fun k1 q ce H locs hp hw hc1 hc2 hc3 => ?_) (fun r u H locs hp hw => ?_)
  · obtain ⟨hk, t, ht, hpm⟩ := hx k1 hp
    replace hw := hw.perm hpm
    subst hk
    refine vx_catch (own := RL) (name := "java/util/NoSuchElementException") (E := "java/util/NoSuchElementException") C.2.2.2.2.1 (tableOf []) { startPc := 0, endPc := 13, handlerPc := 14, catchType := 46 } (tableOf []) htab (fun z hz => nomatch hz) (by decide) (by decide) (C.2.2.2.2.2.1 _ cl_L_46) (fw_mv C rfl rfl (hb _ (tb2 _ (List.mem_of_getElem? (i := 220) rfl)))) hc1 hc2 hc3 ?_
    refine lv_astore_n (lv' := [(2, .ref q), (0, .ref b), (1, .int x0)]) C.1 C.2.1 dL_isBuying_14 rfl hl (by decide) rfl (fun ls hl => ?_)
    refine lv_bipush (v := -13) C.1 C.2.1 dL_isBuying_15 (by decide) ?_
    exact r_iret C hw rfl rfl t ht rfl (Nat.le_of_eq (Nat.zero_add _)) (Nat.le_of_eq (Nat.zero_add _)) dL_isBuying_17
  · obtain ⟨t, ht, hpm⟩ := hr r u hp
    replace hw := hw.perm hpm
    refine lv_if_eq (tgt := 12) C.1 C.2.1 dL_isBuying_5 (by decide) (fun c0 => ?_) (fun c0 => ?_)
    · refine lv_iconst (v := 0) C.1 C.2.1 dL_isBuying_12 (by decide) ?_
      rw [if_pos c0] at ht
      exact r_iret C hw rfl rfl t ht rfl (Nat.le_of_eq (Nat.zero_add _)) (Nat.le_of_eq (Nat.zero_add _)) dL_isBuying_13
    · refine lv_iconst (v := 1) C.1 C.2.1 dL_isBuying_8 (by decide) ?_
      refine lv_goto (tgt := 13) C.1 C.2.1 dL_isBuying_9 (by decide) ?_
      rw [if_neg c0] at ht
      exact r_iret C hw rfl rfl t ht rfl (Nat.le_of_eq (Nat.zero_add _)) (Nat.le_of_eq (Nat.zero_add _)) dL_isBuying_13
set_option maxHeartbeats 4000000 in
set_option maxRecDepth 100000 in
theorem w_priceOf {l : Launch} {G : Gx} (hF : SF l G) {S T : Type} {d k z : Nat} {post : Int32 → S → Prop} {Wf : S → va_W} {px : Nat → Prop} {Wx : Nat → va_W} {b : Nat} {fs : List Value} {w0 w : va_W} {x0 : Int32} (hM : XI l G yX11_priceOf cX11_priceOf 2 .int d k z [.ref b, .int x0] w post Wf px Wx) (hpe : List.Perm w0 w) (q0 : Nat) (he : w[q0]? = some (b, .inr (12, fs))) {Post : Int32 → T → Prop} {Wg : T → va_W} (hr : ∀ r u, post r u → ∃ t, Post r t ∧ List.Perm (Wf u) (Wg t)) (hx : ∀ k1, px k1 → (k1 = 5) ∧ ∃ t, Post (if k1 = 5 then (-13) else 0) t ∧ List.Perm (Wx k1) (Wg t)) : HI l G yL_priceOf cL_priceOf 3 [(0, 5, 6, 46)] (d + 1) k z [.ref b, .int x0] w0 Post Wg := by
  refine mh_of hF (by decide) (Nat.le_of_ble_eq_true rfl) ?_
  intro p e s m below meth c C htab ls hl H locs hw
  have hl : lv_has ls 3 [(0, .ref b), (1, .int x0)] := hl
  obtain ⟨bb, hb, -⟩ := id C.2.2.2.2.2.2.2.2.2.2.2.2
  refine lv_aload_n C.1 C.2.1 dL_priceOf_0 rfl (lv_at hl 0 rfl) ?_
  refine lv_iload_n C.1 C.2.1 dL_priceOf_1 rfl (lv_at hl 1 rfl) ?_
  refine y_vi C (hw.perm hpe) hM ml_L_83 yf_X11_priceOf q0 he rfl (As := [.int x0]) rfl rfl ⟨Nat.le_refl _, by show 8 + (2 + 11) + 64 * d ≤ 64 * (d + 1); omega⟩ ⟨Nat.le_of_eq (Nat.zero_add _), Nat.le_of_eq (Nat.zero_add _)⟩ hl.1 (Nat.le_of_ble_eq_true rfl) dL_priceOf_2 (fun k1 q ce H locs hp hw hc1 hc2 hc3 => ?_) (fun r u H locs hp hw => ?_)
  · obtain ⟨hk, t, ht, hpm⟩ := hx k1 hp
    replace hw := hw.perm hpm
    subst hk
    refine vx_catch (own := RL) (name := "java/util/NoSuchElementException") (E := "java/util/NoSuchElementException") C.2.2.2.2.1 (tableOf []) { startPc := 0, endPc := 5, handlerPc := 6, catchType := 46 } (tableOf []) htab (fun z hz => nomatch hz) (by decide) (by decide) (C.2.2.2.2.2.1 _ cl_L_46) (fw_mv C rfl rfl (hb _ (tb2 _ (List.mem_of_getElem? (i := 220) rfl)))) hc1 hc2 hc3 ?_
    refine lv_astore_n (lv' := [(2, .ref q), (0, .ref b), (1, .int x0)]) C.1 C.2.1 dL_priceOf_6 rfl hl (by decide) rfl (fun ls hl => ?_)
    refine lv_bipush (v := -13) C.1 C.2.1 dL_priceOf_7 (by decide) ?_
    exact r_iret C hw rfl rfl t ht rfl (Nat.le_of_eq (Nat.zero_add _)) (Nat.le_of_eq (Nat.zero_add _)) dL_priceOf_9
  · obtain ⟨t, ht, hpm⟩ := hr r u hp
    replace hw := hw.perm hpm
    exact r_iret C hw rfl rfl t ht rfl (Nat.le_of_eq (Nat.zero_add _)) (Nat.le_of_eq (Nat.zero_add _)) dL_priceOf_5
set_option maxHeartbeats 4000000 in
set_option maxRecDepth 100000 in
theorem w_quantityOf {l : Launch} {G : Gx} (hF : SF l G) {S T : Type} {d k z : Nat} {post : Int32 → S → Prop} {Wf : S → va_W} {px : Nat → Prop} {Wx : Nat → va_W} {b : Nat} {fs : List Value} {w0 w : va_W} {x0 : Int32} (hM : XI l G yX11_quantityOf cX11_quantityOf 2 .int d k z [.ref b, .int x0] w post Wf px Wx) (hpe : List.Perm w0 w) (q0 : Nat) (he : w[q0]? = some (b, .inr (12, fs))) {Post : Int32 → T → Prop} {Wg : T → va_W} (hr : ∀ r u, post r u → ∃ t, Post r t ∧ List.Perm (Wf u) (Wg t)) (hx : ∀ k1, px k1 → (k1 = 5) ∧ ∃ t, Post (if k1 = 5 then (-13) else 0) t ∧ List.Perm (Wx k1) (Wg t)) : HI l G yL_quantityOf cL_quantityOf 3 [(0, 5, 6, 46)] (d + 1) k z [.ref b, .int x0] w0 Post Wg := by
  refine mh_of hF (by decide) (Nat.le_of_ble_eq_true rfl) ?_
  intro p e s m below meth c C htab ls hl H locs hw
  have hl : lv_has ls 3 [(0, .ref b), (1, .int x0)] := hl
  obtain ⟨bb, hb, -⟩ := id C.2.2.2.2.2.2.2.2.2.2.2.2
  refine lv_aload_n C.1 C.2.1 dL_quantityOf_0 rfl (lv_at hl 0 rfl) ?_
  refine lv_iload_n C.1 C.2.1 dL_quantityOf_1 rfl (lv_at hl 1 rfl) ?_
  refine y_vi C (hw.perm hpe) hM ml_L_86 yf_X11_quantityOf q0 he rfl (As := [.int x0]) rfl rfl ⟨Nat.le_refl _, by show 8 + (2 + 11) + 64 * d ≤ 64 * (d + 1); omega⟩ ⟨Nat.le_of_eq (Nat.zero_add _), Nat.le_of_eq (Nat.zero_add _)⟩ hl.1 (Nat.le_of_ble_eq_true rfl) dL_quantityOf_2 (fun k1 q ce H locs hp hw hc1 hc2 hc3 => ?_) (fun r u H locs hp hw => ?_)
  · obtain ⟨hk, t, ht, hpm⟩ := hx k1 hp
    replace hw := hw.perm hpm
    subst hk
    refine vx_catch (own := RL) (name := "java/util/NoSuchElementException") (E := "java/util/NoSuchElementException") C.2.2.2.2.1 (tableOf []) { startPc := 0, endPc := 5, handlerPc := 6, catchType := 46 } (tableOf []) htab (fun z hz => nomatch hz) (by decide) (by decide) (C.2.2.2.2.2.1 _ cl_L_46) (fw_mv C rfl rfl (hb _ (tb2 _ (List.mem_of_getElem? (i := 220) rfl)))) hc1 hc2 hc3 ?_
    refine lv_astore_n (lv' := [(2, .ref q), (0, .ref b), (1, .int x0)]) C.1 C.2.1 dL_quantityOf_6 rfl hl (by decide) rfl (fun ls hl => ?_)
    refine lv_bipush (v := -13) C.1 C.2.1 dL_quantityOf_7 (by decide) ?_
    exact r_iret C hw rfl rfl t ht rfl (Nat.le_of_eq (Nat.zero_add _)) (Nat.le_of_eq (Nat.zero_add _)) dL_quantityOf_9
  · obtain ⟨t, ht, hpm⟩ := hr r u hp
    replace hw := hw.perm hpm
    exact r_iret C hw rfl rfl t ht rfl (Nat.le_of_eq (Nat.zero_add _)) (Nat.le_of_eq (Nat.zero_add _)) dL_quantityOf_5
set_option maxHeartbeats 4000000 in
set_option maxRecDepth 100000 in
theorem w_minutesLeft {l : Launch} {G : Gx} (hF : SF l G) {S T : Type} {d k z : Nat} {post : Int32 → S → Prop} {Wf : S → va_W} {px : Nat → Prop} {Wx : Nat → va_W} {b : Nat} {fs : List Value} {w0 w : va_W} {x0 : Int32} (hM : XI l G yX11_minutesLeft cX11_minutesLeft 3 .int d k z [.ref b, .int x0] w post Wf px Wx) (hpe : List.Perm w0 w) (q0 : Nat) (he : w[q0]? = some (b, .inr (12, fs))) {Post : Int32 → T → Prop} {Wg : T → va_W} (hr : ∀ r u, post r u → ∃ t, Post r t ∧ List.Perm (Wf u) (Wg t)) (hx : ∀ k1, px k1 → (k1 = 5 ∨ k1 = 3) ∧ ∃ t, Post (if k1 = 5 then (-13) else (if k1 = 3 then (-14) else 0)) t ∧ List.Perm (Wx k1) (Wg t)) : HI l G yL_minutesLeft cL_minutesLeft 3 [(0, 5, 6, 46), (0, 5, 10, 16)] (d + 1) k z [.ref b, .int x0] w0 Post Wg := by
  refine mh_of hF (by decide) (Nat.le_of_ble_eq_true rfl) ?_
  intro p e s m below meth c C htab ls hl H locs hw
  have hl : lv_has ls 3 [(0, .ref b), (1, .int x0)] := hl
  obtain ⟨bb, hb, -⟩ := id C.2.2.2.2.2.2.2.2.2.2.2.2
  refine lv_aload_n C.1 C.2.1 dL_minutesLeft_0 rfl (lv_at hl 0 rfl) ?_
  refine lv_iload_n C.1 C.2.1 dL_minutesLeft_1 rfl (lv_at hl 1 rfl) ?_
  refine y_vi C (hw.perm hpe) hM ml_L_89 yf_X11_minutesLeft q0 he rfl (As := [.int x0]) rfl rfl ⟨Nat.le_refl _, by show 8 + (3 + 11) + 64 * d ≤ 64 * (d + 1); omega⟩ ⟨Nat.le_of_eq (Nat.zero_add _), Nat.le_of_eq (Nat.zero_add _)⟩ hl.1 (Nat.le_of_ble_eq_true rfl) dL_minutesLeft_2 (fun k1 q ce H locs hp hw hc1 hc2 hc3 => ?_) (fun r u H locs hp hw => ?_)
  · obtain ⟨hk, t, ht, hpm⟩ := hx k1 hp
    replace hw := hw.perm hpm
    rcases hk with rfl | rfl
    · refine vx_catch (own := RL) (name := "java/util/NoSuchElementException") (E := "java/util/NoSuchElementException") C.2.2.2.2.1 (tableOf []) { startPc := 0, endPc := 5, handlerPc := 6, catchType := 46 } (tableOf [(0, 5, 10, 16)]) htab (fun z hz => nomatch hz) (by decide) (by decide) (C.2.2.2.2.2.1 _ cl_L_46) (fw_mv C rfl rfl (hb _ (tb2 _ (List.mem_of_getElem? (i := 220) rfl)))) hc1 hc2 hc3 ?_
      refine lv_astore_n (lv' := [(2, .ref q), (0, .ref b), (1, .int x0)]) C.1 C.2.1 dL_minutesLeft_6 rfl hl (by decide) rfl (fun ls hl => ?_)
      refine lv_bipush (v := -13) C.1 C.2.1 dL_minutesLeft_7 (by decide) ?_
      exact r_iret C hw rfl rfl t ht rfl (Nat.le_of_eq (Nat.zero_add _)) (Nat.le_of_eq (Nat.zero_add _)) dL_minutesLeft_9
    · refine vx_catch (own := RL) (name := "java/lang/IllegalStateException") (E := "java/lang/IllegalStateException") C.2.2.2.2.1 (tableOf [(0, 5, 6, 46)]) { startPc := 0, endPc := 5, handlerPc := 10, catchType := 16 } (tableOf []) htab (List.forall_mem_cons.mpr ⟨Or.inr ⟨by decide, _, C.2.2.2.2.2.1 _ cl_L_46, (SF.nc_3_5 hF).moved C.2.2.2.2.2.2.2.1.alike⟩, (fun z hz => nomatch hz)⟩) (by decide) (by decide) (C.2.2.2.2.2.1 _ cl_L_16) (fw_mv C rfl rfl (hb _ (tb2 _ (List.mem_of_getElem? (i := 184) rfl)))) hc1 hc2 hc3 ?_
      refine lv_astore_n (lv' := [(2, .ref q), (0, .ref b), (1, .int x0)]) C.1 C.2.1 dL_minutesLeft_10 rfl hl (by decide) rfl (fun ls hl => ?_)
      refine lv_bipush (v := -14) C.1 C.2.1 dL_minutesLeft_11 (by decide) ?_
      exact r_iret C hw rfl rfl t ht rfl (Nat.le_of_eq (Nat.zero_add _)) (Nat.le_of_eq (Nat.zero_add _)) dL_minutesLeft_13
  · obtain ⟨t, ht, hpm⟩ := hr r u hp
    replace hw := hw.perm hpm
    exact r_iret C hw rfl rfl t ht rfl (Nat.le_of_eq (Nat.zero_add _)) (Nat.le_of_eq (Nat.zero_add _)) dL_minutesLeft_5
set_option maxHeartbeats 4000000 in
set_option maxRecDepth 100000 in
theorem w_stallOf {l : Launch} {G : Gx} (hF : SF l G) {S T : Type} {d k z : Nat} {post : Int32 → S → Prop} {Wf : S → va_W} {px : Nat → Prop} {Wx : Nat → va_W} {b : Nat} {fs : List Value} {w0 w : va_W} {x0 : Int32} (hM : XI l G yX11_stallOf cX11_stallOf 2 .int d k z [.ref b, .int x0] w post Wf px Wx) (hpe : List.Perm w0 w) (q0 : Nat) (he : w[q0]? = some (b, .inr (12, fs))) {Post : Int32 → T → Prop} {Wg : T → va_W} (hr : ∀ r u, post r u → ∃ t, Post r t ∧ List.Perm (Wf u) (Wg t)) (hx : ∀ k1, px k1 → (k1 = 5) ∧ ∃ t, Post (if k1 = 5 then (-13) else 0) t ∧ List.Perm (Wx k1) (Wg t)) : HI l G yL_stallOf cL_stallOf 3 [(0, 5, 6, 46)] (d + 1) k z [.ref b, .int x0] w0 Post Wg := by
  refine mh_of hF (by decide) (Nat.le_of_ble_eq_true rfl) ?_
  intro p e s m below meth c C htab ls hl H locs hw
  have hl : lv_has ls 3 [(0, .ref b), (1, .int x0)] := hl
  obtain ⟨bb, hb, -⟩ := id C.2.2.2.2.2.2.2.2.2.2.2.2
  refine lv_aload_n C.1 C.2.1 dL_stallOf_0 rfl (lv_at hl 0 rfl) ?_
  refine lv_iload_n C.1 C.2.1 dL_stallOf_1 rfl (lv_at hl 1 rfl) ?_
  refine y_vi C (hw.perm hpe) hM ml_L_76 yf_X11_stallOf q0 he rfl (As := [.int x0]) rfl rfl ⟨Nat.le_refl _, by show 8 + (2 + 11) + 64 * d ≤ 64 * (d + 1); omega⟩ ⟨Nat.le_of_eq (Nat.zero_add _), Nat.le_of_eq (Nat.zero_add _)⟩ hl.1 (Nat.le_of_ble_eq_true rfl) dL_stallOf_2 (fun k1 q ce H locs hp hw hc1 hc2 hc3 => ?_) (fun r u H locs hp hw => ?_)
  · obtain ⟨hk, t, ht, hpm⟩ := hx k1 hp
    replace hw := hw.perm hpm
    subst hk
    refine vx_catch (own := RL) (name := "java/util/NoSuchElementException") (E := "java/util/NoSuchElementException") C.2.2.2.2.1 (tableOf []) { startPc := 0, endPc := 5, handlerPc := 6, catchType := 46 } (tableOf []) htab (fun z hz => nomatch hz) (by decide) (by decide) (C.2.2.2.2.2.1 _ cl_L_46) (fw_mv C rfl rfl (hb _ (tb2 _ (List.mem_of_getElem? (i := 220) rfl)))) hc1 hc2 hc3 ?_
    refine lv_astore_n (lv' := [(2, .ref q), (0, .ref b), (1, .int x0)]) C.1 C.2.1 dL_stallOf_6 rfl hl (by decide) rfl (fun ls hl => ?_)
    refine lv_bipush (v := -13) C.1 C.2.1 dL_stallOf_7 (by decide) ?_
    exact r_iret C hw rfl rfl t ht rfl (Nat.le_of_eq (Nat.zero_add _)) (Nat.le_of_eq (Nat.zero_add _)) dL_stallOf_9
  · obtain ⟨t, ht, hpm⟩ := hr r u hp
    replace hw := hw.perm hpm
    exact r_iret C hw rfl rfl t ht rfl (Nat.le_of_eq (Nat.zero_add _)) (Nat.le_of_eq (Nat.zero_add _)) dL_stallOf_5
set_option maxHeartbeats 4000000 in
set_option maxRecDepth 100000 in
theorem w_buyingAt {l : Launch} {G : Gx} (hF : SF l G) {S T : Type} {d k z : Nat} {post : Int32 → S → Prop} {Wf : S → va_W} {px : Nat → Prop} {Wx : Nat → va_W} {b : Nat} {fs : List Value} {w0 w : va_W} {x0 : Int32} (hM : XI l G yX11_buyingAt cX11_buyingAt 2 .int d k z [.ref b, .int x0] w post Wf px Wx) (hpe : List.Perm w0 w) (q0 : Nat) (he : w[q0]? = some (b, .inr (12, fs))) {Post : Int32 → T → Prop} {Wg : T → va_W} (hr : ∀ r u, post r u → ∃ t, Post r t ∧ List.Perm (Wf u) (Wg t)) (hx : ∀ k1, px k1 → (k1 = 2) ∧ ∃ t, Post (if k1 = 2 then (-12) else 0) t ∧ List.Perm (Wx k1) (Wg t)) : HI l G yL_buyingAt cL_buyingAt 3 [(0, 5, 6, 14)] (d + 1) k z [.ref b, .int x0] w0 Post Wg := by
  refine mh_of hF (by decide) (Nat.le_of_ble_eq_true rfl) ?_
  intro p e s m below meth c C htab ls hl H locs hw
  have hl : lv_has ls 3 [(0, .ref b), (1, .int x0)] := hl
  obtain ⟨bb, hb, -⟩ := id C.2.2.2.2.2.2.2.2.2.2.2.2
  refine lv_aload_n C.1 C.2.1 dL_buyingAt_0 rfl (lv_at hl 0 rfl) ?_
  refine lv_iload_n C.1 C.2.1 dL_buyingAt_1 rfl (lv_at hl 1 rfl) ?_
  refine y_vi C (hw.perm hpe) hM ml_L_104 yf_X11_buyingAt q0 he rfl (As := [.int x0]) rfl rfl ⟨Nat.le_refl _, by show 8 + (2 + 11) + 64 * d ≤ 64 * (d + 1); omega⟩ ⟨Nat.le_of_eq (Nat.zero_add _), Nat.le_of_eq (Nat.zero_add _)⟩ hl.1 (Nat.le_of_ble_eq_true rfl) dL_buyingAt_2 (fun k1 q ce H locs hp hw hc1 hc2 hc3 => ?_) (fun r u H locs hp hw => ?_)
  · obtain ⟨hk, t, ht, hpm⟩ := hx k1 hp
    replace hw := hw.perm hpm
    subst hk
    refine vx_catch (own := RL) (name := "java/lang/IllegalArgumentException") (E := "java/lang/IllegalArgumentException") C.2.2.2.2.1 (tableOf []) { startPc := 0, endPc := 5, handlerPc := 6, catchType := 14 } (tableOf []) htab (fun z hz => nomatch hz) (by decide) (by decide) (C.2.2.2.2.2.1 _ cl_L_14) (fw_mv C rfl rfl (hb _ (tb2 _ (List.mem_of_getElem? (i := 167) rfl)))) hc1 hc2 hc3 ?_
    refine lv_astore_n (lv' := [(2, .ref q), (0, .ref b), (1, .int x0)]) C.1 C.2.1 dL_buyingAt_6 rfl hl (by decide) rfl (fun ls hl => ?_)
    refine lv_bipush (v := -12) C.1 C.2.1 dL_buyingAt_7 (by decide) ?_
    exact r_iret C hw rfl rfl t ht rfl (Nat.le_of_eq (Nat.zero_add _)) (Nat.le_of_eq (Nat.zero_add _)) dL_buyingAt_9
  · obtain ⟨t, ht, hpm⟩ := hr r u hp
    replace hw := hw.perm hpm
    exact r_iret C hw rfl rfl t ht rfl (Nat.le_of_eq (Nat.zero_add _)) (Nat.le_of_eq (Nat.zero_add _)) dL_buyingAt_5
set_option maxHeartbeats 4000000 in
set_option maxRecDepth 100000 in
theorem w_sellingAt {l : Launch} {G : Gx} (hF : SF l G) {S T : Type} {d k z : Nat} {post : Int32 → S → Prop} {Wf : S → va_W} {px : Nat → Prop} {Wx : Nat → va_W} {b : Nat} {fs : List Value} {w0 w : va_W} {x0 : Int32} (hM : XI l G yX11_sellingAt cX11_sellingAt 2 .int d k z [.ref b, .int x0] w post Wf px Wx) (hpe : List.Perm w0 w) (q0 : Nat) (he : w[q0]? = some (b, .inr (12, fs))) {Post : Int32 → T → Prop} {Wg : T → va_W} (hr : ∀ r u, post r u → ∃ t, Post r t ∧ List.Perm (Wf u) (Wg t)) (hx : ∀ k1, px k1 → (k1 = 2) ∧ ∃ t, Post (if k1 = 2 then (-12) else 0) t ∧ List.Perm (Wx k1) (Wg t)) : HI l G yL_sellingAt cL_sellingAt 3 [(0, 5, 6, 14)] (d + 1) k z [.ref b, .int x0] w0 Post Wg := by
  refine mh_of hF (by decide) (Nat.le_of_ble_eq_true rfl) ?_
  intro p e s m below meth c C htab ls hl H locs hw
  have hl : lv_has ls 3 [(0, .ref b), (1, .int x0)] := hl
  obtain ⟨bb, hb, -⟩ := id C.2.2.2.2.2.2.2.2.2.2.2.2
  refine lv_aload_n C.1 C.2.1 dL_sellingAt_0 rfl (lv_at hl 0 rfl) ?_
  refine lv_iload_n C.1 C.2.1 dL_sellingAt_1 rfl (lv_at hl 1 rfl) ?_
  refine y_vi C (hw.perm hpe) hM ml_L_107 yf_X11_sellingAt q0 he rfl (As := [.int x0]) rfl rfl ⟨Nat.le_refl _, by show 8 + (2 + 11) + 64 * d ≤ 64 * (d + 1); omega⟩ ⟨Nat.le_of_eq (Nat.zero_add _), Nat.le_of_eq (Nat.zero_add _)⟩ hl.1 (Nat.le_of_ble_eq_true rfl) dL_sellingAt_2 (fun k1 q ce H locs hp hw hc1 hc2 hc3 => ?_) (fun r u H locs hp hw => ?_)
  · obtain ⟨hk, t, ht, hpm⟩ := hx k1 hp
    replace hw := hw.perm hpm
    subst hk
    refine vx_catch (own := RL) (name := "java/lang/IllegalArgumentException") (E := "java/lang/IllegalArgumentException") C.2.2.2.2.1 (tableOf []) { startPc := 0, endPc := 5, handlerPc := 6, catchType := 14 } (tableOf []) htab (fun z hz => nomatch hz) (by decide) (by decide) (C.2.2.2.2.2.1 _ cl_L_14) (fw_mv C rfl rfl (hb _ (tb2 _ (List.mem_of_getElem? (i := 167) rfl)))) hc1 hc2 hc3 ?_
    refine lv_astore_n (lv' := [(2, .ref q), (0, .ref b), (1, .int x0)]) C.1 C.2.1 dL_sellingAt_6 rfl hl (by decide) rfl (fun ls hl => ?_)
    refine lv_bipush (v := -12) C.1 C.2.1 dL_sellingAt_7 (by decide) ?_
    exact r_iret C hw rfl rfl t ht rfl (Nat.le_of_eq (Nat.zero_add _)) (Nat.le_of_eq (Nat.zero_add _)) dL_sellingAt_9
  · obtain ⟨t, ht, hpm⟩ := hr r u hp
    replace hw := hw.perm hpm
    exact r_iret C hw rfl rfl t ht rfl (Nat.le_of_eq (Nat.zero_add _)) (Nat.le_of_eq (Nat.zero_add _)) dL_sellingAt_5
set_option maxHeartbeats 4000000 in
set_option maxRecDepth 100000 in
theorem w_bestBuy {l : Launch} {G : Gx} (hF : SF l G) {S T : Type} {d k z : Nat} {post : Int32 → S → Prop} {Wf : S → va_W} {px : Nat → Prop} {Wx : Nat → va_W} {b : Nat} {fs : List Value} {w0 w : va_W} (hM : XI l G yX11_bestBuy cX11_bestBuy 1 .int d k z [.ref b] w post Wf px Wx) (hpe : List.Perm w0 w) (q0 : Nat) (he : w[q0]? = some (b, .inr (12, fs))) {Post : Int32 → T → Prop} {Wg : T → va_W} (hr : ∀ r u, post r u → ∃ t, Post r t ∧ List.Perm (Wf u) (Wg t)) (hx : ∀ k1, px k1 → (k1 = 5) ∧ ∃ t, Post (if k1 = 5 then (-13) else 0) t ∧ List.Perm (Wx k1) (Wg t)) : HI l G yL_bestBuy cL_bestBuy 2 [(0, 4, 5, 46)] (d + 1) k z [.ref b] w0 Post Wg := by
  refine mh_of hF (by decide) (Nat.le_of_ble_eq_true rfl) ?_
  intro p e s m below meth c C htab ls hl H locs hw
  have hl : lv_has ls 2 [(0, .ref b)] := hl
  obtain ⟨bb, hb, -⟩ := id C.2.2.2.2.2.2.2.2.2.2.2.2
  refine lv_aload_n C.1 C.2.1 dL_bestBuy_0 rfl (lv_at hl 0 rfl) ?_
  refine y_vi C (hw.perm hpe) hM ml_L_92 yf_X11_bestBuy q0 he rfl (As := []) rfl rfl ⟨Nat.le_refl _, by show 8 + (1 + 11) + 64 * d ≤ 64 * (d + 1); omega⟩ ⟨Nat.le_of_eq (Nat.zero_add _), Nat.le_of_eq (Nat.zero_add _)⟩ hl.1 (Nat.le_of_ble_eq_true rfl) dL_bestBuy_1 (fun k1 q ce H locs hp hw hc1 hc2 hc3 => ?_) (fun r u H locs hp hw => ?_)
  · obtain ⟨hk, t, ht, hpm⟩ := hx k1 hp
    replace hw := hw.perm hpm
    subst hk
    refine vx_catch (own := RL) (name := "java/util/NoSuchElementException") (E := "java/util/NoSuchElementException") C.2.2.2.2.1 (tableOf []) { startPc := 0, endPc := 4, handlerPc := 5, catchType := 46 } (tableOf []) htab (fun z hz => nomatch hz) (by decide) (by decide) (C.2.2.2.2.2.1 _ cl_L_46) (fw_mv C rfl rfl (hb _ (tb2 _ (List.mem_of_getElem? (i := 220) rfl)))) hc1 hc2 hc3 ?_
    refine lv_astore_n (lv' := [(1, .ref q), (0, .ref b)]) C.1 C.2.1 dL_bestBuy_5 rfl hl (by decide) rfl (fun ls hl => ?_)
    refine lv_bipush (v := -13) C.1 C.2.1 dL_bestBuy_6 (by decide) ?_
    exact r_iret C hw rfl rfl t ht rfl (Nat.le_of_eq (Nat.zero_add _)) (Nat.le_of_eq (Nat.zero_add _)) dL_bestBuy_8
  · obtain ⟨t, ht, hpm⟩ := hr r u hp
    replace hw := hw.perm hpm
    exact r_iret C hw rfl rfl t ht rfl (Nat.le_of_eq (Nat.zero_add _)) (Nat.le_of_eq (Nat.zero_add _)) dL_bestBuy_4
set_option maxHeartbeats 4000000 in
set_option maxRecDepth 100000 in
theorem w_bestSell {l : Launch} {G : Gx} (hF : SF l G) {S T : Type} {d k z : Nat} {post : Int32 → S → Prop} {Wf : S → va_W} {px : Nat → Prop} {Wx : Nat → va_W} {b : Nat} {fs : List Value} {w0 w : va_W} (hM : XI l G yX11_bestSell cX11_bestSell 1 .int d k z [.ref b] w post Wf px Wx) (hpe : List.Perm w0 w) (q0 : Nat) (he : w[q0]? = some (b, .inr (12, fs))) {Post : Int32 → T → Prop} {Wg : T → va_W} (hr : ∀ r u, post r u → ∃ t, Post r t ∧ List.Perm (Wf u) (Wg t)) (hx : ∀ k1, px k1 → (k1 = 5) ∧ ∃ t, Post (if k1 = 5 then (-13) else 0) t ∧ List.Perm (Wx k1) (Wg t)) : HI l G yL_bestSell cL_bestSell 2 [(0, 4, 5, 46)] (d + 1) k z [.ref b] w0 Post Wg := by
  refine mh_of hF (by decide) (Nat.le_of_ble_eq_true rfl) ?_
  intro p e s m below meth c C htab ls hl H locs hw
  have hl : lv_has ls 2 [(0, .ref b)] := hl
  obtain ⟨bb, hb, -⟩ := id C.2.2.2.2.2.2.2.2.2.2.2.2
  refine lv_aload_n C.1 C.2.1 dL_bestSell_0 rfl (lv_at hl 0 rfl) ?_
  refine y_vi C (hw.perm hpe) hM ml_L_95 yf_X11_bestSell q0 he rfl (As := []) rfl rfl ⟨Nat.le_refl _, by show 8 + (1 + 11) + 64 * d ≤ 64 * (d + 1); omega⟩ ⟨Nat.le_of_eq (Nat.zero_add _), Nat.le_of_eq (Nat.zero_add _)⟩ hl.1 (Nat.le_of_ble_eq_true rfl) dL_bestSell_1 (fun k1 q ce H locs hp hw hc1 hc2 hc3 => ?_) (fun r u H locs hp hw => ?_)
  · obtain ⟨hk, t, ht, hpm⟩ := hx k1 hp
    replace hw := hw.perm hpm
    subst hk
    refine vx_catch (own := RL) (name := "java/util/NoSuchElementException") (E := "java/util/NoSuchElementException") C.2.2.2.2.1 (tableOf []) { startPc := 0, endPc := 4, handlerPc := 5, catchType := 46 } (tableOf []) htab (fun z hz => nomatch hz) (by decide) (by decide) (C.2.2.2.2.2.1 _ cl_L_46) (fw_mv C rfl rfl (hb _ (tb2 _ (List.mem_of_getElem? (i := 220) rfl)))) hc1 hc2 hc3 ?_
    refine lv_astore_n (lv' := [(1, .ref q), (0, .ref b)]) C.1 C.2.1 dL_bestSell_5 rfl hl (by decide) rfl (fun ls hl => ?_)
    refine lv_bipush (v := -13) C.1 C.2.1 dL_bestSell_6 (by decide) ?_
    exact r_iret C hw rfl rfl t ht rfl (Nat.le_of_eq (Nat.zero_add _)) (Nat.le_of_eq (Nat.zero_add _)) dL_bestSell_8
  · obtain ⟨t, ht, hpm⟩ := hr r u hp
    replace hw := hw.perm hpm
    exact r_iret C hw rfl rfl t ht rfl (Nat.le_of_eq (Nat.zero_add _)) (Nat.le_of_eq (Nat.zero_add _)) dL_bestSell_4
set_option maxHeartbeats 4000000 in
set_option maxRecDepth 100000 in
theorem w_spread {l : Launch} {G : Gx} (hF : SF l G) {S T : Type} {d k z : Nat} {post : Int32 → S → Prop} {Wf : S → va_W} {px : Nat → Prop} {Wx : Nat → va_W} {b : Nat} {fs : List Value} {w0 w : va_W} (hM : XI l G yX11_spread cX11_spread 1 .int d k z [.ref b] w post Wf px Wx) (hpe : List.Perm w0 w) (q0 : Nat) (he : w[q0]? = some (b, .inr (12, fs))) {Post : Int32 → T → Prop} {Wg : T → va_W} (hr : ∀ r u, post r u → ∃ t, Post r t ∧ List.Perm (Wf u) (Wg t)) (hx : ∀ k1, px k1 → (k1 = 5) ∧ ∃ t, Post (if k1 = 5 then (-1300) else 0) t ∧ List.Perm (Wx k1) (Wg t)) : HI l G yL_spread cL_spread 2 [(0, 4, 5, 46)] (d + 1) k z [.ref b] w0 Post Wg := by
  refine mh_of hF (by decide) (Nat.le_of_ble_eq_true rfl) ?_
  intro p e s m below meth c C htab ls hl H locs hw
  have hl : lv_has ls 2 [(0, .ref b)] := hl
  obtain ⟨bb, hb, -⟩ := id C.2.2.2.2.2.2.2.2.2.2.2.2
  refine lv_aload_n C.1 C.2.1 dL_spread_0 rfl (lv_at hl 0 rfl) ?_
  refine y_vi C (hw.perm hpe) hM ml_L_98 yf_X11_spread q0 he rfl (As := []) rfl rfl ⟨Nat.le_refl _, by show 8 + (1 + 11) + 64 * d ≤ 64 * (d + 1); omega⟩ ⟨Nat.le_of_eq (Nat.zero_add _), Nat.le_of_eq (Nat.zero_add _)⟩ hl.1 (Nat.le_of_ble_eq_true rfl) dL_spread_1 (fun k1 q ce H locs hp hw hc1 hc2 hc3 => ?_) (fun r u H locs hp hw => ?_)
  · obtain ⟨hk, t, ht, hpm⟩ := hx k1 hp
    replace hw := hw.perm hpm
    subst hk
    refine vx_catch (own := RL) (name := "java/util/NoSuchElementException") (E := "java/util/NoSuchElementException") C.2.2.2.2.1 (tableOf []) { startPc := 0, endPc := 4, handlerPc := 5, catchType := 46 } (tableOf []) htab (fun z hz => nomatch hz) (by decide) (by decide) (C.2.2.2.2.2.1 _ cl_L_46) (fw_mv C rfl rfl (hb _ (tb2 _ (List.mem_of_getElem? (i := 220) rfl)))) hc1 hc2 hc3 ?_
    refine lv_astore_n (lv' := [(1, .ref q), (0, .ref b)]) C.1 C.2.1 dL_spread_5 rfl hl (by decide) rfl (fun ls hl => ?_)
    refine lv_sipush (v := -1300) C.1 C.2.1 dL_spread_6 (by decide) ?_
    exact r_iret C hw rfl rfl t ht rfl (Nat.le_of_eq (Nat.zero_add _)) (Nat.le_of_eq (Nat.zero_add _)) dL_spread_9
  · obtain ⟨t, ht, hpm⟩ := hr r u hp
    replace hw := hw.perm hpm
    exact r_iret C hw rfl rfl t ht rfl (Nat.le_of_eq (Nat.zero_add _)) (Nat.le_of_eq (Nat.zero_add _)) dL_spread_4
set_option maxHeartbeats 4000000 in
set_option maxRecDepth 100000 in
theorem w_spreadBySums {l : Launch} {G : Gx} (hF : SF l G) {S T : Type} {d k z : Nat} {post : Int32 → S → Prop} {Wf : S → va_W} {px : Nat → Prop} {Wx : Nat → va_W} {b : Nat} {fs : List Value} {w0 w : va_W} (hM : XI l G yX11_spreadBySums cX11_spreadBySums 1 .int d k z [.ref b] w post Wf px Wx) (hpe : List.Perm w0 w) (q0 : Nat) (he : w[q0]? = some (b, .inr (12, fs))) {Post : Int32 → T → Prop} {Wg : T → va_W} (hr : ∀ r u, post r u → ∃ t, Post r t ∧ List.Perm (Wf u) (Wg t)) (hx : ∀ k1, px k1 → (k1 = 5) ∧ ∃ t, Post (if k1 = 5 then (-1300) else 0) t ∧ List.Perm (Wx k1) (Wg t)) : HI l G yL_spreadBySums cL_spreadBySums 2 [(0, 4, 5, 46)] (d + 1) k z [.ref b] w0 Post Wg := by
  refine mh_of hF (by decide) (Nat.le_of_ble_eq_true rfl) ?_
  intro p e s m below meth c C htab ls hl H locs hw
  have hl : lv_has ls 2 [(0, .ref b)] := hl
  obtain ⟨bb, hb, -⟩ := id C.2.2.2.2.2.2.2.2.2.2.2.2
  refine lv_aload_n C.1 C.2.1 dL_spreadBySums_0 rfl (lv_at hl 0 rfl) ?_
  refine y_vi C (hw.perm hpe) hM ml_L_101 yf_X11_spreadBySums q0 he rfl (As := []) rfl rfl ⟨Nat.le_refl _, by show 8 + (1 + 11) + 64 * d ≤ 64 * (d + 1); omega⟩ ⟨Nat.le_of_eq (Nat.zero_add _), Nat.le_of_eq (Nat.zero_add _)⟩ hl.1 (Nat.le_of_ble_eq_true rfl) dL_spreadBySums_1 (fun k1 q ce H locs hp hw hc1 hc2 hc3 => ?_) (fun r u H locs hp hw => ?_)
  · obtain ⟨hk, t, ht, hpm⟩ := hx k1 hp
    replace hw := hw.perm hpm
    subst hk
    refine vx_catch (own := RL) (name := "java/util/NoSuchElementException") (E := "java/util/NoSuchElementException") C.2.2.2.2.1 (tableOf []) { startPc := 0, endPc := 4, handlerPc := 5, catchType := 46 } (tableOf []) htab (fun z hz => nomatch hz) (by decide) (by decide) (C.2.2.2.2.2.1 _ cl_L_46) (fw_mv C rfl rfl (hb _ (tb2 _ (List.mem_of_getElem? (i := 220) rfl)))) hc1 hc2 hc3 ?_
    refine lv_astore_n (lv' := [(1, .ref q), (0, .ref b)]) C.1 C.2.1 dL_spreadBySums_5 rfl hl (by decide) rfl (fun ls hl => ?_)
    refine lv_sipush (v := -1300) C.1 C.2.1 dL_spreadBySums_6 (by decide) ?_
    exact r_iret C hw rfl rfl t ht rfl (Nat.le_of_eq (Nat.zero_add _)) (Nat.le_of_eq (Nat.zero_add _)) dL_spreadBySums_9
  · obtain ⟨t, ht, hpm⟩ := hr r u hp
    replace hw := hw.perm hpm
    exact r_iret C hw rfl rfl t ht rfl (Nat.le_of_eq (Nat.zero_add _)) (Nat.le_of_eq (Nat.zero_add _)) dL_spreadBySums_4
set_option maxHeartbeats 4000000 in
set_option maxRecDepth 100000 in
theorem w_volumeAt {l : Launch} {G : Gx} (hF : SF l G) {S T : Type} {d k z : Nat} {post : Int32 → S → Prop} {Wf : S → va_W} {px : Nat → Prop} {Wx : Nat → va_W} {b : Nat} {fs : List Value} {w0 w : va_W} {x0 : Int32} (hM : XI l G yX11_volumeAt cX11_volumeAt 2 .int d k z [.ref b, .int x0] w post Wf px Wx) (hpe : List.Perm w0 w) (q0 : Nat) (he : w[q0]? = some (b, .inr (12, fs))) {Post : Int32 → T → Prop} {Wg : T → va_W} (hr : ∀ r u, post r u → ∃ t, Post r t ∧ List.Perm (Wf u) (Wg t)) (hx : ∀ k1, px k1 → (k1 = 2) ∧ ∃ t, Post (if k1 = 2 then (-12) else 0) t ∧ List.Perm (Wx k1) (Wg t)) : HI l G yL_volumeAt cL_volumeAt 3 [(0, 5, 6, 14)] (d + 1) k z [.ref b, .int x0] w0 Post Wg := by
  refine mh_of hF (by decide) (Nat.le_of_ble_eq_true rfl) ?_
  intro p e s m below meth c C htab ls hl H locs hw
  have hl : lv_has ls 3 [(0, .ref b), (1, .int x0)] := hl
  obtain ⟨bb, hb, -⟩ := id C.2.2.2.2.2.2.2.2.2.2.2.2
  refine lv_aload_n C.1 C.2.1 dL_volumeAt_0 rfl (lv_at hl 0 rfl) ?_
  refine lv_iload_n C.1 C.2.1 dL_volumeAt_1 rfl (lv_at hl 1 rfl) ?_
  refine y_vi C (hw.perm hpe) hM ml_L_119 yf_X11_volumeAt q0 he rfl (As := [.int x0]) rfl rfl ⟨Nat.le_refl _, by show 8 + (2 + 11) + 64 * d ≤ 64 * (d + 1); omega⟩ ⟨Nat.le_of_eq (Nat.zero_add _), Nat.le_of_eq (Nat.zero_add _)⟩ hl.1 (Nat.le_of_ble_eq_true rfl) dL_volumeAt_2 (fun k1 q ce H locs hp hw hc1 hc2 hc3 => ?_) (fun r u H locs hp hw => ?_)
  · obtain ⟨hk, t, ht, hpm⟩ := hx k1 hp
    replace hw := hw.perm hpm
    subst hk
    refine vx_catch (own := RL) (name := "java/lang/IllegalArgumentException") (E := "java/lang/IllegalArgumentException") C.2.2.2.2.1 (tableOf []) { startPc := 0, endPc := 5, handlerPc := 6, catchType := 14 } (tableOf []) htab (fun z hz => nomatch hz) (by decide) (by decide) (C.2.2.2.2.2.1 _ cl_L_14) (fw_mv C rfl rfl (hb _ (tb2 _ (List.mem_of_getElem? (i := 167) rfl)))) hc1 hc2 hc3 ?_
    refine lv_astore_n (lv' := [(2, .ref q), (0, .ref b), (1, .int x0)]) C.1 C.2.1 dL_volumeAt_6 rfl hl (by decide) rfl (fun ls hl => ?_)
    refine lv_bipush (v := -12) C.1 C.2.1 dL_volumeAt_7 (by decide) ?_
    exact r_iret C hw rfl rfl t ht rfl (Nat.le_of_eq (Nat.zero_add _)) (Nat.le_of_eq (Nat.zero_add _)) dL_volumeAt_9
  · obtain ⟨t, ht, hpm⟩ := hr r u hp
    replace hw := hw.perm hpm
    exact r_iret C hw rfl rfl t ht rfl (Nat.le_of_eq (Nat.zero_add _)) (Nat.le_of_eq (Nat.zero_add _)) dL_volumeAt_5
set_option maxHeartbeats 4000000 in
set_option maxRecDepth 100000 in
theorem w_lastPrice {l : Launch} {G : Gx} (hF : SF l G) {S T : Type} {d k z : Nat} {post : Int32 → S → Prop} {Wf : S → va_W} {px : Nat → Prop} {Wx : Nat → va_W} {b : Nat} {fs : List Value} {w0 w : va_W} (hM : XI l G yX11_lastPrice cX11_lastPrice 1 .int d k z [.ref b] w post Wf px Wx) (hpe : List.Perm w0 w) (q0 : Nat) (he : w[q0]? = some (b, .inr (12, fs))) {Post : Int32 → T → Prop} {Wg : T → va_W} (hr : ∀ r u, post r u → ∃ t, Post r t ∧ List.Perm (Wf u) (Wg t)) (hx : ∀ k1, px k1 → (k1 = 5) ∧ ∃ t, Post (if k1 = 5 then (-13) else 0) t ∧ List.Perm (Wx k1) (Wg t)) : HI l G yL_lastPrice cL_lastPrice 2 [(0, 4, 5, 46)] (d + 1) k z [.ref b] w0 Post Wg := by
  refine mh_of hF (by decide) (Nat.le_of_ble_eq_true rfl) ?_
  intro p e s m below meth c C htab ls hl H locs hw
  have hl : lv_has ls 2 [(0, .ref b)] := hl
  obtain ⟨bb, hb, -⟩ := id C.2.2.2.2.2.2.2.2.2.2.2.2
  refine lv_aload_n C.1 C.2.1 dL_lastPrice_0 rfl (lv_at hl 0 rfl) ?_
  refine y_vi C (hw.perm hpe) hM ml_L_110 yf_X11_lastPrice q0 he rfl (As := []) rfl rfl ⟨Nat.le_refl _, by show 8 + (1 + 11) + 64 * d ≤ 64 * (d + 1); omega⟩ ⟨Nat.le_of_eq (Nat.zero_add _), Nat.le_of_eq (Nat.zero_add _)⟩ hl.1 (Nat.le_of_ble_eq_true rfl) dL_lastPrice_1 (fun k1 q ce H locs hp hw hc1 hc2 hc3 => ?_) (fun r u H locs hp hw => ?_)
  · obtain ⟨hk, t, ht, hpm⟩ := hx k1 hp
    replace hw := hw.perm hpm
    subst hk
    refine vx_catch (own := RL) (name := "java/util/NoSuchElementException") (E := "java/util/NoSuchElementException") C.2.2.2.2.1 (tableOf []) { startPc := 0, endPc := 4, handlerPc := 5, catchType := 46 } (tableOf []) htab (fun z hz => nomatch hz) (by decide) (by decide) (C.2.2.2.2.2.1 _ cl_L_46) (fw_mv C rfl rfl (hb _ (tb2 _ (List.mem_of_getElem? (i := 220) rfl)))) hc1 hc2 hc3 ?_
    refine lv_astore_n (lv' := [(1, .ref q), (0, .ref b)]) C.1 C.2.1 dL_lastPrice_5 rfl hl (by decide) rfl (fun ls hl => ?_)
    refine lv_bipush (v := -13) C.1 C.2.1 dL_lastPrice_6 (by decide) ?_
    exact r_iret C hw rfl rfl t ht rfl (Nat.le_of_eq (Nat.zero_add _)) (Nat.le_of_eq (Nat.zero_add _)) dL_lastPrice_8
  · obtain ⟨t, ht, hpm⟩ := hr r u hp
    replace hw := hw.perm hpm
    exact r_iret C hw rfl rfl t ht rfl (Nat.le_of_eq (Nat.zero_add _)) (Nat.le_of_eq (Nat.zero_add _)) dL_lastPrice_4
set_option maxHeartbeats 4000000 in
set_option maxRecDepth 100000 in
theorem w_poolPrice {l : Launch} {G : Gx} (hF : SF l G) {S T : Type} {d k z : Nat} {post : Int32 → S → Prop} {Wf : S → va_W} {px : Nat → Prop} {Wx : Nat → va_W} {b : Nat} {fs : List Value} {w0 w : va_W} (hM : XI l G yX11_poolPrice cX11_poolPrice 1 .int d k z [.ref b] w post Wf px Wx) (hpe : List.Perm w0 w) (q0 : Nat) (he : w[q0]? = some (b, .inr (12, fs))) {Post : Int32 → T → Prop} {Wg : T → va_W} (hr : ∀ r u, post r u → ∃ t, Post r t ∧ List.Perm (Wf u) (Wg t)) (hx : ∀ k1, px k1 → (k1 = 5) ∧ ∃ t, Post (if k1 = 5 then (-13) else 0) t ∧ List.Perm (Wx k1) (Wg t)) : HI l G yL_poolPrice cL_poolPrice 2 [(0, 4, 5, 46)] (d + 1) k z [.ref b] w0 Post Wg := by
  refine mh_of hF (by decide) (Nat.le_of_ble_eq_true rfl) ?_
  intro p e s m below meth c C htab ls hl H locs hw
  have hl : lv_has ls 2 [(0, .ref b)] := hl
  obtain ⟨bb, hb, -⟩ := id C.2.2.2.2.2.2.2.2.2.2.2.2
  refine lv_aload_n C.1 C.2.1 dL_poolPrice_0 rfl (lv_at hl 0 rfl) ?_
  refine y_vi C (hw.perm hpe) hM ml_L_113 yf_X11_poolPrice q0 he rfl (As := []) rfl rfl ⟨Nat.le_refl _, by show 8 + (1 + 11) + 64 * d ≤ 64 * (d + 1); omega⟩ ⟨Nat.le_of_eq (Nat.zero_add _), Nat.le_of_eq (Nat.zero_add _)⟩ hl.1 (Nat.le_of_ble_eq_true rfl) dL_poolPrice_1 (fun k1 q ce H locs hp hw hc1 hc2 hc3 => ?_) (fun r u H locs hp hw => ?_)
  · obtain ⟨hk, t, ht, hpm⟩ := hx k1 hp
    replace hw := hw.perm hpm
    subst hk
    refine vx_catch (own := RL) (name := "java/util/NoSuchElementException") (E := "java/util/NoSuchElementException") C.2.2.2.2.1 (tableOf []) { startPc := 0, endPc := 4, handlerPc := 5, catchType := 46 } (tableOf []) htab (fun z hz => nomatch hz) (by decide) (by decide) (C.2.2.2.2.2.1 _ cl_L_46) (fw_mv C rfl rfl (hb _ (tb2 _ (List.mem_of_getElem? (i := 220) rfl)))) hc1 hc2 hc3 ?_
    refine lv_astore_n (lv' := [(1, .ref q), (0, .ref b)]) C.1 C.2.1 dL_poolPrice_5 rfl hl (by decide) rfl (fun ls hl => ?_)
    refine lv_bipush (v := -13) C.1 C.2.1 dL_poolPrice_6 (by decide) ?_
    exact r_iret C hw rfl rfl t ht rfl (Nat.le_of_eq (Nat.zero_add _)) (Nat.le_of_eq (Nat.zero_add _)) dL_poolPrice_8
  · obtain ⟨t, ht, hpm⟩ := hr r u hp
    replace hw := hw.perm hpm
    exact r_iret C hw rfl rfl t ht rfl (Nat.le_of_eq (Nat.zero_add _)) (Nat.le_of_eq (Nat.zero_add _)) dL_poolPrice_4
set_option maxHeartbeats 4000000 in
set_option maxRecDepth 100000 in
theorem w_poolBySums {l : Launch} {G : Gx} (hF : SF l G) {S T : Type} {d k z : Nat} {post : Int32 → S → Prop} {Wf : S → va_W} {px : Nat → Prop} {Wx : Nat → va_W} {b : Nat} {fs : List Value} {w0 w : va_W} (hM : XI l G yX11_poolPriceBySums cX11_poolPriceBySums 1 .int d k z [.ref b] w post Wf px Wx) (hpe : List.Perm w0 w) (q0 : Nat) (he : w[q0]? = some (b, .inr (12, fs))) {Post : Int32 → T → Prop} {Wg : T → va_W} (hr : ∀ r u, post r u → ∃ t, Post r t ∧ List.Perm (Wf u) (Wg t)) (hx : ∀ k1, px k1 → (k1 = 5) ∧ ∃ t, Post (if k1 = 5 then (-13) else 0) t ∧ List.Perm (Wx k1) (Wg t)) : HI l G yL_poolBySums cL_poolBySums 2 [(0, 4, 5, 46)] (d + 1) k z [.ref b] w0 Post Wg := by
  refine mh_of hF (by decide) (Nat.le_of_ble_eq_true rfl) ?_
  intro p e s m below meth c C htab ls hl H locs hw
  have hl : lv_has ls 2 [(0, .ref b)] := hl
  obtain ⟨bb, hb, -⟩ := id C.2.2.2.2.2.2.2.2.2.2.2.2
  refine lv_aload_n C.1 C.2.1 dL_poolBySums_0 rfl (lv_at hl 0 rfl) ?_
  refine y_vi C (hw.perm hpe) hM ml_L_116 yf_X11_poolPriceBySums q0 he rfl (As := []) rfl rfl ⟨Nat.le_refl _, by show 8 + (1 + 11) + 64 * d ≤ 64 * (d + 1); omega⟩ ⟨Nat.le_of_eq (Nat.zero_add _), Nat.le_of_eq (Nat.zero_add _)⟩ hl.1 (Nat.le_of_ble_eq_true rfl) dL_poolBySums_1 (fun k1 q ce H locs hp hw hc1 hc2 hc3 => ?_) (fun r u H locs hp hw => ?_)
  · obtain ⟨hk, t, ht, hpm⟩ := hx k1 hp
    replace hw := hw.perm hpm
    subst hk
    refine vx_catch (own := RL) (name := "java/util/NoSuchElementException") (E := "java/util/NoSuchElementException") C.2.2.2.2.1 (tableOf []) { startPc := 0, endPc := 4, handlerPc := 5, catchType := 46 } (tableOf []) htab (fun z hz => nomatch hz) (by decide) (by decide) (C.2.2.2.2.2.1 _ cl_L_46) (fw_mv C rfl rfl (hb _ (tb2 _ (List.mem_of_getElem? (i := 220) rfl)))) hc1 hc2 hc3 ?_
    refine lv_astore_n (lv' := [(1, .ref q), (0, .ref b)]) C.1 C.2.1 dL_poolBySums_5 rfl hl (by decide) rfl (fun ls hl => ?_)
    refine lv_bipush (v := -13) C.1 C.2.1 dL_poolBySums_6 (by decide) ?_
    exact r_iret C hw rfl rfl t ht rfl (Nat.le_of_eq (Nat.zero_add _)) (Nat.le_of_eq (Nat.zero_add _)) dL_poolBySums_8
  · obtain ⟨t, ht, hpm⟩ := hr r u hp
    replace hw := hw.perm hpm
    exact r_iret C hw rfl rfl t ht rfl (Nat.le_of_eq (Nat.zero_add _)) (Nat.le_of_eq (Nat.zero_add _)) dL_poolBySums_4
set_option maxHeartbeats 4000000 in
set_option maxRecDepth 100000 in
theorem w_writeOrder {l : Launch} {G : Gx} (hF : SF l G) {S T : Type} {d k z : Nat} {post : Int32 → S → Prop} {Wf : S → va_W} {px : Nat → Prop} {Wx : Nat → va_W} {b : Nat} {fs : List Value} {w0 w : va_W} {x0 : Int32} (hM : XI l G yX11_writeOrder cX11_writeOrder 3 .int d k z [.ref b, .int x0] w post Wf px Wx) (hpe : List.Perm w0 w) (q0 : Nat) (he : w[q0]? = some (b, .inr (12, fs))) {Post : Int32 → T → Prop} {Wg : T → va_W} (hr : ∀ r u, post r u → ∃ t, Post r t ∧ List.Perm (Wf u) (Wg t)) (hx : ∀ k1, px k1 → (k1 = 5) ∧ ∃ t, Post (if k1 = 5 then (-13) else 0) t ∧ List.Perm (Wx k1) (Wg t)) : HI l G yL_writeOrder cL_writeOrder 3 [(0, 5, 6, 46)] (d + 1) k z [.ref b, .int x0] w0 Post Wg := by
  refine mh_of hF (by decide) (Nat.le_of_ble_eq_true rfl) ?_
  intro p e s m below meth c C htab ls hl H locs hw
  have hl : lv_has ls 3 [(0, .ref b), (1, .int x0)] := hl
  obtain ⟨bb, hb, -⟩ := id C.2.2.2.2.2.2.2.2.2.2.2.2
  refine lv_aload_n C.1 C.2.1 dL_writeOrder_0 rfl (lv_at hl 0 rfl) ?_
  refine lv_iload_n C.1 C.2.1 dL_writeOrder_1 rfl (lv_at hl 1 rfl) ?_
  refine y_vi C (hw.perm hpe) hM ml_L_122 yf_X11_writeOrder q0 he rfl (As := [.int x0]) rfl rfl ⟨Nat.le_refl _, by show 8 + (3 + 11) + 64 * d ≤ 64 * (d + 1); omega⟩ ⟨Nat.le_of_eq (Nat.zero_add _), Nat.le_of_eq (Nat.zero_add _)⟩ hl.1 (Nat.le_of_ble_eq_true rfl) dL_writeOrder_2 (fun k1 q ce H locs hp hw hc1 hc2 hc3 => ?_) (fun r u H locs hp hw => ?_)
  · obtain ⟨hk, t, ht, hpm⟩ := hx k1 hp
    replace hw := hw.perm hpm
    subst hk
    refine vx_catch (own := RL) (name := "java/util/NoSuchElementException") (E := "java/util/NoSuchElementException") C.2.2.2.2.1 (tableOf []) { startPc := 0, endPc := 5, handlerPc := 6, catchType := 46 } (tableOf []) htab (fun z hz => nomatch hz) (by decide) (by decide) (C.2.2.2.2.2.1 _ cl_L_46) (fw_mv C rfl rfl (hb _ (tb2 _ (List.mem_of_getElem? (i := 220) rfl)))) hc1 hc2 hc3 ?_
    refine lv_astore_n (lv' := [(2, .ref q), (0, .ref b), (1, .int x0)]) C.1 C.2.1 dL_writeOrder_6 rfl hl (by decide) rfl (fun ls hl => ?_)
    refine lv_bipush (v := -13) C.1 C.2.1 dL_writeOrder_7 (by decide) ?_
    exact r_iret C hw rfl rfl t ht rfl (Nat.le_of_eq (Nat.zero_add _)) (Nat.le_of_eq (Nat.zero_add _)) dL_writeOrder_9
  · obtain ⟨t, ht, hpm⟩ := hr r u hp
    replace hw := hw.perm hpm
    exact r_iret C hw rfl rfl t ht rfl (Nat.le_of_eq (Nat.zero_add _)) (Nat.le_of_eq (Nat.zero_add _)) dL_writeOrder_5
set_option maxHeartbeats 4000000 in
set_option maxRecDepth 100000 in
theorem w_lineAt {l : Launch} {G : Gx} (hF : SF l G) {S T : Type} {d k z : Nat} {post : Int32 → S → Prop} {Wf : S → va_W} {px : Nat → Prop} {Wx : Nat → va_W} {b : Nat} {fs : List Value} {w0 w : va_W} {x0 : Int32} (hM : XI l G yX11_lineAt cX11_lineAt 2 .char d k z [.ref b, .int x0] w post Wf px Wx) (hpe : List.Perm w0 w) (q0 : Nat) (he : w[q0]? = some (b, .inr (12, fs))) {Post : Int32 → T → Prop} {Wg : T → va_W} (hr : ∀ r u, post r u → ∃ t, Post r t ∧ List.Perm (Wf u) (Wg t)) (hx : ∀ k1, px k1 → (k1 = 1) ∧ ∃ t, Post (if k1 = 1 then (-11) else 0) t ∧ List.Perm (Wx k1) (Wg t)) : HI l G yL_lineAt cL_lineAt 3 [(0, 5, 6, 22)] (d + 1) k z [.ref b, .int x0] w0 Post Wg := by
  refine mh_of hF (by decide) (Nat.le_of_ble_eq_true rfl) ?_
  intro p e s m below meth c C htab ls hl H locs hw
  have hl : lv_has ls 3 [(0, .ref b), (1, .int x0)] := hl
  obtain ⟨bb, hb, -⟩ := id C.2.2.2.2.2.2.2.2.2.2.2.2
  refine lv_aload_n C.1 C.2.1 dL_lineAt_0 rfl (lv_at hl 0 rfl) ?_
  refine lv_iload_n C.1 C.2.1 dL_lineAt_1 rfl (lv_at hl 1 rfl) ?_
  refine y_vi C (hw.perm hpe) hM ml_L_125 yf_X11_lineAt q0 he rfl (As := [.int x0]) rfl rfl ⟨Nat.le_refl _, by show 8 + (2 + 11) + 64 * d ≤ 64 * (d + 1); omega⟩ ⟨Nat.le_of_eq (Nat.zero_add _), Nat.le_of_eq (Nat.zero_add _)⟩ hl.1 (Nat.le_of_ble_eq_true rfl) dL_lineAt_2 (fun k1 q ce H locs hp hw hc1 hc2 hc3 => ?_) (fun r u H locs hp hw => ?_)
  · obtain ⟨hk, t, ht, hpm⟩ := hx k1 hp
    replace hw := hw.perm hpm
    subst hk
    refine vx_catch (own := RL) (name := "java/lang/IndexOutOfBoundsException") (E := "java/lang/IndexOutOfBoundsException") C.2.2.2.2.1 (tableOf []) { startPc := 0, endPc := 5, handlerPc := 6, catchType := 22 } (tableOf []) htab (fun z hz => nomatch hz) (by decide) (by decide) (C.2.2.2.2.2.1 _ cl_L_22) (fw_mv C rfl rfl (hb _ (tb2 _ (List.mem_of_getElem? (i := 94) rfl)))) hc1 hc2 hc3 ?_
    refine lv_astore_n (lv' := [(2, .ref q), (0, .ref b), (1, .int x0)]) C.1 C.2.1 dL_lineAt_6 rfl hl (by decide) rfl (fun ls hl => ?_)
    refine lv_bipush (v := -11) C.1 C.2.1 dL_lineAt_7 (by decide) ?_
    exact r_iret C hw rfl rfl t ht rfl (Nat.le_of_eq (Nat.zero_add _)) (Nat.le_of_eq (Nat.zero_add _)) dL_lineAt_9
  · obtain ⟨t, ht, hpm⟩ := hr r u hp
    replace hw := hw.perm hpm
    exact r_iret C hw rfl rfl t ht rfl (Nat.le_of_eq (Nat.zero_add _)) (Nat.le_of_eq (Nat.zero_add _)) dL_lineAt_5
set_option maxHeartbeats 4000000 in
set_option maxRecDepth 100000 in
theorem w_cancel {l : Launch} {G : Gx} (hF : SF l G) {S T : Type} {d k z : Nat} {post : Int32 → S → Prop} {Wf : S → va_W} {px : Nat → Prop} {Wx : Nat → va_W} {b : Nat} {fs : List Value} {w0 w : va_W} {x0 : Int32} (hM : XI l G yX11_cancel cX11_cancel 2 .int d k z [.ref b, .int x0] w post Wf px Wx) (hpe : List.Perm w0 w) (q0 : Nat) (he : w[q0]? = some (b, .inr (12, fs))) {Post : Int32 → T → Prop} {Wg : T → va_W} (hr : ∀ r u, post r u → ∃ t, Post r t ∧ List.Perm (Wf u) (Wg t)) (hx : ∀ k1, px k1 → (k1 = 5) ∧ ∃ t, Post (if k1 = 5 then (-1) else 0) t ∧ List.Perm (Wx k1) (Wg t)) : HI l G yL_cancel cL_cancel 3 [(0, 5, 6, 46)] (d + 1) k z [.ref b, .int x0] w0 Post Wg := by
  refine mh_of hF (by decide) (Nat.le_of_ble_eq_true rfl) ?_
  intro p e s m below meth c C htab ls hl H locs hw
  have hl : lv_has ls 3 [(0, .ref b), (1, .int x0)] := hl
  obtain ⟨bb, hb, -⟩ := id C.2.2.2.2.2.2.2.2.2.2.2.2
  refine lv_aload_n C.1 C.2.1 dL_cancel_0 rfl (lv_at hl 0 rfl) ?_
  refine lv_iload_n C.1 C.2.1 dL_cancel_1 rfl (lv_at hl 1 rfl) ?_
  refine y_vi C (hw.perm hpe) hM ml_L_42 yf_X11_cancel q0 he rfl (As := [.int x0]) rfl rfl ⟨Nat.le_refl _, by show 8 + (2 + 11) + 64 * d ≤ 64 * (d + 1); omega⟩ ⟨Nat.le_of_eq (Nat.zero_add _), Nat.le_of_eq (Nat.zero_add _)⟩ hl.1 (Nat.le_of_ble_eq_true rfl) dL_cancel_2 (fun k1 q ce H locs hp hw hc1 hc2 hc3 => ?_) (fun r u H locs hp hw => ?_)
  · obtain ⟨hk, t, ht, hpm⟩ := hx k1 hp
    replace hw := hw.perm hpm
    subst hk
    refine vx_catch (own := RL) (name := "java/util/NoSuchElementException") (E := "java/util/NoSuchElementException") C.2.2.2.2.1 (tableOf []) { startPc := 0, endPc := 5, handlerPc := 6, catchType := 46 } (tableOf []) htab (fun z hz => nomatch hz) (by decide) (by decide) (C.2.2.2.2.2.1 _ cl_L_46) (fw_mv C rfl rfl (hb _ (tb2 _ (List.mem_of_getElem? (i := 220) rfl)))) hc1 hc2 hc3 ?_
    refine lv_astore_n (lv' := [(2, .ref q), (0, .ref b), (1, .int x0)]) C.1 C.2.1 dL_cancel_6 rfl hl (by decide) rfl (fun ls hl => ?_)
    refine lv_iconst (v := -1) C.1 C.2.1 dL_cancel_7 (by decide) ?_
    exact r_iret C hw rfl rfl t ht rfl (Nat.le_of_eq (Nat.zero_add _)) (Nat.le_of_eq (Nat.zero_add _)) dL_cancel_8
  · obtain ⟨t, ht, hpm⟩ := hr r u hp
    replace hw := hw.perm hpm
    exact r_iret C hw rfl rfl t ht rfl (Nat.le_of_eq (Nat.zero_add _)) (Nat.le_of_eq (Nat.zero_add _)) dL_cancel_5
set_option maxHeartbeats 4000000 in
set_option maxRecDepth 100000 in
theorem w_type {l : Launch} {G : Gx} (hF : SF l G) {S T : Type} {d k z : Nat} {post : Int32 → S → Prop} {Wf : S → va_W} {px : Nat → Prop} {Wx : Nat → va_W} {b : Nat} {fs : List Value} {w0 w : va_W} {x0 : Int32} (hM : XI l G yX11_type cX11_type 2 .int d k z [.ref b, .int x0] w post Wf px Wx) (hpe : List.Perm w0 w) (q0 : Nat) (he : w[q0]? = some (b, .inr (12, fs))) {Post : Int32 → T → Prop} {Wg : T → va_W} (hr : ∀ r u, post r u → ∃ t, Post r t ∧ List.Perm (Wf u) (Wg t)) (hx : ∀ k1, px k1 → (k1 = 2 ∨ k1 = 3) ∧ ∃ t, Post (if k1 = 2 then (-12) else (if k1 = 3 then (-14) else 0)) t ∧ List.Perm (Wx k1) (Wg t)) : HI l G yL_type cL_type 3 [(0, 5, 6, 14), (0, 5, 10, 16)] (d + 1) k z [.ref b, .int x0] w0 Post Wg := by
  refine mh_of hF (by decide) (Nat.le_of_ble_eq_true rfl) ?_
  intro p e s m below meth c C htab ls hl H locs hw
  have hl : lv_has ls 3 [(0, .ref b), (1, .int x0)] := hl
  obtain ⟨bb, hb, -⟩ := id C.2.2.2.2.2.2.2.2.2.2.2.2
  refine lv_aload_n C.1 C.2.1 dL_type_0 rfl (lv_at hl 0 rfl) ?_
  refine lv_iload_n C.1 C.2.1 dL_type_1 rfl (lv_at hl 1 rfl) ?_
  refine y_vi C (hw.perm hpe) hM ml_L_129 yf_X11_type q0 he rfl (As := [.int x0]) rfl rfl ⟨Nat.le_refl _, by show 8 + (2 + 11) + 64 * d ≤ 64 * (d + 1); omega⟩ ⟨Nat.le_of_eq (Nat.zero_add _), Nat.le_of_eq (Nat.zero_add _)⟩ hl.1 (Nat.le_of_ble_eq_true rfl) dL_type_2 (fun k1 q ce H locs hp hw hc1 hc2 hc3 => ?_) (fun r u H locs hp hw => ?_)
  · obtain ⟨hk, t, ht, hpm⟩ := hx k1 hp
    replace hw := hw.perm hpm
    rcases hk with rfl | rfl
    · refine vx_catch (own := RL) (name := "java/lang/IllegalArgumentException") (E := "java/lang/IllegalArgumentException") C.2.2.2.2.1 (tableOf []) { startPc := 0, endPc := 5, handlerPc := 6, catchType := 14 } (tableOf [(0, 5, 10, 16)]) htab (fun z hz => nomatch hz) (by decide) (by decide) (C.2.2.2.2.2.1 _ cl_L_14) (fw_mv C rfl rfl (hb _ (tb2 _ (List.mem_of_getElem? (i := 167) rfl)))) hc1 hc2 hc3 ?_
      refine lv_astore_n (lv' := [(2, .ref q), (0, .ref b), (1, .int x0)]) C.1 C.2.1 dL_type_6 rfl hl (by decide) rfl (fun ls hl => ?_)
      refine lv_bipush (v := -12) C.1 C.2.1 dL_type_7 (by decide) ?_
      exact r_iret C hw rfl rfl t ht rfl (Nat.le_of_eq (Nat.zero_add _)) (Nat.le_of_eq (Nat.zero_add _)) dL_type_9
    · refine vx_catch (own := RL) (name := "java/lang/IllegalStateException") (E := "java/lang/IllegalStateException") C.2.2.2.2.1 (tableOf [(0, 5, 6, 14)]) { startPc := 0, endPc := 5, handlerPc := 10, catchType := 16 } (tableOf []) htab (List.forall_mem_cons.mpr ⟨Or.inr ⟨by decide, _, C.2.2.2.2.2.1 _ cl_L_14, (SF.nc_3_2 hF).moved C.2.2.2.2.2.2.2.1.alike⟩, (fun z hz => nomatch hz)⟩) (by decide) (by decide) (C.2.2.2.2.2.1 _ cl_L_16) (fw_mv C rfl rfl (hb _ (tb2 _ (List.mem_of_getElem? (i := 184) rfl)))) hc1 hc2 hc3 ?_
      refine lv_astore_n (lv' := [(2, .ref q), (0, .ref b), (1, .int x0)]) C.1 C.2.1 dL_type_10 rfl hl (by decide) rfl (fun ls hl => ?_)
      refine lv_bipush (v := -14) C.1 C.2.1 dL_type_11 (by decide) ?_
      exact r_iret C hw rfl rfl t ht rfl (Nat.le_of_eq (Nat.zero_add _)) (Nat.le_of_eq (Nat.zero_add _)) dL_type_13
  · obtain ⟨t, ht, hpm⟩ := hr r u hp
    replace hw := hw.perm hpm
    exact r_iret C hw rfl rfl t ht rfl (Nat.le_of_eq (Nat.zero_add _)) (Nat.le_of_eq (Nat.zero_add _)) dL_type_5
set_option maxHeartbeats 4000000 in
set_option maxRecDepth 100000 in
theorem w_executes {l : Launch} {G : Gx} (hF : SF l G) {S T : Type} {d k z : Nat} {post : Int32 → S → Prop} {Wf : S → va_W} {px : Nat × (Nat × Nat × (Nat → Int32) × Int32) → Prop} {Wx : Nat × (Nat × Nat × (Nat → Int32) × Int32) → va_W} {b : Nat} {fs : List Value} {w0 w : va_W} (hM : vx_Met l yX11_execute (wy yX11_execute cX11_execute 3 (some .int)) (rmD d k z) (va_Pc [.ref b] (Inv G w)) (va_Qi post (fun u t => Inv G (Wf u) t) (gA G)) (XQ2 G px Wx) k z (gA G)) (hpe : List.Perm w0 w) (q0 : Nat) (he : w[q0]? = some (b, .inr (12, fs))) {Post : Int32 → T → Prop} {Wg : T → va_W} (hr : ∀ r u, post r u → ∃ t, Post r t ∧ List.Perm (Wf u) (Wg t)) (hx : ∀ k1, px k1 → (k1.1 = 2 ∨ k1.1 = 3) ∧ ∃ t, Post (if k1.1 = 2 then (-1) else (if k1.1 = 3 then (-2) else 0)) t ∧ List.Perm (Wx k1) (Wg t)) : HI l G yL_executes cL_executes 2 [(0, 4, 5, 14), (0, 4, 8, 16)] (d + 1) k z [.ref b] w0 Post Wg := by
  refine mh_of hF (by decide) (Nat.le_of_ble_eq_true rfl) ?_
  intro p e s m below meth c C htab ls hl H locs hw
  have hl : lv_has ls 2 [(0, .ref b)] := hl
  obtain ⟨bb, hb, -⟩ := id C.2.2.2.2.2.2.2.2.2.2.2.2
  refine lv_aload_n C.1 C.2.1 dL_executes_0 rfl (lv_at hl 0 rfl) ?_
  refine y_vi2 C (hw.perm hpe) hM ml_L_133 yf_X11_execute q0 he rfl (As := []) rfl rfl ⟨Nat.le_refl _, by show 8 + (3 + 11) + 64 * d ≤ 64 * (d + 1); omega⟩ ⟨Nat.le_of_eq (Nat.zero_add _), Nat.le_of_eq (Nat.zero_add _)⟩ hl.1 (Nat.le_of_ble_eq_true rfl) dL_executes_1 (fun k1 q ce H locs hp hw hc1 hc2 hc3 => ?_) (fun r u H locs hp hw => ?_)
  · obtain ⟨hk, t, ht, hpm⟩ := hx k1 hp
    replace hw := hw.perm hpm
    obtain ⟨k0, k2⟩ := k1
    dsimp only at hk hc3
    rcases hk with rfl | rfl
    · refine vx_catch (own := RL) (name := "java/lang/IllegalArgumentException") (E := "java/lang/IllegalArgumentException") C.2.2.2.2.1 (tableOf []) { startPc := 0, endPc := 4, handlerPc := 5, catchType := 14 } (tableOf [(0, 4, 8, 16)]) htab (fun z hz => nomatch hz) (by decide) (by decide) (C.2.2.2.2.2.1 _ cl_L_14) (fw_mv C rfl rfl (hb _ (tb2 _ (List.mem_of_getElem? (i := 167) rfl)))) hc1 hc2 hc3 ?_
      refine lv_astore_n (lv' := [(1, .ref q), (0, .ref b)]) C.1 C.2.1 dL_executes_5 rfl hl (by decide) rfl (fun ls hl => ?_)
      refine lv_iconst (v := -1) C.1 C.2.1 dL_executes_6 (by decide) ?_
      exact r_iret C hw rfl rfl t ht rfl (Nat.le_of_eq (Nat.zero_add _)) (Nat.le_of_eq (Nat.zero_add _)) dL_executes_7
    · refine vx_catch (own := RL) (name := "java/lang/IllegalStateException") (E := "java/lang/IllegalStateException") C.2.2.2.2.1 (tableOf [(0, 4, 5, 14)]) { startPc := 0, endPc := 4, handlerPc := 8, catchType := 16 } (tableOf []) htab (List.forall_mem_cons.mpr ⟨Or.inr ⟨by decide, _, C.2.2.2.2.2.1 _ cl_L_14, (SF.nc_3_2 hF).moved C.2.2.2.2.2.2.2.1.alike⟩, (fun z hz => nomatch hz)⟩) (by decide) (by decide) (C.2.2.2.2.2.1 _ cl_L_16) (fw_mv C rfl rfl (hb _ (tb2 _ (List.mem_of_getElem? (i := 184) rfl)))) hc1 hc2 hc3 ?_
      refine lv_astore_n (lv' := [(1, .ref q), (0, .ref b)]) C.1 C.2.1 dL_executes_8 rfl hl (by decide) rfl (fun ls hl => ?_)
      refine lv_bipush (v := -2) C.1 C.2.1 dL_executes_9 (by decide) ?_
      exact r_iret C hw rfl rfl t ht rfl (Nat.le_of_eq (Nat.zero_add _)) (Nat.le_of_eq (Nat.zero_add _)) dL_executes_11
  · obtain ⟨t, ht, hpm⟩ := hr r u hp
    replace hw := hw.perm hpm
    exact r_iret C hw rfl rfl t ht rfl (Nat.le_of_eq (Nat.zero_add _)) (Nat.le_of_eq (Nat.zero_add _)) dL_executes_4
set_option maxHeartbeats 4000000 in
set_option maxRecDepth 100000 in
theorem w_undo {l : Launch} {G : Gx} (hF : SF l G) {S T : Type} {d k z : Nat} {post : Int32 → S → Prop} {Wf : S → va_W} {px : Nat → Prop} {Wx : Nat → va_W} {b : Nat} {fs : List Value} {w0 w : va_W} (hM : XI l G yX11_undo cX11_undo 1 .int d k z [.ref b] w post Wf px Wx) (hpe : List.Perm w0 w) (q0 : Nat) (he : w[q0]? = some (b, .inr (12, fs))) {Post : Int32 → T → Prop} {Wg : T → va_W} (hr : ∀ r u, post r u → ∃ t, Post r t ∧ List.Perm (Wf u) (Wg t)) (hx : ∀ k1, px k1 → (k1 = 3) ∧ ∃ t, Post (if k1 = 3 then (-1) else 0) t ∧ List.Perm (Wx k1) (Wg t)) : HI l G yL_undo cL_undo 2 [(0, 4, 5, 16)] (d + 1) k z [.ref b] w0 Post Wg := by
  refine mh_of hF (by decide) (Nat.le_of_ble_eq_true rfl) ?_
  intro p e s m below meth c C htab ls hl H locs hw
  have hl : lv_has ls 2 [(0, .ref b)] := hl
  obtain ⟨bb, hb, -⟩ := id C.2.2.2.2.2.2.2.2.2.2.2.2
  refine lv_aload_n C.1 C.2.1 dL_undo_0 rfl (lv_at hl 0 rfl) ?_
  refine y_vi C (hw.perm hpe) hM ml_L_142 yf_X11_undo q0 he rfl (As := []) rfl rfl ⟨Nat.le_refl _, by show 8 + (1 + 11) + 64 * d ≤ 64 * (d + 1); omega⟩ ⟨Nat.le_of_eq (Nat.zero_add _), Nat.le_of_eq (Nat.zero_add _)⟩ hl.1 (Nat.le_of_ble_eq_true rfl) dL_undo_1 (fun k1 q ce H locs hp hw hc1 hc2 hc3 => ?_) (fun r u H locs hp hw => ?_)
  · obtain ⟨hk, t, ht, hpm⟩ := hx k1 hp
    replace hw := hw.perm hpm
    subst hk
    refine vx_catch (own := RL) (name := "java/lang/IllegalStateException") (E := "java/lang/IllegalStateException") C.2.2.2.2.1 (tableOf []) { startPc := 0, endPc := 4, handlerPc := 5, catchType := 16 } (tableOf []) htab (fun z hz => nomatch hz) (by decide) (by decide) (C.2.2.2.2.2.1 _ cl_L_16) (fw_mv C rfl rfl (hb _ (tb2 _ (List.mem_of_getElem? (i := 184) rfl)))) hc1 hc2 hc3 ?_
    refine lv_astore_n (lv' := [(1, .ref q), (0, .ref b)]) C.1 C.2.1 dL_undo_5 rfl hl (by decide) rfl (fun ls hl => ?_)
    refine lv_iconst (v := -1) C.1 C.2.1 dL_undo_6 (by decide) ?_
    exact r_iret C hw rfl rfl t ht rfl (Nat.le_of_eq (Nat.zero_add _)) (Nat.le_of_eq (Nat.zero_add _)) dL_undo_7
  · obtain ⟨t, ht, hpm⟩ := hr r u hp
    replace hw := hw.perm hpm
    exact r_iret C hw rfl rfl t ht rfl (Nat.le_of_eq (Nat.zero_add _)) (Nat.le_of_eq (Nat.zero_add _)) dL_undo_4
