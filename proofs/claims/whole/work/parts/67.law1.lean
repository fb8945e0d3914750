/-! The wrappers of the law -/
def wyW (y : MethodName) (cc : ByteArray) (n : Nat) (r : Option FieldType) (hh : List (Nat × Nat × Nat × Nat)) : List Cond := Cond.codeWith y cc n r hh :: LW
def YfW (y : MethodName) (cc : ByteArray) (n : Nat) (hh : List (Nat × Nat × Nat × Nat)) (k : Nat) : Prop := (Cond.static y ∈ LW ∧ Cond.initialized y.cls ∈ LW ∧ Cond.codeWith y cc n (some .int) hh ∈ LW) ∧ (y.cls ≠ "java/lang/invoke/MethodHandle" ∧ y.cls ≠ "java/lang/invoke/VarHandle" ∧ (parseMethodDescriptor y.desc).map (fun d => d.parameters.length) = some k)
abbrev HI (l : Launch) (G : Gx) (y : MethodName) (cc : ByteArray) (n : Nat) (hh : List (Nat × Nat × Nat × Nat)) (d k z : Nat) (av : List Value) (w : va_W) {S : Type} (post : Int32 → S → Prop) (Wf : S → va_W) : Prop := Met l y (wyW y cc n (some .int) hh) (rmD d k z) (va_Pc av (Inv G w)) (va_Qi post (fun u t => Inv G (Wf u) t) (gA G)) k z (gA G)
theorem mh_of {l : Launch} {G : Gx} {y : MethodName} {cc : ByteArray} {maxL : Nat} {ret : Option FieldType} {hh : List (Nat × Nat × Nat × Nat)} {rm : Room} {av : List Value} {w : va_W} {Qc : Array Value → State → Outcome → State → Prop} {mc ms : Nat} {free : Addr → Prop} (hF : SF l G) (hy : plainName y.cls = true) (hn : (lg_sl av).length ≤ maxL)
    (body : ∀ (p : Program) (e : Env) (s : State) (m : MethodId) (below : List Frame) (meth : Method) (c : Code), Cx l G y.cls cc maxL ret p s m meth c av.toArray → c.exceptionTable.toList = tableOf hh → ∀ ls : Array Slot, lv_has ls maxL (lv_args 0 av) → ∀ (H : Heap) (locs : List Loc), WH G s w H locs → W p l e rm s m av.toArray below meth c H locs 0 0 (MQ below Qc av.toArray s mc ms free) (F0 m 0 ls [])) :
    Met l y (wyW y cc maxL ret hh) rm (va_Pc av (Inv G w)) Qc mc ms free := by
  refine va_MetW (cc := cc) (maxL := maxL) (ret := ret) (hh := hh) hy rfl ?_
  intro p e s m args below meth c s₁ B hml hv
  obtain ⟨rfl, hI⟩ := hv
  have hts := atoms_spec (ws := wyW y cc maxL ret hh) B.pre
  have hl := lv_entry av (n := maxL) hn
  rw [lg_entry_eq]
  exact body p e s m below meth c ⟨B.exec, B.bytes, B.returns, hml, findClass_of_methodNamed B.named, fun w h => hts w (List.mem_cons_of_mem _ h), B.notSynchronized, hI.1, hF⟩ (vx_table (x := y) B (hts _ List.mem_cons_self)) _ hl _ _ ⟨hI.2.1, va_S.rf, hI.2.2⟩
section YROWS
variable {p : Program} {l : Launch} {e : Env} {R : Room} {s : State} {m : MethodId} {args : Array Value} {below : List Frame} {meth : Method} {c : Code} {H : Heap} {locs : List Loc} {cells slots : Nat} {Q : State → Prop}
variable {G : Gx} {own : String} {cc : ByteArray} {nL : Nat} {ret : Option FieldType} {pc : Nat} {ls : Array Slot} {rest st : List Value} {w : va_W}
theorem y_vi (C : Cx l G own cc nL ret p s m meth c args) (hw : WH G s w H locs) {y : MethodName} {bytes : ByteArray} {maxL d k z n index : Nat} {As : List Value} {S : Type} {rt : FieldType} {post : Int32 → S → Prop} {Wf : S → va_W} {px : Nat → Prop} {Wx : Nat → va_W} {b ci : Nat} {fs : List Value} (hM : XI l G y bytes maxL rt d k z (.ref b :: As) w post Wf px Wx) (ml : Cond.methodLink own index y ∈ LW) (yf : YfV y bytes maxL (some rt) n) (q0 : Nat) (he : w[q0]? = some (b, .inr (ci, fs))) {T : u_T} {N : Nat} (hci : vwCl[ci]? = some (y.cls, T, N)) (hn : As.length = n) (hst : st = As.reverse ++ .ref b :: rest) (hR : d + 1 ≤ R.frames ∧ 8 + (maxL + 11) + 64 * d ≤ R.locals) (hf : cells + k ≤ R.cells ∧ slots + z ≤ R.slots) (hsz : ls.size = nL) (hrest : (rest.map fun v => v.category).sum ≤ 8) (hdg : decode cc pc = .ok (.invokevirtual index, 3))
    (kx : ∀ (k1 : Nat) (q : Nat) (ce : Cell) (H : Heap) (locs : List Loc), px k1 → WH G s (Wx k1) H locs → H[q]? = some ce → ce.vm = .none → s.vm.findClass (exN k1) = some ce.cls → vx_W p l e R s m args below meth c H locs (cells + k) (slots + z) Q (F0 m pc ls rest) q)
    (kk : ∀ (r : Int32) (u : S) (H : Heap) (locs : List Loc), post r u → WH G s (Wf u) H locs → W p l e R s m args below meth c H locs (cells + k) (slots + z) Q (F0 m (pc + 3) ls (.int r :: rest))) : W p l e R s m args below meth c H locs cells slots Q (F0 m pc ls st) :=
  vx_calli (vx_runV (As := As) (rest := rest) (n := n) ⟨C.1, C.2.1, C.2.2.2.1, C.2.2.2.2.1, C.2.2.2.2.2.1⟩ hM (cwV n C.2.2.2.2.2.1 (gi_V ml yf) rfl rfl rfl ⟨rfl, yf.2⟩ hR) ⟨Inv.blind, va_recv C.K hw.2.2.1 hci he, fun U hU hW => ⟨rfl, hw.inv C hU hW⟩⟩ rfl hn hsz hst (lv_room hrest) hdg hf) hw.2.1 (fun q _ h => h) (fun q h => h) (fun q _ h => h) (fun E ce q9 k1 t H1 locs1 ht hvm hp hB _ _ hS hc1 hc2 hc3 => kx k1 q9 ce H1 locs1 hp ⟨hw.1, hS, ht ▸ hB.2.2.1, hB.2.2.2⟩ hc1 hc2 (hB.1 ▸ hc3)) (fun r u t H1 locs1 ht hvm hp hB _ _ hS => kk r u H1 locs1 hp ⟨hw.1, hS, ht ▸ hB.2.2.1, hB.2.2.2⟩)
theorem y_vd (C : Cx l G own cc nL ret p s m meth c args) (hw : WH G s w H locs) {y : MethodName} {bytes : ByteArray} {maxL d k z n index : Nat} {As : List Value} {S : Type} {rt : FieldType} {post : UInt64 → S → Prop} {Wf : S → va_W} {px : Nat → Prop} {Wx : Nat → va_W} {b ci : Nat} {fs : List Value} (hM : XD l G y bytes maxL d k z (.ref b :: As) w post Wf px Wx) (ml : Cond.methodLink own index y ∈ LW) (yf : YfV y bytes maxL (some .double) n) (q0 : Nat) (he : w[q0]? = some (b, .inr (ci, fs))) {T : u_T} {N : Nat} (hci : vwCl[ci]? = some (y.cls, T, N)) (hn : As.length = n) (hst : st = As.reverse ++ .ref b :: rest) (hR : d + 1 ≤ R.frames ∧ 8 + (maxL + 11) + 64 * d ≤ R.locals) (hf : cells + k ≤ R.cells ∧ slots + z ≤ R.slots) (hsz : ls.size = nL) (hrest : (rest.map fun v => v.category).sum ≤ 8) (hdg : decode cc pc = .ok (.invokevirtual index, 3))
    (kx : ∀ (k1 : Nat) (q : Nat) (ce : Cell) (H : Heap) (locs : List Loc), px k1 → WH G s (Wx k1) H locs → H[q]? = some ce → ce.vm = .none → s.vm.findClass (exN k1) = some ce.cls → vx_W p l e R s m args below meth c H locs (cells + k) (slots + z) Q (F0 m pc ls rest) q)
    (kk : ∀ (r : UInt64) (u : S) (H : Heap) (locs : List Loc), post r u → WH G s (Wf u) H locs → W p l e R s m args below meth c H locs (cells + k) (slots + z) Q (F0 m (pc + 3) ls (.double r :: rest))) : W p l e R s m args below meth c H locs cells slots Q (F0 m pc ls st) :=
  vx_calld (vx_runV (As := As) (rest := rest) (n := n) ⟨C.1, C.2.1, C.2.2.2.1, C.2.2.2.2.1, C.2.2.2.2.2.1⟩ hM (cwV n C.2.2.2.2.2.1 (gi_V ml yf) rfl rfl rfl ⟨rfl, yf.2⟩ hR) ⟨Inv.blind, va_recv C.K hw.2.2.1 hci he, fun U hU hW => ⟨rfl, hw.inv C hU hW⟩⟩ rfl hn hsz hst (lv_room hrest) hdg hf) hw.2.1 (fun q _ h => h) (fun q h => h) (fun q _ h => h) (fun E ce q9 k1 t H1 locs1 ht hvm hp hB _ _ hS hc1 hc2 hc3 => kx k1 q9 ce H1 locs1 hp ⟨hw.1, hS, ht ▸ hB.2.2.1, hB.2.2.2⟩ hc1 hc2 (hB.1 ▸ hc3)) (fun r u t H1 locs1 ht hvm hp hB _ _ hS => kk r u H1 locs1 hp ⟨hw.1, hS, ht ▸ hB.2.2.1, hB.2.2.2⟩)
theorem y_vf (C : Cx l G own cc nL ret p s m meth c args) (hw : WH G s w H locs) {y : MethodName} {bytes : ByteArray} {maxL d k z n index : Nat} {As : List Value} {S : Type} {rt : FieldType} {post : UInt32 → S → Prop} {Wf : S → va_W} {px : Nat → Prop} {Wx : Nat → va_W} {b ci : Nat} {fs : List Value} (hM : XF l G y bytes maxL d k z (.ref b :: As) w post Wf px Wx) (ml : Cond.methodLink own index y ∈ LW) (yf : YfV y bytes maxL (some .float) n) (q0 : Nat) (he : w[q0]? = some (b, .inr (ci, fs))) {T : u_T} {N : Nat} (hci : vwCl[ci]? = some (y.cls, T, N)) (hn : As.length = n) (hst : st = As.reverse ++ .ref b :: rest) (hR : d + 1 ≤ R.frames ∧ 8 + (maxL + 11) + 64 * d ≤ R.locals) (hf : cells + k ≤ R.cells ∧ slots + z ≤ R.slots) (hsz : ls.size = nL) (hrest : (rest.map fun v => v.category).sum ≤ 8) (hdg : decode cc pc = .ok (.invokevirtual index, 3))
    (kx : ∀ (k1 : Nat) (q : Nat) (ce : Cell) (H : Heap) (locs : List Loc), px k1 → WH G s (Wx k1) H locs → H[q]? = some ce → ce.vm = .none → s.vm.findClass (exN k1) = some ce.cls → vx_W p l e R s m args below meth c H locs (cells + k) (slots + z) Q (F0 m pc ls rest) q)
    (kk : ∀ (r : UInt32) (u : S) (H : Heap) (locs : List Loc), post r u → WH G s (Wf u) H locs → W p l e R s m args below meth c H locs (cells + k) (slots + z) Q (F0 m (pc + 3) ls (.float r :: rest))) : W p l e R s m args below meth c H locs cells slots Q (F0 m pc ls st) :=
  vx_callf (vx_runV (As := As) (rest := rest) (n := n) ⟨C.1, C.2.1, C.2.2.2.1, C.2.2.2.2.1, C.2.2.2.2.2.1⟩ hM (cwV n C.2.2.2.2.2.1 (gi_V ml yf) rfl rfl rfl ⟨rfl, yf.2⟩ hR) ⟨Inv.blind, va_recv C.K hw.2.2.1 hci he, fun U hU hW => ⟨rfl, hw.inv C hU hW⟩⟩ rfl hn hsz hst (lv_room hrest) hdg hf) hw.2.1 (fun q _ h => h) (fun q h => h) (fun q _ h => h) (fun E ce q9 k1 t H1 locs1 ht hvm hp hB _ _ hS hc1 hc2 hc3 => kx k1 q9 ce H1 locs1 hp ⟨hw.1, hS, ht ▸ hB.2.2.1, hB.2.2.2⟩ hc1 hc2 (hB.1 ▸ hc3)) (fun r u t H1 locs1 ht hvm hp hB _ _ hS => kk r u H1 locs1 hp ⟨hw.1, hS, ht ▸ hB.2.2.1, hB.2.2.2⟩)
theorem r_last (C : Cx l G own cc nL ret p s m meth c args) (hw : WH G s w H locs) {a n : Nat} {f : Nat → Int64} (q0 : Nat) (he : w[q0]? = some (a, .inl (G.2.2.1 4, n, .inr (.inl f)))) {i : Int32} {x : Int64} (hi : vp_in i n) {w' : va_W} (hw' : w.set q0 (a, .inl (G.2.2.1 4, n, .inr (.inl (vp_updL f i.toNatClampNeg x)))) = w') (hdg : decode cc pc = .ok (.lastore, 1))
    (kk : ∀ (H : Heap) (locs : List Loc), WH G s w' H locs → W p l e R s m args below meth c H locs cells slots Q (F0 m (pc + 1) ls rest)) : W p l e R s m args below meth c H locs cells slots Q (F0 m pc ls (.long x :: .int i :: .ref a :: rest)) :=
  va_last (D := G.1) C.1 C.2.1 C.K hw.2.2.1 hw.2.2.2 hw.2.1 q0 4 he rfl hi hdg (fun H1 locs1 hP hD hS => kk H1 locs1 ⟨hw.1, hS, hw' ▸ hP, hw' ▸ hD⟩)
end YROWS
theorem yf_L_addStall : YfW yL_addStall cL_addStall 5 [(0, 10, 13, 13), (0, 10, 17, 15)] 4 := ⟨⟨lwm (tb4 _ (List.mem_of_getElem? (i := 130) rfl)) rfl, ini_L, lwm (tb4 _ (List.mem_of_getElem? (i := 131) rfl)) rfl⟩, by decide +kernel⟩
theorem yf_L_placeBuy : YfW yL_placeBuy cL_placeBuy 6 [(0, 12, 15, 21), (0, 12, 19, 13), (0, 12, 23, 15), (0, 12, 27, 23)] 5 := ⟨⟨lwm (tb5 _ (List.mem_of_getElem? (i := 9) rfl)) rfl, ini_L, lwm (tb5 _ (List.mem_of_getElem? (i := 10) rfl)) rfl⟩, by decide +kernel⟩
theorem yf_L_placeSell : YfW yL_placeSell cL_placeSell 6 [(0, 12, 15, 21), (0, 12, 19, 13), (0, 12, 23, 15), (0, 12, 27, 23)] 5 := ⟨⟨lwm (tb5 _ (List.mem_of_getElem? (i := 71) rfl)) rfl, ini_L, lwm (tb5 _ (List.mem_of_getElem? (i := 72) rfl)) rfl⟩, by decide +kernel⟩
theorem yf_L_placeBuyFor : YfW yL_placeBuyFor cL_placeBuyFor 7 [(0, 14, 17, 21), (0, 14, 21, 13), (0, 14, 25, 15), (0, 14, 29, 23)] 6 := ⟨⟨lwm (tb5 _ (List.mem_of_getElem? (i := 78) rfl)) rfl, ini_L, lwm (tb5 _ (List.mem_of_getElem? (i := 79) rfl)) rfl⟩, by decide +kernel⟩
theorem yf_L_placeSellFor : YfW yL_placeSellFor cL_placeSellFor 7 [(0, 14, 17, 21), (0, 14, 21, 13), (0, 14, 25, 15), (0, 14, 29, 23)] 6 := ⟨⟨lwm (tb5 _ (List.mem_of_getElem? (i := 86) rfl)) rfl, ini_L, lwm (tb5 _ (List.mem_of_getElem? (i := 87) rfl)) rfl⟩, by decide +kernel⟩
theorem yf_L_takeBuy : YfW yL_takeBuy cL_takeBuy 6 [(0, 12, 15, 21), (0, 12, 19, 13), (0, 12, 23, 15), (0, 12, 27, 23)] 5 := ⟨⟨lwm (tb5 _ (List.mem_of_getElem? (i := 93) rfl)) rfl, ini_L, lwm (tb5 _ (List.mem_of_getElem? (i := 94) rfl)) rfl⟩, by decide +kernel⟩
theorem yf_L_takeSell : YfW yL_takeSell cL_takeSell 6 [(0, 12, 15, 21), (0, 12, 19, 13), (0, 12, 23, 15), (0, 12, 27, 23)] 5 := ⟨⟨lwm (tb5 _ (List.mem_of_getElem? (i := 108) rfl)) rfl, ini_L, lwm (tb5 _ (List.mem_of_getElem? (i := 109) rfl)) rfl⟩, by decide +kernel⟩
theorem yf_L_cancel : YfW yL_cancel cL_cancel 4 [(0, 9, 12, 45)] 3 := ⟨⟨lwm (tb5 _ (List.mem_of_getElem? (i := 115) rfl)) rfl, ini_L, lwm (tb5 _ (List.mem_of_getElem? (i := 116) rfl)) rfl⟩, by decide +kernel⟩
theorem yf_L_pass : YfW yL_pass cL_pass 4 [(0, 9, 12, 13)] 3 := ⟨⟨lwm (tb5 _ (List.mem_of_getElem? (i := 137) rfl)) rfl, ini_L, lwm (tb5 _ (List.mem_of_getElem? (i := 138) rfl)) rfl⟩, by decide +kernel⟩
theorem yf_L_openPool : YfW yL_openPool cL_openPool 3 [(0, 8, 11, 15)] 2 := ⟨⟨lwm (tb5 _ (List.mem_of_getElem? (i := 153) rfl)) rfl, ini_L, lwm (tb5 _ (List.mem_of_getElem? (i := 154) rfl)) rfl⟩, by decide +kernel⟩
theorem yf_L_closePool : YfW yL_closePool cL_closePool 3 [(0, 8, 11, 15)] 2 := ⟨⟨lwm (tb5 _ (List.mem_of_getElem? (i := 168) rfl)) rfl, ini_L, lwm (tb5 _ (List.mem_of_getElem? (i := 169) rfl)) rfl⟩, by decide +kernel⟩
theorem yf_L_moneyOf : YfW yL_moneyOf cL_moneyOf 4 [(0, 9, 12, 21)] 3 := ⟨⟨lwm (tb5 _ (List.mem_of_getElem? (i := 193) rfl)) rfl, ini_L, lwm (tb5 _ (List.mem_of_getElem? (i := 194) rfl)) rfl⟩, by decide +kernel⟩
theorem yf_L_dropsOf : YfW yL_dropsOf cL_dropsOf 4 [(0, 9, 12, 21)] 3 := ⟨⟨lwm (tb5 _ (List.mem_of_getElem? (i := 205) rfl)) rfl, ini_L, lwm (tb5 _ (List.mem_of_getElem? (i := 206) rfl)) rfl⟩, by decide +kernel⟩
theorem yf_L_freeMoneyOf : YfW yL_freeMoneyOf cL_freeMoneyOf 4 [(0, 9, 12, 21)] 3 := ⟨⟨lwm (tb5 _ (List.mem_of_getElem? (i := 212) rfl)) rfl, ini_L, lwm (tb5 _ (List.mem_of_getElem? (i := 213) rfl)) rfl⟩, by decide +kernel⟩
theorem yf_L_freeDropsOf : YfW yL_freeDropsOf cL_freeDropsOf 4 [(0, 9, 12, 21)] 3 := ⟨⟨lwm (tb5 _ (List.mem_of_getElem? (i := 220) rfl)) rfl, ini_L, lwm (tb5 _ (List.mem_of_getElem? (i := 221) rfl)) rfl⟩, by decide +kernel⟩
theorem yf_L_stallByMoney : YfW yL_stallByMoney cL_stallByMoney 4 [(0, 9, 12, 45)] 3 := ⟨⟨lwm (tb5 _ (List.mem_of_getElem? (i := 228) rfl)) rfl, ini_L, lwm (tb5 _ (List.mem_of_getElem? (i := 229) rfl)) rfl⟩, by decide +kernel⟩
theorem yf_L_orderAt : YfW yL_orderAt cL_orderAt 4 [(0, 9, 12, 21)] 3 := ⟨⟨lwm (tb6 _ (List.mem_of_getElem? (i := 5) rfl)) rfl, ini_L, lwm (tb6 _ (List.mem_of_getElem? (i := 6) rfl)) rfl⟩, by decide +kernel⟩
theorem yf_L_stallOf : YfW yL_stallOf cL_stallOf 4 [(0, 9, 12, 45)] 3 := ⟨⟨lwm (tb6 _ (List.mem_of_getElem? (i := 13) rfl)) rfl, ini_L, lwm (tb6 _ (List.mem_of_getElem? (i := 14) rfl)) rfl⟩, by decide +kernel⟩
theorem yf_L_isBuying : YfW yL_isBuying cL_isBuying 4 [(0, 16, 19, 45)] 3 := ⟨⟨lwm (tb6 _ (List.mem_of_getElem? (i := 25) rfl)) rfl, ini_L, lwm (tb6 _ (List.mem_of_getElem? (i := 26) rfl)) rfl⟩, by decide +kernel⟩
theorem yf_L_priceOf : YfW yL_priceOf cL_priceOf 4 [(0, 9, 12, 45)] 3 := ⟨⟨lwm (tb6 _ (List.mem_of_getElem? (i := 33) rfl)) rfl, ini_L, lwm (tb6 _ (List.mem_of_getElem? (i := 34) rfl)) rfl⟩, by decide +kernel⟩
theorem yf_L_quantityOf : YfW yL_quantityOf cL_quantityOf 4 [(0, 9, 12, 45)] 3 := ⟨⟨lwm (tb6 _ (List.mem_of_getElem? (i := 40) rfl)) rfl, ini_L, lwm (tb6 _ (List.mem_of_getElem? (i := 41) rfl)) rfl⟩, by decide +kernel⟩
theorem yf_L_minutesLeft : YfW yL_minutesLeft cL_minutesLeft 4 [(0, 9, 12, 45), (0, 9, 15, 15)] 3 := ⟨⟨lwm (tb6 _ (List.mem_of_getElem? (i := 47) rfl)) rfl, ini_L, lwm (tb6 _ (List.mem_of_getElem? (i := 48) rfl)) rfl⟩, by decide +kernel⟩
theorem yf_L_bestBuy : YfW yL_bestBuy cL_bestBuy 3 [(0, 8, 11, 45)] 2 := ⟨⟨lwm (tb6 _ (List.mem_of_getElem? (i := 55) rfl)) rfl, ini_L, lwm (tb6 _ (List.mem_of_getElem? (i := 56) rfl)) rfl⟩, by decide +kernel⟩
theorem yf_L_bestSell : YfW yL_bestSell cL_bestSell 3 [(0, 8, 11, 45)] 2 := ⟨⟨lwm (tb6 _ (List.mem_of_getElem? (i := 67) rfl)) rfl, ini_L, lwm (tb6 _ (List.mem_of_getElem? (i := 68) rfl)) rfl⟩, by decide +kernel⟩
theorem yf_L_spread : YfW yL_spread cL_spread 3 [(0, 8, 11, 45)] 2 := ⟨⟨lwm (tb6 _ (List.mem_of_getElem? (i := 74) rfl)) rfl, ini_L, lwm (tb6 _ (List.mem_of_getElem? (i := 75) rfl)) rfl⟩, by decide +kernel⟩
theorem yf_L_spreadBySums : YfW yL_spreadBySums cL_spreadBySums 3 [(0, 8, 11, 45)] 2 := ⟨⟨lwm (tb6 _ (List.mem_of_getElem? (i := 85) rfl)) rfl, ini_L, lwm (tb6 _ (List.mem_of_getElem? (i := 86) rfl)) rfl⟩, by decide +kernel⟩
theorem yf_L_buyingAt : YfW yL_buyingAt cL_buyingAt 4 [(0, 9, 12, 13)] 3 := ⟨⟨lwm (tb6 _ (List.mem_of_getElem? (i := 92) rfl)) rfl, ini_L, lwm (tb6 _ (List.mem_of_getElem? (i := 93) rfl)) rfl⟩, by decide +kernel⟩
theorem yf_L_sellingAt : YfW yL_sellingAt cL_sellingAt 4 [(0, 9, 12, 13)] 3 := ⟨⟨lwm (tb6 _ (List.mem_of_getElem? (i := 103) rfl)) rfl, ini_L, lwm (tb6 _ (List.mem_of_getElem? (i := 104) rfl)) rfl⟩, by decide +kernel⟩
theorem yf_L_lastPrice : YfW yL_lastPrice cL_lastPrice 3 [(0, 8, 11, 45)] 2 := ⟨⟨lwm (tb6 _ (List.mem_of_getElem? (i := 110) rfl)) rfl, ini_L, lwm (tb6 _ (List.mem_of_getElem? (i := 111) rfl)) rfl⟩, by decide +kernel⟩
theorem yf_L_meanPrice : YfW yL_meanPrice cL_meanPrice 3 [(0, 7, 10, 116)] 2 := ⟨⟨lwm (tb6 _ (List.mem_of_getElem? (i := 118) rfl)) rfl, ini_L, lwm (tb6 _ (List.mem_of_getElem? (i := 119) rfl)) rfl⟩, by decide +kernel⟩
theorem yf_L_buyingShare : YfW yL_buyingShare cL_buyingShare 3 [(0, 8, 11, 116)] 2 := ⟨⟨lwm (tb6 _ (List.mem_of_getElem? (i := 141) rfl)) rfl, ini_L, lwm (tb6 _ (List.mem_of_getElem? (i := 142) rfl)) rfl⟩, by decide +kernel⟩
theorem yf_L_poolPrice : YfW yL_poolPrice cL_poolPrice 3 [(0, 8, 11, 45)] 2 := ⟨⟨lwm (tb6 _ (List.mem_of_getElem? (i := 153) rfl)) rfl, ini_L, lwm (tb6 _ (List.mem_of_getElem? (i := 154) rfl)) rfl⟩, by decide +kernel⟩
theorem yf_L_poolPriceBySums : YfW yL_poolPriceBySums cL_poolPriceBySums 3 [(0, 8, 11, 45)] 2 := ⟨⟨lwm (tb6 _ (List.mem_of_getElem? (i := 164) rfl)) rfl, ini_L, lwm (tb6 _ (List.mem_of_getElem? (i := 165) rfl)) rfl⟩, by decide +kernel⟩
theorem yf_L_volumeAt : YfW yL_volumeAt cL_volumeAt 4 [(0, 9, 12, 13)] 3 := ⟨⟨lwm (tb6 _ (List.mem_of_getElem? (i := 171) rfl)) rfl, ini_L, lwm (tb6 _ (List.mem_of_getElem? (i := 172) rfl)) rfl⟩, by decide +kernel⟩
theorem yf_L_writeOrder : YfW yL_writeOrder cL_writeOrder 4 [(0, 9, 12, 45)] 3 := ⟨⟨lwm (tb6 _ (List.mem_of_getElem? (i := 183) rfl)) rfl, ini_L, lwm (tb6 _ (List.mem_of_getElem? (i := 184) rfl)) rfl⟩, by decide +kernel⟩
theorem yf_L_lineAt : YfW yL_lineAt cL_lineAt 4 [(0, 9, 12, 21)] 3 := ⟨⟨lwm (tb6 _ (List.mem_of_getElem? (i := 190) rfl)) rfl, ini_L, lwm (tb6 _ (List.mem_of_getElem? (i := 191) rfl)) rfl⟩, by decide +kernel⟩
theorem yf_L_type : YfW yL_type cL_type 4 [(0, 9, 12, 13), (0, 9, 15, 15)] 3 := ⟨⟨lwm (tb6 _ (List.mem_of_getElem? (i := 208) rfl)) rfl, ini_L, lwm (tb6 _ (List.mem_of_getElem? (i := 209) rfl)) rfl⟩, by decide +kernel⟩
theorem yf_L_execute : YfW yL_execute cL_execute 3 [(0, 8, 11, 13), (0, 8, 14, 15)] 2 := ⟨⟨lwm (tb6 _ (List.mem_of_getElem? (i := 227) rfl)) rfl, ini_L, lwm (tb6 _ (List.mem_of_getElem? (i := 228) rfl)) rfl⟩, by decide +kernel⟩
theorem yf_L_errorPosition : YfW yL_errorPosition cL_errorPosition 3 [(0, 8, 11, 45)] 2 := ⟨⟨lwm (tb7 _ (List.mem_of_getElem? (i := 81) rfl)) rfl, ini_L, lwm (tb7 _ (List.mem_of_getElem? (i := 82) rfl)) rfl⟩, by decide +kernel⟩
theorem yf_L_failedCommand : YfW yL_failedCommand cL_failedCommand 3 [(0, 8, 11, 45)] 2 := ⟨⟨lwm (tb7 _ (List.mem_of_getElem? (i := 89) rfl)) rfl, ini_L, lwm (tb7 _ (List.mem_of_getElem? (i := 90) rfl)) rfl⟩, by decide +kernel⟩
theorem yf_L_undo : YfW yL_undo cL_undo 3 [(0, 8, 11, 15)] 2 := ⟨⟨lwm (tb7 _ (List.mem_of_getElem? (i := 97) rfl)) rfl, ini_L, lwm (tb7 _ (List.mem_of_getElem? (i := 98) rfl)) rfl⟩, by decide +kernel⟩
theorem yf_L_restore : YfW yL_restore cL_restore 3 [(0, 8, 11, 15)] 2 := ⟨⟨lwm (tb7 _ (List.mem_of_getElem? (i := 110) rfl)) rfl, ini_L, lwm (tb7 _ (List.mem_of_getElem? (i := 111) rfl)) rfl⟩, by decide +kernel⟩
set_option maxHeartbeats 4000000 in
set_option maxRecDepth 100000 in
theorem w_addStall {l : Launch} {G : Gx} (hF : SF l G) {S : Type} {d k z : Nat} {post : Int32 → S → Prop} {Wf : S → va_W} {px : Nat → Prop} {Wx : Nat → va_W} {b o : Nat} {fs : List Value} {f : Nat → Int64} {wA w : va_W} {WfA : S → va_W} {WxA : Nat → va_W} {x0 x1 : Int32} (hM : XI l G yX11_addStall cX11_addStall 3 .int d k z [.ref b, .int x0, .int x1] w post Wf px Wx) (hpe : List.Perm ((o, .inl (G.2.2.1 4, 1, .inr (.inl f))) :: wA) w) (q0 : Nat) (he : w[q0]? = some (b, .inr (12, fs))) (hpn : ∀ u, List.Perm (Wf u) ((o, .inl (G.2.2.1 4, 1, .inr (.inl f))) :: WfA u)) (hpx : ∀ k1, px k1 → (k1 = 2 ∨ k1 = 3) ∧ List.Perm (Wx k1) ((o, .inl (G.2.2.1 4, 1, .inr (.inl f))) :: WxA k1)) : HI l G yL_addStall cL_addStall 5 [(0, 10, 13, 13), (0, 10, 17, 15)] (d + 1) k z [.ref b, .int x0, .int x1, .ref o] ((o, .inl (G.2.2.1 4, 1, .inr (.inl f))) :: wA) (fun c1 (t : (Int32 × S) ⊕ Nat) => match t with | .inl (r, u) => c1 = 0 ∧ post r u | .inr k1 => c1 = (if k1 = 2 then 1 else (if k1 = 3 then 2 else 0)) ∧ px k1) (fun t => match t with | .inl (r, u) => (o, .inl (G.2.2.1 4, 1, .inr (.inl (vp_updL f 0 r.toInt64)))) :: WfA u | .inr k1 => (o, .inl (G.2.2.1 4, 1, .inr (.inl f))) :: WxA k1) := by
  refine mh_of hF (by decide) (Nat.le_of_ble_eq_true rfl) ?_
  intro p e s m below meth c C htab ls hl H locs hw
  have hl : lv_has ls 5 [(0, .ref b), (1, .int x0), (2, .int x1), (3, .ref o)] := hl
  obtain ⟨bb, hb, -⟩ := id C.2.2.2.2.2.2.2.2.2.2.2.2
  refine lv_aload_n C.1 C.2.1 dL_addStall_0 rfl (lv_at hl 3 rfl) ?_
  refine lv_iconst (v := 0) C.1 C.2.1 dL_addStall_1 (by decide) ?_
  refine lv_aload_n C.1 C.2.1 dL_addStall_2 rfl (lv_at hl 0 rfl) ?_
  refine lv_iload_n C.1 C.2.1 dL_addStall_3 rfl (lv_at hl 1 rfl) ?_
  refine lv_iload_n C.1 C.2.1 dL_addStall_4 rfl (lv_at hl 2 rfl) ?_
  refine y_vi C (hw.perm hpe) hM ml_L_7 yf_X11_addStall q0 he rfl (As := [.int x0, .int x1]) rfl rfl ⟨Nat.le_refl _, by show 8 + (3 + 11) + 64 * d ≤ 64 * (d + 1); omega⟩ ⟨Nat.le_of_eq (Nat.zero_add _), Nat.le_of_eq (Nat.zero_add _)⟩ hl.1 (Nat.le_of_ble_eq_true rfl) dL_addStall_5 (fun k1 q ce H locs hp hw hc1 hc2 hc3 => ?_) (fun r u H locs hp hw => ?_)
  · obtain ⟨hk, hpm⟩ := hpx k1 hp
    replace hw := hw.perm hpm
    rcases hk with rfl | rfl
    · refine vx_catch (own := RL) (name := "java/lang/IllegalArgumentException") (E := "java/lang/IllegalArgumentException") C.2.2.2.2.1 (tableOf []) { startPc := 0, endPc := 10, handlerPc := 13, catchType := 13 } (tableOf [(0, 10, 17, 15)]) htab (fun z hz => nomatch hz) (by decide) (by decide) (C.2.2.2.2.2.1 _ cl_L_13) (fw_mv C rfl rfl (hb _ (tb3 _ (List.mem_of_getElem? (i := 55) rfl)))) hc1 hc2 hc3 ?_
      refine lv_astore (lv' := [(4, .ref q), (0, .ref b), (1, .int x0), (2, .int x1), (3, .ref o)]) C.1 C.2.1 dL_addStall_13 hl (by decide) rfl (fun ls hl => ?_)
      refine lv_iconst (v := 1) C.1 C.2.1 dL_addStall_15 (by decide) ?_
      exact r_iret C hw rfl rfl (Sum.inr 2) ⟨rfl, hp⟩ rfl (Nat.le_of_eq (Nat.zero_add _)) (Nat.le_of_eq (Nat.zero_add _)) dL_addStall_16
    · refine vx_catch (own := RL) (name := "java/lang/IllegalStateException") (E := "java/lang/IllegalStateException") C.2.2.2.2.1 (tableOf [(0, 10, 13, 13)]) { startPc := 0, endPc := 10, handlerPc := 17, catchType := 15 } (tableOf []) htab (List.forall_mem_cons.mpr ⟨Or.inr ⟨by decide, _, C.2.2.2.2.2.1 _ cl_L_13, (SF.nc_3_2 hF).moved C.2.2.2.2.2.2.2.1.alike⟩, (fun z hz => nomatch hz)⟩) (by decide) (by decide) (C.2.2.2.2.2.1 _ cl_L_15) (fw_mv C rfl rfl (hb _ (tb4 _ (List.mem_of_getElem? (i := 180) rfl)))) hc1 hc2 hc3 ?_
      refine lv_astore (lv' := [(4, .ref q), (0, .ref b), (1, .int x0), (2, .int x1), (3, .ref o)]) C.1 C.2.1 dL_addStall_17 hl (by decide) rfl (fun ls hl => ?_)
      refine lv_iconst (v := 2) C.1 C.2.1 dL_addStall_19 (by decide) ?_
      exact r_iret C hw rfl rfl (Sum.inr 3) ⟨rfl, hp⟩ rfl (Nat.le_of_eq (Nat.zero_add _)) (Nat.le_of_eq (Nat.zero_add _)) dL_addStall_20
  · replace hw := hw.perm (hpn u)
    refine lv_i2l (v := r.toInt64) C.1 C.2.1 dL_addStall_8 rfl ?_
    refine r_last C hw 0 rfl (n := 1) (i := 0) (x := r.toInt64) (show ¬ ((0 : Int32) < 0 ∨ 1 ≤ (0 : Int32).toNatClampNeg) by decide) (w' := (o, .inl (G.2.2.1 4, 1, .inr (.inl (vp_updL f 0 r.toInt64)))) :: WfA u) rfl dL_addStall_9 (fun H locs hw => ?_)
    refine lv_goto (tgt := 21) C.1 C.2.1 dL_addStall_10 (by decide) ?_
    refine lv_iconst (v := 0) C.1 C.2.1 dL_addStall_21 (by decide) ?_
    exact r_iret C hw rfl rfl (Sum.inl (r, u)) ⟨rfl, hp⟩ rfl (Nat.le_of_eq (Nat.zero_add _)) (Nat.le_of_eq (Nat.zero_add _)) dL_addStall_22
set_option maxHeartbeats 4000000 in
set_option maxRecDepth 100000 in
theorem w_placeBuy {l : Launch} {G : Gx} (hF : SF l G) {S : Type} {d k z : Nat} {post : Int32 → S → Prop} {Wf : S → va_W} {px : Nat → Prop} {Wx : Nat → va_W} {b o : Nat} {fs : List Value} {f : Nat → Int64} {wA w : va_W} {WfA : S → va_W} {WxA : Nat → va_W} {x0 x1 x2 : Int32} (hM : XI l G yX11_placeBuy cX11_placeBuy 4 .int d k z [.ref b, .int x0, .int x1, .int x2] w post Wf px Wx) (hpe : List.Perm ((o, .inl (G.2.2.1 4, 1, .inr (.inl f))) :: wA) w) (q0 : Nat) (he : w[q0]? = some (b, .inr (12, fs))) (hpn : ∀ u, List.Perm (Wf u) ((o, .inl (G.2.2.1 4, 1, .inr (.inl f))) :: WfA u)) (hpx : ∀ k1, px k1 → (k1 = 1 ∨ k1 = 2 ∨ k1 = 3 ∨ k1 = 4) ∧ List.Perm (Wx k1) ((o, .inl (G.2.2.1 4, 1, .inr (.inl f))) :: WxA k1)) : HI l G yL_placeBuy cL_placeBuy 6 [(0, 12, 15, 21), (0, 12, 19, 13), (0, 12, 23, 15), (0, 12, 27, 23)] (d + 1) k z [.ref b, .int x0, .int x1, .int x2, .ref o] ((o, .inl (G.2.2.1 4, 1, .inr (.inl f))) :: wA) (fun c1 (t : (Int32 × S) ⊕ Nat) => match t with | .inl (r, u) => c1 = 0 ∧ post r u | .inr k1 => c1 = (if k1 = 1 then 1 else (if k1 = 2 then 2 else (if k1 = 3 then 3 else (if k1 = 4 then 4 else 0)))) ∧ px k1) (fun t => match t with | .inl (r, u) => (o, .inl (G.2.2.1 4, 1, .inr (.inl (vp_updL f 0 r.toInt64)))) :: WfA u | .inr k1 => (o, .inl (G.2.2.1 4, 1, .inr (.inl f))) :: WxA k1) := by
  refine mh_of hF (by decide) (Nat.le_of_ble_eq_true rfl) ?_
  intro p e s m below meth c C htab ls hl H locs hw
  have hl : lv_has ls 6 [(0, .ref b), (1, .int x0), (2, .int x1), (3, .int x2), (4, .ref o)] := hl
  obtain ⟨bb, hb, -⟩ := id C.2.2.2.2.2.2.2.2.2.2.2.2
  refine lv_aload C.1 C.2.1 dL_placeBuy_0 (lv_at hl 4 rfl) ?_
  refine lv_iconst (v := 0) C.1 C.2.1 dL_placeBuy_2 (by decide) ?_
  refine lv_aload_n C.1 C.2.1 dL_placeBuy_3 rfl (lv_at hl 0 rfl) ?_
  refine lv_iload_n C.1 C.2.1 dL_placeBuy_4 rfl (lv_at hl 1 rfl) ?_
  refine lv_iload_n C.1 C.2.1 dL_placeBuy_5 rfl (lv_at hl 2 rfl) ?_
  refine lv_iload_n C.1 C.2.1 dL_placeBuy_6 rfl (lv_at hl 3 rfl) ?_
  refine y_vi C (hw.perm hpe) hM ml_L_17 yf_X11_placeBuy q0 he rfl (As := [.int x0, .int x1, .int x2]) rfl rfl ⟨Nat.le_refl _, by show 8 + (4 + 11) + 64 * d ≤ 64 * (d + 1); omega⟩ ⟨Nat.le_of_eq (Nat.zero_add _), Nat.le_of_eq (Nat.zero_add _)⟩ hl.1 (Nat.le_of_ble_eq_true rfl) dL_placeBuy_7 (fun k1 q ce H locs hp hw hc1 hc2 hc3 => ?_) (fun r u H locs hp hw => ?_)
  · obtain ⟨hk, hpm⟩ := hpx k1 hp
    replace hw := hw.perm hpm
    rcases hk with rfl | rfl | rfl | rfl
    · refine vx_catch (own := RL) (name := "java/lang/IndexOutOfBoundsException") (E := "java/lang/IndexOutOfBoundsException") C.2.2.2.2.1 (tableOf []) { startPc := 0, endPc := 12, handlerPc := 15, catchType := 21 } (tableOf [(0, 12, 19, 13), (0, 12, 23, 15), (0, 12, 27, 23)]) htab (fun z hz => nomatch hz) (by decide) (by decide) (C.2.2.2.2.2.1 _ cl_L_21) (fw_mv C rfl rfl (hb _ (tb4 _ (List.mem_of_getElem? (i := 162) rfl)))) hc1 hc2 hc3 ?_
      refine lv_astore (lv' := [(5, .ref q), (0, .ref b), (1, .int x0), (2, .int x1), (3, .int x2), (4, .ref o)]) C.1 C.2.1 dL_placeBuy_15 hl (by decide) rfl (fun ls hl => ?_)
      refine lv_iconst (v := 1) C.1 C.2.1 dL_placeBuy_17 (by decide) ?_
      exact r_iret C hw rfl rfl (Sum.inr 1) ⟨rfl, hp⟩ rfl (Nat.le_of_eq (Nat.zero_add _)) (Nat.le_of_eq (Nat.zero_add _)) dL_placeBuy_18
    · refine vx_catch (own := RL) (name := "java/lang/IllegalArgumentException") (E := "java/lang/IllegalArgumentException") C.2.2.2.2.1 (tableOf [(0, 12, 15, 21)]) { startPc := 0, endPc := 12, handlerPc := 19, catchType := 13 } (tableOf [(0, 12, 23, 15), (0, 12, 27, 23)]) htab (List.forall_mem_cons.mpr ⟨Or.inr ⟨by decide, _, C.2.2.2.2.2.1 _ cl_L_21, (SF.nc_2_1 hF).moved C.2.2.2.2.2.2.2.1.alike⟩, (fun z hz => nomatch hz)⟩) (by decide) (by decide) (C.2.2.2.2.2.1 _ cl_L_13) (fw_mv C rfl rfl (hb _ (tb3 _ (List.mem_of_getElem? (i := 55) rfl)))) hc1 hc2 hc3 ?_
      refine lv_astore (lv' := [(5, .ref q), (0, .ref b), (1, .int x0), (2, .int x1), (3, .int x2), (4, .ref o)]) C.1 C.2.1 dL_placeBuy_19 hl (by decide) rfl (fun ls hl => ?_)
      refine lv_iconst (v := 2) C.1 C.2.1 dL_placeBuy_21 (by decide) ?_
      exact r_iret C hw rfl rfl (Sum.inr 2) ⟨rfl, hp⟩ rfl (Nat.le_of_eq (Nat.zero_add _)) (Nat.le_of_eq (Nat.zero_add _)) dL_placeBuy_22
    · refine vx_catch (own := RL) (name := "java/lang/IllegalStateException") (E := "java/lang/IllegalStateException") C.2.2.2.2.1 (tableOf [(0, 12, 15, 21), (0, 12, 19, 13)]) { startPc := 0, endPc := 12, handlerPc := 23, catchType := 15 } (tableOf [(0, 12, 27, 23)]) htab (List.forall_mem_cons.mpr ⟨Or.inr ⟨by decide, _, C.2.2.2.2.2.1 _ cl_L_21, (SF.nc_3_1 hF).moved C.2.2.2.2.2.2.2.1.alike⟩, (List.forall_mem_cons.mpr ⟨Or.inr ⟨by decide, _, C.2.2.2.2.2.1 _ cl_L_13, (SF.nc_3_2 hF).moved C.2.2.2.2.2.2.2.1.alike⟩, (fun z hz => nomatch hz)⟩)⟩) (by decide) (by decide) (C.2.2.2.2.2.1 _ cl_L_15) (fw_mv C rfl rfl (hb _ (tb4 _ (List.mem_of_getElem? (i := 180) rfl)))) hc1 hc2 hc3 ?_
      refine lv_astore (lv' := [(5, .ref q), (0, .ref b), (1, .int x0), (2, .int x1), (3, .int x2), (4, .ref o)]) C.1 C.2.1 dL_placeBuy_23 hl (by decide) rfl (fun ls hl => ?_)
      refine lv_iconst (v := 3) C.1 C.2.1 dL_placeBuy_25 (by decide) ?_
      exact r_iret C hw rfl rfl (Sum.inr 3) ⟨rfl, hp⟩ rfl (Nat.le_of_eq (Nat.zero_add _)) (Nat.le_of_eq (Nat.zero_add _)) dL_placeBuy_26
    · refine vx_catch (own := RL) (name := "java/lang/UnsupportedOperationException") (E := "java/lang/UnsupportedOperationException") C.2.2.2.2.1 (tableOf [(0, 12, 15, 21), (0, 12, 19, 13), (0, 12, 23, 15)]) { startPc := 0, endPc := 12, handlerPc := 27, catchType := 23 } (tableOf []) htab (List.forall_mem_cons.mpr ⟨Or.inr ⟨by decide, _, C.2.2.2.2.2.1 _ cl_L_21, (SF.nc_4_1 hF).moved C.2.2.2.2.2.2.2.1.alike⟩, (List.forall_mem_cons.mpr ⟨Or.inr ⟨by decide, _, C.2.2.2.2.2.1 _ cl_L_13, (SF.nc_4_2 hF).moved C.2.2.2.2.2.2.2.1.alike⟩, (List.forall_mem_cons.mpr ⟨Or.inr ⟨by decide, _, C.2.2.2.2.2.1 _ cl_L_15, (SF.nc_4_3 hF).moved C.2.2.2.2.2.2.2.1.alike⟩, (fun z hz => nomatch hz)⟩)⟩)⟩) (by decide) (by decide) (C.2.2.2.2.2.1 _ cl_L_23) (fw_mv C rfl rfl (hb _ (tb4 _ (List.mem_of_getElem? (i := 198) rfl)))) hc1 hc2 hc3 ?_
      refine lv_astore (lv' := [(5, .ref q), (0, .ref b), (1, .int x0), (2, .int x1), (3, .int x2), (4, .ref o)]) C.1 C.2.1 dL_placeBuy_27 hl (by decide) rfl (fun ls hl => ?_)
      refine lv_iconst (v := 4) C.1 C.2.1 dL_placeBuy_29 (by decide) ?_
      exact r_iret C hw rfl rfl (Sum.inr 4) ⟨rfl, hp⟩ rfl (Nat.le_of_eq (Nat.zero_add _)) (Nat.le_of_eq (Nat.zero_add _)) dL_placeBuy_30
  · replace hw := hw.perm (hpn u)
    refine lv_i2l (v := r.toInt64) C.1 C.2.1 dL_placeBuy_10 rfl ?_
    refine r_last C hw 0 rfl (n := 1) (i := 0) (x := r.toInt64) (show ¬ ((0 : Int32) < 0 ∨ 1 ≤ (0 : Int32).toNatClampNeg) by decide) (w' := (o, .inl (G.2.2.1 4, 1, .inr (.inl (vp_updL f 0 r.toInt64)))) :: WfA u) rfl dL_placeBuy_11 (fun H locs hw => ?_)
    refine lv_goto (tgt := 31) C.1 C.2.1 dL_placeBuy_12 (by decide) ?_
    refine lv_iconst (v := 0) C.1 C.2.1 dL_placeBuy_31 (by decide) ?_
    exact r_iret C hw rfl rfl (Sum.inl (r, u)) ⟨rfl, hp⟩ rfl (Nat.le_of_eq (Nat.zero_add _)) (Nat.le_of_eq (Nat.zero_add _)) dL_placeBuy_32
set_option maxHeartbeats 4000000 in
set_option maxRecDepth 100000 in
theorem w_placeSell {l : Launch} {G : Gx} (hF : SF l G) {S : Type} {d k z : Nat} {post : Int32 → S → Prop} {Wf : S → va_W} {px : Nat → Prop} {Wx : Nat → va_W} {b o : Nat} {fs : List Value} {f : Nat → Int64} {wA w : va_W} {WfA : S → va_W} {WxA : Nat → va_W} {x0 x1 x2 : Int32} (hM : XI l G yX11_placeSell cX11_placeSell 4 .int d k z [.ref b, .int x0, .int x1, .int x2] w post Wf px Wx) (hpe : List.Perm ((o, .inl (G.2.2.1 4, 1, .inr (.inl f))) :: wA) w) (q0 : Nat) (he : w[q0]? = some (b, .inr (12, fs))) (hpn : ∀ u, List.Perm (Wf u) ((o, .inl (G.2.2.1 4, 1, .inr (.inl f))) :: WfA u)) (hpx : ∀ k1, px k1 → (k1 = 1 ∨ k1 = 2 ∨ k1 = 3 ∨ k1 = 4) ∧ List.Perm (Wx k1) ((o, .inl (G.2.2.1 4, 1, .inr (.inl f))) :: WxA k1)) : HI l G yL_placeSell cL_placeSell 6 [(0, 12, 15, 21), (0, 12, 19, 13), (0, 12, 23, 15), (0, 12, 27, 23)] (d + 1) k z [.ref b, .int x0, .int x1, .int x2, .ref o] ((o, .inl (G.2.2.1 4, 1, .inr (.inl f))) :: wA) (fun c1 (t : (Int32 × S) ⊕ Nat) => match t with | .inl (r, u) => c1 = 0 ∧ post r u | .inr k1 => c1 = (if k1 = 1 then 1 else (if k1 = 2 then 2 else (if k1 = 3 then 3 else (if k1 = 4 then 4 else 0)))) ∧ px k1) (fun t => match t with | .inl (r, u) => (o, .inl (G.2.2.1 4, 1, .inr (.inl (vp_updL f 0 r.toInt64)))) :: WfA u | .inr k1 => (o, .inl (G.2.2.1 4, 1, .inr (.inl f))) :: WxA k1) := by
  refine mh_of hF (by decide) (Nat.le_of_ble_eq_true rfl) ?_
  intro p e s m below meth c C htab ls hl H locs hw
  have hl : lv_has ls 6 [(0, .ref b), (1, .int x0), (2, .int x1), (3, .int x2), (4, .ref o)] := hl
  obtain ⟨bb, hb, -⟩ := id C.2.2.2.2.2.2.2.2.2.2.2.2
  refine lv_aload C.1 C.2.1 dL_placeSell_0 (lv_at hl 4 rfl) ?_
  refine lv_iconst (v := 0) C.1 C.2.1 dL_placeSell_2 (by decide) ?_
  refine lv_aload_n C.1 C.2.1 dL_placeSell_3 rfl (lv_at hl 0 rfl) ?_
  refine lv_iload_n C.1 C.2.1 dL_placeSell_4 rfl (lv_at hl 1 rfl) ?_
  refine lv_iload_n C.1 C.2.1 dL_placeSell_5 rfl (lv_at hl 2 rfl) ?_
  refine lv_iload_n C.1 C.2.1 dL_placeSell_6 rfl (lv_at hl 3 rfl) ?_
  refine y_vi C (hw.perm hpe) hM ml_L_25 yf_X11_placeSell q0 he rfl (As := [.int x0, .int x1, .int x2]) rfl rfl ⟨Nat.le_refl _, by show 8 + (4 + 11) + 64 * d ≤ 64 * (d + 1); omega⟩ ⟨Nat.le_of_eq (Nat.zero_add _), Nat.le_of_eq (Nat.zero_add _)⟩ hl.1 (Nat.le_of_ble_eq_true rfl) dL_placeSell_7 (fun k1 q ce H locs hp hw hc1 hc2 hc3 => ?_) (fun r u H locs hp hw => ?_)
  · obtain ⟨hk, hpm⟩ := hpx k1 hp
    replace hw := hw.perm hpm
    rcases hk with rfl | rfl | rfl | rfl
    · refine vx_catch (own := RL) (name := "java/lang/IndexOutOfBoundsException") (E := "java/lang/IndexOutOfBoundsException") C.2.2.2.2.1 (tableOf []) { startPc := 0, endPc := 12, handlerPc := 15, catchType := 21 } (tableOf [(0, 12, 19, 13), (0, 12, 23, 15), (0, 12, 27, 23)]) htab (fun z hz => nomatch hz) (by decide) (by decide) (C.2.2.2.2.2.1 _ cl_L_21) (fw_mv C rfl rfl (hb _ (tb4 _ (List.mem_of_getElem? (i := 162) rfl)))) hc1 hc2 hc3 ?_
      refine lv_astore (lv' := [(5, .ref q), (0, .ref b), (1, .int x0), (2, .int x1), (3, .int x2), (4, .ref o)]) C.1 C.2.1 dL_placeSell_15 hl (by decide) rfl (fun ls hl => ?_)
      refine lv_iconst (v := 1) C.1 C.2.1 dL_placeSell_17 (by decide) ?_
      exact r_iret C hw rfl rfl (Sum.inr 1) ⟨rfl, hp⟩ rfl (Nat.le_of_eq (Nat.zero_add _)) (Nat.le_of_eq (Nat.zero_add _)) dL_placeSell_18
    · refine vx_catch (own := RL) (name := "java/lang/IllegalArgumentException") (E := "java/lang/IllegalArgumentException") C.2.2.2.2.1 (tableOf [(0, 12, 15, 21)]) { startPc := 0, endPc := 12, handlerPc := 19, catchType := 13 } (tableOf [(0, 12, 23, 15), (0, 12, 27, 23)]) htab (List.forall_mem_cons.mpr ⟨Or.inr ⟨by decide, _, C.2.2.2.2.2.1 _ cl_L_21, (SF.nc_2_1 hF).moved C.2.2.2.2.2.2.2.1.alike⟩, (fun z hz => nomatch hz)⟩) (by decide) (by decide) (C.2.2.2.2.2.1 _ cl_L_13) (fw_mv C rfl rfl (hb _ (tb3 _ (List.mem_of_getElem? (i := 55) rfl)))) hc1 hc2 hc3 ?_
      refine lv_astore (lv' := [(5, .ref q), (0, .ref b), (1, .int x0), (2, .int x1), (3, .int x2), (4, .ref o)]) C.1 C.2.1 dL_placeSell_19 hl (by decide) rfl (fun ls hl => ?_)
      refine lv_iconst (v := 2) C.1 C.2.1 dL_placeSell_21 (by decide) ?_
      exact r_iret C hw rfl rfl (Sum.inr 2) ⟨rfl, hp⟩ rfl (Nat.le_of_eq (Nat.zero_add _)) (Nat.le_of_eq (Nat.zero_add _)) dL_placeSell_22
    · refine vx_catch (own := RL) (name := "java/lang/IllegalStateException") (E := "java/lang/IllegalStateException") C.2.2.2.2.1 (tableOf [(0, 12, 15, 21), (0, 12, 19, 13)]) { startPc := 0, endPc := 12, handlerPc := 23, catchType := 15 } (tableOf [(0, 12, 27, 23)]) htab (List.forall_mem_cons.mpr ⟨Or.inr ⟨by decide, _, C.2.2.2.2.2.1 _ cl_L_21, (SF.nc_3_1 hF).moved C.2.2.2.2.2.2.2.1.alike⟩, (List.forall_mem_cons.mpr ⟨Or.inr ⟨by decide, _, C.2.2.2.2.2.1 _ cl_L_13, (SF.nc_3_2 hF).moved C.2.2.2.2.2.2.2.1.alike⟩, (fun z hz => nomatch hz)⟩)⟩) (by decide) (by decide) (C.2.2.2.2.2.1 _ cl_L_15) (fw_mv C rfl rfl (hb _ (tb4 _ (List.mem_of_getElem? (i := 180) rfl)))) hc1 hc2 hc3 ?_
      refine lv_astore (lv' := [(5, .ref q), (0, .ref b), (1, .int x0), (2, .int x1), (3, .int x2), (4, .ref o)]) C.1 C.2.1 dL_placeSell_23 hl (by decide) rfl (fun ls hl => ?_)
      refine lv_iconst (v := 3) C.1 C.2.1 dL_placeSell_25 (by decide) ?_
      exact r_iret C hw rfl rfl (Sum.inr 3) ⟨rfl, hp⟩ rfl (Nat.le_of_eq (Nat.zero_add _)) (Nat.le_of_eq (Nat.zero_add _)) dL_placeSell_26
    · refine vx_catch (own := RL) (name := "java/lang/UnsupportedOperationException") (E := "java/lang/UnsupportedOperationException") C.2.2.2.2.1 (tableOf [(0, 12, 15, 21), (0, 12, 19, 13), (0, 12, 23, 15)]) { startPc := 0, endPc := 12, handlerPc := 27, catchType := 23 } (tableOf []) htab (List.forall_mem_cons.mpr ⟨Or.inr ⟨by decide, _, C.2.2.2.2.2.1 _ cl_L_21, (SF.nc_4_1 hF).moved C.2.2.2.2.2.2.2.1.alike⟩, (List.forall_mem_cons.mpr ⟨Or.inr ⟨by decide, _, C.2.2.2.2.2.1 _ cl_L_13, (SF.nc_4_2 hF).moved C.2.2.2.2.2.2.2.1.alike⟩, (List.forall_mem_cons.mpr ⟨Or.inr ⟨by decide, _, C.2.2.2.2.2.1 _ cl_L_15, (SF.nc_4_3 hF).moved C.2.2.2.2.2.2.2.1.alike⟩, (fun z hz => nomatch hz)⟩)⟩)⟩) (by decide) (by decide) (C.2.2.2.2.2.1 _ cl_L_23) (fw_mv C rfl rfl (hb _ (tb4 _ (List.mem_of_getElem? (i := 198) rfl)))) hc1 hc2 hc3 ?_
      refine lv_astore (lv' := [(5, .ref q), (0, .ref b), (1, .int x0), (2, .int x1), (3, .int x2), (4, .ref o)]) C.1 C.2.1 dL_placeSell_27 hl (by decide) rfl (fun ls hl => ?_)
      refine lv_iconst (v := 4) C.1 C.2.1 dL_placeSell_29 (by decide) ?_
      exact r_iret C hw rfl rfl (Sum.inr 4) ⟨rfl, hp⟩ rfl (Nat.le_of_eq (Nat.zero_add _)) (Nat.le_of_eq (Nat.zero_add _)) dL_placeSell_30
  · replace hw := hw.perm (hpn u)
    refine lv_i2l (v := r.toInt64) C.1 C.2.1 dL_placeSell_10 rfl ?_
    refine r_last C hw 0 rfl (n := 1) (i := 0) (x := r.toInt64) (show ¬ ((0 : Int32) < 0 ∨ 1 ≤ (0 : Int32).toNatClampNeg) by decide) (w' := (o, .inl (G.2.2.1 4, 1, .inr (.inl (vp_updL f 0 r.toInt64)))) :: WfA u) rfl dL_placeSell_11 (fun H locs hw => ?_)
    refine lv_goto (tgt := 31) C.1 C.2.1 dL_placeSell_12 (by decide) ?_
    refine lv_iconst (v := 0) C.1 C.2.1 dL_placeSell_31 (by decide) ?_
    exact r_iret C hw rfl rfl (Sum.inl (r, u)) ⟨rfl, hp⟩ rfl (Nat.le_of_eq (Nat.zero_add _)) (Nat.le_of_eq (Nat.zero_add _)) dL_placeSell_32
set_option maxHeartbeats 4000000 in
set_option maxRecDepth 100000 in
theorem w_placeBuyFor {l : Launch} {G : Gx} (hF : SF l G) {S : Type} {d k z : Nat} {post : Int32 → S → Prop} {Wf : S → va_W} {px : Nat → Prop} {Wx : Nat → va_W} {b o : Nat} {fs : List Value} {f : Nat → Int64} {wA w : va_W} {WfA : S → va_W} {WxA : Nat → va_W} {x0 x1 x2 x3 : Int32} (hM : XI l G yX11_placeBuyFor cX11_placeBuyFor 5 .int d k z [.ref b, .int x0, .int x1, .int x2, .int x3] w post Wf px Wx) (hpe : List.Perm ((o, .inl (G.2.2.1 4, 1, .inr (.inl f))) :: wA) w) (q0 : Nat) (he : w[q0]? = some (b, .inr (12, fs))) (hpn : ∀ u, List.Perm (Wf u) ((o, .inl (G.2.2.1 4, 1, .inr (.inl f))) :: WfA u)) (hpx : ∀ k1, px k1 → (k1 = 1 ∨ k1 = 2 ∨ k1 = 3 ∨ k1 = 4) ∧ List.Perm (Wx k1) ((o, .inl (G.2.2.1 4, 1, .inr (.inl f))) :: WxA k1)) : HI l G yL_placeBuyFor cL_placeBuyFor 7 [(0, 14, 17, 21), (0, 14, 21, 13), (0, 14, 25, 15), (0, 14, 29, 23)] (d + 1) k z [.ref b, .int x0, .int x1, .int x2, .int x3, .ref o] ((o, .inl (G.2.2.1 4, 1, .inr (.inl f))) :: wA) (fun c1 (t : (Int32 × S) ⊕ Nat) => match t with | .inl (r, u) => c1 = 0 ∧ post r u | .inr k1 => c1 = (if k1 = 1 then 1 else (if k1 = 2 then 2 else (if k1 = 3 then 3 else (if k1 = 4 then 4 else 0)))) ∧ px k1) (fun t => match t with | .inl (r, u) => (o, .inl (G.2.2.1 4, 1, .inr (.inl (vp_updL f 0 r.toInt64)))) :: WfA u | .inr k1 => (o, .inl (G.2.2.1 4, 1, .inr (.inl f))) :: WxA k1) := by
  refine mh_of hF (by decide) (Nat.le_of_ble_eq_true rfl) ?_
  intro p e s m below meth c C htab ls hl H locs hw
  have hl : lv_has ls 7 [(0, .ref b), (1, .int x0), (2, .int x1), (3, .int x2), (4, .int x3), (5, .ref o)] := hl
  obtain ⟨bb, hb, -⟩ := id C.2.2.2.2.2.2.2.2.2.2.2.2
  refine lv_aload C.1 C.2.1 dL_placeBuyFor_0 (lv_at hl 5 rfl) ?_
  refine lv_iconst (v := 0) C.1 C.2.1 dL_placeBuyFor_2 (by decide) ?_
  refine lv_aload_n C.1 C.2.1 dL_placeBuyFor_3 rfl (lv_at hl 0 rfl) ?_
  refine lv_iload_n C.1 C.2.1 dL_placeBuyFor_4 rfl (lv_at hl 1 rfl) ?_
  refine lv_iload_n C.1 C.2.1 dL_placeBuyFor_5 rfl (lv_at hl 2 rfl) ?_
  refine lv_iload_n C.1 C.2.1 dL_placeBuyFor_6 rfl (lv_at hl 3 rfl) ?_
  refine lv_iload C.1 C.2.1 dL_placeBuyFor_7 (lv_at hl 4 rfl) ?_
  refine y_vi C (hw.perm hpe) hM ml_L_28 yf_X11_placeBuyFor q0 he rfl (As := [.int x0, .int x1, .int x2, .int x3]) rfl rfl ⟨Nat.le_refl _, by show 8 + (5 + 11) + 64 * d ≤ 64 * (d + 1); omega⟩ ⟨Nat.le_of_eq (Nat.zero_add _), Nat.le_of_eq (Nat.zero_add _)⟩ hl.1 (Nat.le_of_ble_eq_true rfl) dL_placeBuyFor_9 (fun k1 q ce H locs hp hw hc1 hc2 hc3 => ?_) (fun r u H locs hp hw => ?_)
  · obtain ⟨hk, hpm⟩ := hpx k1 hp
    replace hw := hw.perm hpm
    rcases hk with rfl | rfl | rfl | rfl
    · refine vx_catch (own := RL) (name := "java/lang/IndexOutOfBoundsException") (E := "java/lang/IndexOutOfBoundsException") C.2.2.2.2.1 (tableOf []) { startPc := 0, endPc := 14, handlerPc := 17, catchType := 21 } (tableOf [(0, 14, 21, 13), (0, 14, 25, 15), (0, 14, 29, 23)]) htab (fun z hz => nomatch hz) (by decide) (by decide) (C.2.2.2.2.2.1 _ cl_L_21) (fw_mv C rfl rfl (hb _ (tb4 _ (List.mem_of_getElem? (i := 162) rfl)))) hc1 hc2 hc3 ?_
      refine lv_astore (lv' := [(6, .ref q), (0, .ref b), (1, .int x0), (2, .int x1), (3, .int x2), (4, .int x3), (5, .ref o)]) C.1 C.2.1 dL_placeBuyFor_17 hl (by decide) rfl (fun ls hl => ?_)
      refine lv_iconst (v := 1) C.1 C.2.1 dL_placeBuyFor_19 (by decide) ?_
      exact r_iret C hw rfl rfl (Sum.inr 1) ⟨rfl, hp⟩ rfl (Nat.le_of_eq (Nat.zero_add _)) (Nat.le_of_eq (Nat.zero_add _)) dL_placeBuyFor_20
    · refine vx_catch (own := RL) (name := "java/lang/IllegalArgumentException") (E := "java/lang/IllegalArgumentException") C.2.2.2.2.1 (tableOf [(0, 14, 17, 21)]) { startPc := 0, endPc := 14, handlerPc := 21, catchType := 13 } (tableOf [(0, 14, 25, 15), (0, 14, 29, 23)]) htab (List.forall_mem_cons.mpr ⟨Or.inr ⟨by decide, _, C.2.2.2.2.2.1 _ cl_L_21, (SF.nc_2_1 hF).moved C.2.2.2.2.2.2.2.1.alike⟩, (fun z hz => nomatch hz)⟩) (by decide) (by decide) (C.2.2.2.2.2.1 _ cl_L_13) (fw_mv C rfl rfl (hb _ (tb3 _ (List.mem_of_getElem? (i := 55) rfl)))) hc1 hc2 hc3 ?_
      refine lv_astore (lv' := [(6, .ref q), (0, .ref b), (1, .int x0), (2, .int x1), (3, .int x2), (4, .int x3), (5, .ref o)]) C.1 C.2.1 dL_placeBuyFor_21 hl (by decide) rfl (fun ls hl => ?_)
      refine lv_iconst (v := 2) C.1 C.2.1 dL_placeBuyFor_23 (by decide) ?_
      exact r_iret C hw rfl rfl (Sum.inr 2) ⟨rfl, hp⟩ rfl (Nat.le_of_eq (Nat.zero_add _)) (Nat.le_of_eq (Nat.zero_add _)) dL_placeBuyFor_24
    · refine vx_catch (own := RL) (name := "java/lang/IllegalStateException") (E := "java/lang/IllegalStateException") C.2.2.2.2.1 (tableOf [(0, 14, 17, 21), (0, 14, 21, 13)]) { startPc := 0, endPc := 14, handlerPc := 25, catchType := 15 } (tableOf [(0, 14, 29, 23)]) htab (List.forall_mem_cons.mpr ⟨Or.inr ⟨by decide, _, C.2.2.2.2.2.1 _ cl_L_21, (SF.nc_3_1 hF).moved C.2.2.2.2.2.2.2.1.alike⟩, (List.forall_mem_cons.mpr ⟨Or.inr ⟨by decide, _, C.2.2.2.2.2.1 _ cl_L_13, (SF.nc_3_2 hF).moved C.2.2.2.2.2.2.2.1.alike⟩, (fun z hz => nomatch hz)⟩)⟩) (by decide) (by decide) (C.2.2.2.2.2.1 _ cl_L_15) (fw_mv C rfl rfl (hb _ (tb4 _ (List.mem_of_getElem? (i := 180) rfl)))) hc1 hc2 hc3 ?_
      refine lv_astore (lv' := [(6, .ref q), (0, .ref b), (1, .int x0), (2, .int x1), (3, .int x2), (4, .int x3), (5, .ref o)]) C.1 C.2.1 dL_placeBuyFor_25 hl (by decide) rfl (fun ls hl => ?_)
      refine lv_iconst (v := 3) C.1 C.2.1 dL_placeBuyFor_27 (by decide) ?_
      exact r_iret C hw rfl rfl (Sum.inr 3) ⟨rfl, hp⟩ rfl (Nat.le_of_eq (Nat.zero_add _)) (Nat.le_of_eq (Nat.zero_add _)) dL_placeBuyFor_28
    · refine vx_catch (own := RL) (name := "java/lang/UnsupportedOperationException") (E := "java/lang/UnsupportedOperationException") C.2.2.2.2.1 (tableOf [(0, 14, 17, 21), (0, 14, 21, 13), (0, 14, 25, 15)]) { startPc := 0, endPc := 14, handlerPc := 29, catchType := 23 } (tableOf []) htab (List.forall_mem_cons.mpr ⟨Or.inr ⟨by decide, _, C.2.2.2.2.2.1 _ cl_L_21, (SF.nc_4_1 hF).moved C.2.2.2.2.2.2.2.1.alike⟩, (List.forall_mem_cons.mpr ⟨Or.inr ⟨by decide, _, C.2.2.2.2.2.1 _ cl_L_13, (SF.nc_4_2 hF).moved C.2.2.2.2.2.2.2.1.alike⟩, (List.forall_mem_cons.mpr ⟨Or.inr ⟨by decide, _, C.2.2.2.2.2.1 _ cl_L_15, (SF.nc_4_3 hF).moved C.2.2.2.2.2.2.2.1.alike⟩, (fun z hz => nomatch hz)⟩)⟩)⟩) (by decide) (by decide) (C.2.2.2.2.2.1 _ cl_L_23) (fw_mv C rfl rfl (hb _ (tb4 _ (List.mem_of_getElem? (i := 198) rfl)))) hc1 hc2 hc3 ?_
      refine lv_astore (lv' := [(6, .ref q), (0, .ref b), (1, .int x0), (2, .int x1), (3, .int x2), (4, .int x3), (5, .ref o)]) C.1 C.2.1 dL_placeBuyFor_29 hl (by decide) rfl (fun ls hl => ?_)
      refine lv_iconst (v := 4) C.1 C.2.1 dL_placeBuyFor_31 (by decide) ?_
      exact r_iret C hw rfl rfl (Sum.inr 4) ⟨rfl, hp⟩ rfl (Nat.le_of_eq (Nat.zero_add _)) (Nat.le_of_eq (Nat.zero_add _)) dL_placeBuyFor_32
  · replace hw := hw.perm (hpn u)
    refine lv_i2l (v := r.toInt64) C.1 C.2.1 dL_placeBuyFor_12 rfl ?_
    refine r_last C hw 0 rfl (n := 1) (i := 0) (x := r.toInt64) (show ¬ ((0 : Int32) < 0 ∨ 1 ≤ (0 : Int32).toNatClampNeg) by decide) (w' := (o, .inl (G.2.2.1 4, 1, .inr (.inl (vp_updL f 0 r.toInt64)))) :: WfA u) rfl dL_placeBuyFor_13 (fun H locs hw => ?_)
    refine lv_goto (tgt := 33) C.1 C.2.1 dL_placeBuyFor_14 (by decide) ?_
    refine lv_iconst (v := 0) C.1 C.2.1 dL_placeBuyFor_33 (by decide) ?_
    exact r_iret C hw rfl rfl (Sum.inl (r, u)) ⟨rfl, hp⟩ rfl (Nat.le_of_eq (Nat.zero_add _)) (Nat.le_of_eq (Nat.zero_add _)) dL_placeBuyFor_34
set_option maxHeartbeats 4000000 in
set_option maxRecDepth 100000 in
theorem w_placeSellFor {l : Launch} {G : Gx} (hF : SF l G) {S : Type} {d k z : Nat} {post : Int32 → S → Prop} {Wf : S → va_W} {px : Nat → Prop} {Wx : Nat → va_W} {b o : Nat} {fs : List Value} {f : Nat → Int64} {wA w : va_W} {WfA : S → va_W} {WxA : Nat → va_W} {x0 x1 x2 x3 : Int32} (hM : XI l G yX11_placeSellFor cX11_placeSellFor 5 .int d k z [.ref b, .int x0, .int x1, .int x2, .int x3] w post Wf px Wx) (hpe : List.Perm ((o, .inl (G.2.2.1 4, 1, .inr (.inl f))) :: wA) w) (q0 : Nat) (he : w[q0]? = some (b, .inr (12, fs))) (hpn : ∀ u, List.Perm (Wf u) ((o, .inl (G.2.2.1 4, 1, .inr (.inl f))) :: WfA u)) (hpx : ∀ k1, px k1 → (k1 = 1 ∨ k1 = 2 ∨ k1 = 3 ∨ k1 = 4) ∧ List.Perm (Wx k1) ((o, .inl (G.2.2.1 4, 1, .inr (.inl f))) :: WxA k1)) : HI l G yL_placeSellFor cL_placeSellFor 7 [(0, 14, 17, 21), (0, 14, 21, 13), (0, 14, 25, 15), (0, 14, 29, 23)] (d + 1) k z [.ref b, .int x0, .int x1, .int x2, .int x3, .ref o] ((o, .inl (G.2.2.1 4, 1, .inr (.inl f))) :: wA) (fun c1 (t : (Int32 × S) ⊕ Nat) => match t with | .inl (r, u) => c1 = 0 ∧ post r u | .inr k1 => c1 = (if k1 = 1 then 1 else (if k1 = 2 then 2 else (if k1 = 3 then 3 else (if k1 = 4 then 4 else 0)))) ∧ px k1) (fun t => match t with | .inl (r, u) => (o, .inl (G.2.2.1 4, 1, .inr (.inl (vp_updL f 0 r.toInt64)))) :: WfA u | .inr k1 => (o, .inl (G.2.2.1 4, 1, .inr (.inl f))) :: WxA k1) := by
  refine mh_of hF (by decide) (Nat.le_of_ble_eq_true rfl) ?_
  intro p e s m below meth c C htab ls hl H locs hw
  have hl : lv_has ls 7 [(0, .ref b), (1, .int x0), (2, .int x1), (3, .int x2), (4, .int x3), (5, .ref o)] := hl
  obtain ⟨bb, hb, -⟩ := id C.2.2.2.2.2.2.2.2.2.2.2.2
  refine lv_aload C.1 C.2.1 dL_placeSellFor_0 (lv_at hl 5 rfl) ?_
  refine lv_iconst (v := 0) C.1 C.2.1 dL_placeSellFor_2 (by decide) ?_
  refine lv_aload_n C.1 C.2.1 dL_placeSellFor_3 rfl (lv_at hl 0 rfl) ?_
  refine lv_iload_n C.1 C.2.1 dL_placeSellFor_4 rfl (lv_at hl 1 rfl) ?_
  refine lv_iload_n C.1 C.2.1 dL_placeSellFor_5 rfl (lv_at hl 2 rfl) ?_
  refine lv_iload_n C.1 C.2.1 dL_placeSellFor_6 rfl (lv_at hl 3 rfl) ?_
  refine lv_iload C.1 C.2.1 dL_placeSellFor_7 (lv_at hl 4 rfl) ?_
  refine y_vi C (hw.perm hpe) hM ml_L_32 yf_X11_placeSellFor q0 he rfl (As := [.int x0, .int x1, .int x2, .int x3]) rfl rfl ⟨Nat.le_refl _, by show 8 + (5 + 11) + 64 * d ≤ 64 * (d + 1); omega⟩ ⟨Nat.le_of_eq (Nat.zero_add _), Nat.le_of_eq (Nat.zero_add _)⟩ hl.1 (Nat.le_of_ble_eq_true rfl) dL_placeSellFor_9 (fun k1 q ce H locs hp hw hc1 hc2 hc3 => ?_) (fun r u H locs hp hw => ?_)
  · obtain ⟨hk, hpm⟩ := hpx k1 hp
    replace hw := hw.perm hpm
    rcases hk with rfl | rfl | rfl | rfl
    · refine vx_catch (own := RL) (name := "java/lang/IndexOutOfBoundsException") (E := "java/lang/IndexOutOfBoundsException") C.2.2.2.2.1 (tableOf []) { startPc := 0, endPc := 14, handlerPc := 17, catchType := 21 } (tableOf [(0, 14, 21, 13), (0, 14, 25, 15), (0, 14, 29, 23)]) htab (fun z hz => nomatch hz) (by decide) (by decide) (C.2.2.2.2.2.1 _ cl_L_21) (fw_mv C rfl rfl (hb _ (tb4 _ (List.mem_of_getElem? (i := 162) rfl)))) hc1 hc2 hc3 ?_
      refine lv_astore (lv' := [(6, .ref q), (0, .ref b), (1, .int x0), (2, .int x1), (3, .int x2), (4, .int x3), (5, .ref o)]) C.1 C.2.1 dL_placeSellFor_17 hl (by decide) rfl (fun ls hl => ?_)
      refine lv_iconst (v := 1) C.1 C.2.1 dL_placeSellFor_19 (by decide) ?_
      exact r_iret C hw rfl rfl (Sum.inr 1) ⟨rfl, hp⟩ rfl (Nat.le_of_eq (Nat.zero_add _)) (Nat.le_of_eq (Nat.zero_add _)) dL_placeSellFor_20
    · refine vx_catch (own := RL) (name := "java/lang/IllegalArgumentException") (E := "java/lang/IllegalArgumentException") C.2.2.2.2.1 (tableOf [(0, 14, 17, 21)]) { startPc := 0, endPc := 14, handlerPc := 21, catchType := 13 } (tableOf [(0, 14, 25, 15), (0, 14, 29, 23)]) htab (List.forall_mem_cons.mpr ⟨Or.inr ⟨by decide, _, C.2.2.2.2.2.1 _ cl_L_21, (SF.nc_2_1 hF).moved C.2.2.2.2.2.2.2.1.alike⟩, (fun z hz => nomatch hz)⟩) (by decide) (by decide) (C.2.2.2.2.2.1 _ cl_L_13) (fw_mv C rfl rfl (hb _ (tb3 _ (List.mem_of_getElem? (i := 55) rfl)))) hc1 hc2 hc3 ?_
      refine lv_astore (lv' := [(6, .ref q), (0, .ref b), (1, .int x0), (2, .int x1), (3, .int x2), (4, .int x3), (5, .ref o)]) C.1 C.2.1 dL_placeSellFor_21 hl (by decide) rfl (fun ls hl => ?_)
      refine lv_iconst (v := 2) C.1 C.2.1 dL_placeSellFor_23 (by decide) ?_
      exact r_iret C hw rfl rfl (Sum.inr 2) ⟨rfl, hp⟩ rfl (Nat.le_of_eq (Nat.zero_add _)) (Nat.le_of_eq (Nat.zero_add _)) dL_placeSellFor_24
    · refine vx_catch (own := RL) (name := "java/lang/IllegalStateException") (E := "java/lang/IllegalStateException") C.2.2.2.2.1 (tableOf [(0, 14, 17, 21), (0, 14, 21, 13)]) { startPc := 0, endPc := 14, handlerPc := 25, catchType := 15 } (tableOf [(0, 14, 29, 23)]) htab (List.forall_mem_cons.mpr ⟨Or.inr ⟨by decide, _, C.2.2.2.2.2.1 _ cl_L_21, (SF.nc_3_1 hF).moved C.2.2.2.2.2.2.2.1.alike⟩, (List.forall_mem_cons.mpr ⟨Or.inr ⟨by decide, _, C.2.2.2.2.2.1 _ cl_L_13, (SF.nc_3_2 hF).moved C.2.2.2.2.2.2.2.1.alike⟩, (fun z hz => nomatch hz)⟩)⟩) (by decide) (by decide) (C.2.2.2.2.2.1 _ cl_L_15) (fw_mv C rfl rfl (hb _ (tb4 _ (List.mem_of_getElem? (i := 180) rfl)))) hc1 hc2 hc3 ?_
      refine lv_astore (lv' := [(6, .ref q), (0, .ref b), (1, .int x0), (2, .int x1), (3, .int x2), (4, .int x3), (5, .ref o)]) C.1 C.2.1 dL_placeSellFor_25 hl (by decide) rfl (fun ls hl => ?_)
      refine lv_iconst (v := 3) C.1 C.2.1 dL_placeSellFor_27 (by decide) ?_
      exact r_iret C hw rfl rfl (Sum.inr 3) ⟨rfl, hp⟩ rfl (Nat.le_of_eq (Nat.zero_add _)) (Nat.le_of_eq (Nat.zero_add _)) dL_placeSellFor_28
    · refine vx_catch (own := RL) (name := "java/lang/UnsupportedOperationException") (E := "java/lang/UnsupportedOperationException") C.2.2.2.2.1 (tableOf [(0, 14, 17, 21), (0, 14, 21, 13), (0, 14, 25, 15)]) { startPc := 0, endPc := 14, handlerPc := 29, catchType := 23 } (tableOf []) htab (List.forall_mem_cons.mpr ⟨Or.inr ⟨by decide, _, C.2.2.2.2.2.1 _ cl_L_21, (SF.nc_4_1 hF).moved C.2.2.2.2.2.2.2.1.alike⟩, (List.forall_mem_cons.mpr ⟨Or.inr ⟨by decide, _, C.2.2.2.2.2.1 _ cl_L_13, (SF.nc_4_2 hF).moved C.2.2.2.2.2.2.2.1.alike⟩, (List.forall_mem_cons.mpr ⟨Or.inr ⟨by decide, _, C.2.2.2.2.2.1 _ cl_L_15, (SF.nc_4_3 hF).moved C.2.2.2.2.2.2.2.1.alike⟩, (fun z hz => nomatch hz)⟩)⟩)⟩) (by decide) (by decide) (C.2.2.2.2.2.1 _ cl_L_23) (fw_mv C rfl rfl (hb _ (tb4 _ (List.mem_of_getElem? (i := 198) rfl)))) hc1 hc2 hc3 ?_
      refine lv_astore (lv' := [(6, .ref q), (0, .ref b), (1, .int x0), (2, .int x1), (3, .int x2), (4, .int x3), (5, .ref o)]) C.1 C.2.1 dL_placeSellFor_29 hl (by decide) rfl (fun ls hl => ?_)
      refine lv_iconst (v := 4) C.1 C.2.1 dL_placeSellFor_31 (by decide) ?_
      exact r_iret C hw rfl rfl (Sum.inr 4) ⟨rfl, hp⟩ rfl (Nat.le_of_eq (Nat.zero_add _)) (Nat.le_of_eq (Nat.zero_add _)) dL_placeSellFor_32
  · replace hw := hw.perm (hpn u)
    refine lv_i2l (v := r.toInt64) C.1 C.2.1 dL_placeSellFor_12 rfl ?_
    refine r_last C hw 0 rfl (n := 1) (i := 0) (x := r.toInt64) (show ¬ ((0 : Int32) < 0 ∨ 1 ≤ (0 : Int32).toNatClampNeg) by decide) (w' := (o, .inl (G.2.2.1 4, 1, .inr (.inl (vp_updL f 0 r.toInt64)))) :: WfA u) rfl dL_placeSellFor_13 (fun H locs hw => ?_)
    refine lv_goto (tgt := 33) C.1 C.2.1 dL_placeSellFor_14 (by decide) ?_
    refine lv_iconst (v := 0) C.1 C.2.1 dL_placeSellFor_33 (by decide) ?_
    exact r_iret C hw rfl rfl (Sum.inl (r, u)) ⟨rfl, hp⟩ rfl (Nat.le_of_eq (Nat.zero_add _)) (Nat.le_of_eq (Nat.zero_add _)) dL_placeSellFor_34
set_option maxHeartbeats 4000000 in
set_option maxRecDepth 100000 in
theorem w_takeBuy {l : Launch} {G : Gx} (hF : SF l G) {S : Type} {d k z : Nat} {post : Int32 → S → Prop} {Wf : S → va_W} {px : Nat → Prop} {Wx : Nat → va_W} {b o : Nat} {fs : List Value} {f : Nat → Int64} {wA w : va_W} {WfA : S → va_W} {WxA : Nat → va_W} {x0 x1 x2 : Int32} (hM : XI l G yX11_takeBuy cX11_takeBuy 4 .int d k z [.ref b, .int x0, .int x1, .int x2] w post Wf px Wx) (hpe : List.Perm ((o, .inl (G.2.2.1 4, 1, .inr (.inl f))) :: wA) w) (q0 : Nat) (he : w[q0]? = some (b, .inr (12, fs))) (hpn : ∀ u, List.Perm (Wf u) ((o, .inl (G.2.2.1 4, 1, .inr (.inl f))) :: WfA u)) (hpx : ∀ k1, px k1 → (k1 = 1 ∨ k1 = 2 ∨ k1 = 3 ∨ k1 = 4) ∧ List.Perm (Wx k1) ((o, .inl (G.2.2.1 4, 1, .inr (.inl f))) :: WxA k1)) : HI l G yL_takeBuy cL_takeBuy 6 [(0, 12, 15, 21), (0, 12, 19, 13), (0, 12, 23, 15), (0, 12, 27, 23)] (d + 1) k z [.ref b, .int x0, .int x1, .int x2, .ref o] ((o, .inl (G.2.2.1 4, 1, .inr (.inl f))) :: wA) (fun c1 (t : (Int32 × S) ⊕ Nat) => match t with | .inl (r, u) => c1 = 0 ∧ post r u | .inr k1 => c1 = (if k1 = 1 then 1 else (if k1 = 2 then 2 else (if k1 = 3 then 3 else (if k1 = 4 then 4 else 0)))) ∧ px k1) (fun t => match t with | .inl (r, u) => (o, .inl (G.2.2.1 4, 1, .inr (.inl (vp_updL f 0 r.toInt64)))) :: WfA u | .inr k1 => (o, .inl (G.2.2.1 4, 1, .inr (.inl f))) :: WxA k1) := by
  refine mh_of hF (by decide) (Nat.le_of_ble_eq_true rfl) ?_
  intro p e s m below meth c C htab ls hl H locs hw
  have hl : lv_has ls 6 [(0, .ref b), (1, .int x0), (2, .int x1), (3, .int x2), (4, .ref o)] := hl
  obtain ⟨bb, hb, -⟩ := id C.2.2.2.2.2.2.2.2.2.2.2.2
  refine lv_aload C.1 C.2.1 dL_takeBuy_0 (lv_at hl 4 rfl) ?_
  refine lv_iconst (v := 0) C.1 C.2.1 dL_takeBuy_2 (by decide) ?_
  refine lv_aload_n C.1 C.2.1 dL_takeBuy_3 rfl (lv_at hl 0 rfl) ?_
  refine lv_iload_n C.1 C.2.1 dL_takeBuy_4 rfl (lv_at hl 1 rfl) ?_
  refine lv_iload_n C.1 C.2.1 dL_takeBuy_5 rfl (lv_at hl 2 rfl) ?_
  refine lv_iload_n C.1 C.2.1 dL_takeBuy_6 rfl (lv_at hl 3 rfl) ?_
  refine y_vi C (hw.perm hpe) hM ml_L_35 yf_X11_takeBuy q0 he rfl (As := [.int x0, .int x1, .int x2]) rfl rfl ⟨Nat.le_refl _, by show 8 + (4 + 11) + 64 * d ≤ 64 * (d + 1); omega⟩ ⟨Nat.le_of_eq (Nat.zero_add _), Nat.le_of_eq (Nat.zero_add _)⟩ hl.1 (Nat.le_of_ble_eq_true rfl) dL_takeBuy_7 (fun k1 q ce H locs hp hw hc1 hc2 hc3 => ?_) (fun r u H locs hp hw => ?_)
  · obtain ⟨hk, hpm⟩ := hpx k1 hp
    replace hw := hw.perm hpm
    rcases hk with rfl | rfl | rfl | rfl
    · refine vx_catch (own := RL) (name := "java/lang/IndexOutOfBoundsException") (E := "java/lang/IndexOutOfBoundsException") C.2.2.2.2.1 (tableOf []) { startPc := 0, endPc := 12, handlerPc := 15, catchType := 21 } (tableOf [(0, 12, 19, 13), (0, 12, 23, 15), (0, 12, 27, 23)]) htab (fun z hz => nomatch hz) (by decide) (by decide) (C.2.2.2.2.2.1 _ cl_L_21) (fw_mv C rfl rfl (hb _ (tb4 _ (List.mem_of_getElem? (i := 162) rfl)))) hc1 hc2 hc3 ?_
      refine lv_astore (lv' := [(5, .ref q), (0, .ref b), (1, .int x0), (2, .int x1), (3, .int x2), (4, .ref o)]) C.1 C.2.1 dL_takeBuy_15 hl (by decide) rfl (fun ls hl => ?_)
      refine lv_iconst (v := 1) C.1 C.2.1 dL_takeBuy_17 (by decide) ?_
      exact r_iret C hw rfl rfl (Sum.inr 1) ⟨rfl, hp⟩ rfl (Nat.le_of_eq (Nat.zero_add _)) (Nat.le_of_eq (Nat.zero_add _)) dL_takeBuy_18
    · refine vx_catch (own := RL) (name := "java/lang/IllegalArgumentException") (E := "java/lang/IllegalArgumentException") C.2.2.2.2.1 (tableOf [(0, 12, 15, 21)]) { startPc := 0, endPc := 12, handlerPc := 19, catchType := 13 } (tableOf [(0, 12, 23, 15), (0, 12, 27, 23)]) htab (List.forall_mem_cons.mpr ⟨Or.inr ⟨by decide, _, C.2.2.2.2.2.1 _ cl_L_21, (SF.nc_2_1 hF).moved C.2.2.2.2.2.2.2.1.alike⟩, (fun z hz => nomatch hz)⟩) (by decide) (by decide) (C.2.2.2.2.2.1 _ cl_L_13) (fw_mv C rfl rfl (hb _ (tb3 _ (List.mem_of_getElem? (i := 55) rfl)))) hc1 hc2 hc3 ?_
      refine lv_astore (lv' := [(5, .ref q), (0, .ref b), (1, .int x0), (2, .int x1), (3, .int x2), (4, .ref o)]) C.1 C.2.1 dL_takeBuy_19 hl (by decide) rfl (fun ls hl => ?_)
      refine lv_iconst (v := 2) C.1 C.2.1 dL_takeBuy_21 (by decide) ?_
      exact r_iret C hw rfl rfl (Sum.inr 2) ⟨rfl, hp⟩ rfl (Nat.le_of_eq (Nat.zero_add _)) (Nat.le_of_eq (Nat.zero_add _)) dL_takeBuy_22
    · refine vx_catch (own := RL) (name := "java/lang/IllegalStateException") (E := "java/lang/IllegalStateException") C.2.2.2.2.1 (tableOf [(0, 12, 15, 21), (0, 12, 19, 13)]) { startPc := 0, endPc := 12, handlerPc := 23, catchType := 15 } (tableOf [(0, 12, 27, 23)]) htab (List.forall_mem_cons.mpr ⟨Or.inr ⟨by decide, _, C.2.2.2.2.2.1 _ cl_L_21, (SF.nc_3_1 hF).moved C.2.2.2.2.2.2.2.1.alike⟩, (List.forall_mem_cons.mpr ⟨Or.inr ⟨by decide, _, C.2.2.2.2.2.1 _ cl_L_13, (SF.nc_3_2 hF).moved C.2.2.2.2.2.2.2.1.alike⟩, (fun z hz => nomatch hz)⟩)⟩) (by decide) (by decide) (C.2.2.2.2.2.1 _ cl_L_15) (fw_mv C rfl rfl (hb _ (tb4 _ (List.mem_of_getElem? (i := 180) rfl)))) hc1 hc2 hc3 ?_
      refine lv_astore (lv' := [(5, .ref q), (0, .ref b), (1, .int x0), (2, .int x1), (3, .int x2), (4, .ref o)]) C.1 C.2.1 dL_takeBuy_23 hl (by decide) rfl (fun ls hl => ?_)
      refine lv_iconst (v := 3) C.1 C.2.1 dL_takeBuy_25 (by decide) ?_
      exact r_iret C hw rfl rfl (Sum.inr 3) ⟨rfl, hp⟩ rfl (Nat.le_of_eq (Nat.zero_add _)) (Nat.le_of_eq (Nat.zero_add _)) dL_takeBuy_26
    · refine vx_catch (own := RL) (name := "java/lang/UnsupportedOperationException") (E := "java/lang/UnsupportedOperationException") C.2.2.2.2.1 (tableOf [(0, 12, 15, 21), (0, 12, 19, 13), (0, 12, 23, 15)]) { startPc := 0, endPc := 12, handlerPc := 27, catchType := 23 } (tableOf []) htab (List.forall_mem_cons.mpr ⟨Or.inr ⟨by decide, _, C.2.2.2.2.2.1 _ cl_L_21, (SF.nc_4_1 hF).moved C.2.2.2.2.2.2.2.1.alike⟩, (List.forall_mem_cons.mpr ⟨Or.inr ⟨by decide, _, C.2.2.2.2.2.1 _ cl_L_13, (SF.nc_4_2 hF).moved C.2.2.2.2.2.2.2.1.alike⟩, (List.forall_mem_cons.mpr ⟨Or.inr ⟨by decide, _, C.2.2.2.2.2.1 _ cl_L_15, (SF.nc_4_3 hF).moved C.2.2.2.2.2.2.2.1.alike⟩, (fun z hz => nomatch hz)⟩)⟩)⟩) (by decide) (by decide) (C.2.2.2.2.2.1 _ cl_L_23) (fw_mv C rfl rfl (hb _ (tb4 _ (List.mem_of_getElem? (i := 198) rfl)))) hc1 hc2 hc3 ?_
      refine lv_astore (lv' := [(5, .ref q), (0, .ref b), (1, .int x0), (2, .int x1), (3, .int x2), (4, .ref o)]) C.1 C.2.1 dL_takeBuy_27 hl (by decide) rfl (fun ls hl => ?_)
      refine lv_iconst (v := 4) C.1 C.2.1 dL_takeBuy_29 (by decide) ?_
      exact r_iret C hw rfl rfl (Sum.inr 4) ⟨rfl, hp⟩ rfl (Nat.le_of_eq (Nat.zero_add _)) (Nat.le_of_eq (Nat.zero_add _)) dL_takeBuy_30
  · replace hw := hw.perm (hpn u)
    refine lv_i2l (v := r.toInt64) C.1 C.2.1 dL_takeBuy_10 rfl ?_
    refine r_last C hw 0 rfl (n := 1) (i := 0) (x := r.toInt64) (show ¬ ((0 : Int32) < 0 ∨ 1 ≤ (0 : Int32).toNatClampNeg) by decide) (w' := (o, .inl (G.2.2.1 4, 1, .inr (.inl (vp_updL f 0 r.toInt64)))) :: WfA u) rfl dL_takeBuy_11 (fun H locs hw => ?_)
    refine lv_goto (tgt := 31) C.1 C.2.1 dL_takeBuy_12 (by decide) ?_
    refine lv_iconst (v := 0) C.1 C.2.1 dL_takeBuy_31 (by decide) ?_
    exact r_iret C hw rfl rfl (Sum.inl (r, u)) ⟨rfl, hp⟩ rfl (Nat.le_of_eq (Nat.zero_add _)) (Nat.le_of_eq (Nat.zero_add _)) dL_takeBuy_32
set_option maxHeartbeats 4000000 in
set_option maxRecDepth 100000 in
theorem w_takeSell {l : Launch} {G : Gx} (hF : SF l G) {S : Type} {d k z : Nat} {post : Int32 → S → Prop} {Wf : S → va_W} {px : Nat → Prop} {Wx : Nat → va_W} {b o : Nat} {fs : List Value} {f : Nat → Int64} {wA w : va_W} {WfA : S → va_W} {WxA : Nat → va_W} {x0 x1 x2 : Int32} (hM : XI l G yX11_takeSell cX11_takeSell 4 .int d k z [.ref b, .int x0, .int x1, .int x2] w post Wf px Wx) (hpe : List.Perm ((o, .inl (G.2.2.1 4, 1, .inr (.inl f))) :: wA) w) (q0 : Nat) (he : w[q0]? = some (b, .inr (12, fs))) (hpn : ∀ u, List.Perm (Wf u) ((o, .inl (G.2.2.1 4, 1, .inr (.inl f))) :: WfA u)) (hpx : ∀ k1, px k1 → (k1 = 1 ∨ k1 = 2 ∨ k1 = 3 ∨ k1 = 4) ∧ List.Perm (Wx k1) ((o, .inl (G.2.2.1 4, 1, .inr (.inl f))) :: WxA k1)) : HI l G yL_takeSell cL_takeSell 6 [(0, 12, 15, 21), (0, 12, 19, 13), (0, 12, 23, 15), (0, 12, 27, 23)] (d + 1) k z [.ref b, .int x0, .int x1, .int x2, .ref o] ((o, .inl (G.2.2.1 4, 1, .inr (.inl f))) :: wA) (fun c1 (t : (Int32 × S) ⊕ Nat) => match t with | .inl (r, u) => c1 = 0 ∧ post r u | .inr k1 => c1 = (if k1 = 1 then 1 else (if k1 = 2 then 2 else (if k1 = 3 then 3 else (if k1 = 4 then 4 else 0)))) ∧ px k1) (fun t => match t with | .inl (r, u) => (o, .inl (G.2.2.1 4, 1, .inr (.inl (vp_updL f 0 r.toInt64)))) :: WfA u | .inr k1 => (o, .inl (G.2.2.1 4, 1, .inr (.inl f))) :: WxA k1) := by
  refine mh_of hF (by decide) (Nat.le_of_ble_eq_true rfl) ?_
  intro p e s m below meth c C htab ls hl H locs hw
  have hl : lv_has ls 6 [(0, .ref b), (1, .int x0), (2, .int x1), (3, .int x2), (4, .ref o)] := hl
  obtain ⟨bb, hb, -⟩ := id C.2.2.2.2.2.2.2.2.2.2.2.2
  refine lv_aload C.1 C.2.1 dL_takeSell_0 (lv_at hl 4 rfl) ?_
  refine lv_iconst (v := 0) C.1 C.2.1 dL_takeSell_2 (by decide) ?_
  refine lv_aload_n C.1 C.2.1 dL_takeSell_3 rfl (lv_at hl 0 rfl) ?_
  refine lv_iload_n C.1 C.2.1 dL_takeSell_4 rfl (lv_at hl 1 rfl) ?_
  refine lv_iload_n C.1 C.2.1 dL_takeSell_5 rfl (lv_at hl 2 rfl) ?_
  refine lv_iload_n C.1 C.2.1 dL_takeSell_6 rfl (lv_at hl 3 rfl) ?_
  refine y_vi C (hw.perm hpe) hM ml_L_38 yf_X11_takeSell q0 he rfl (As := [.int x0, .int x1, .int x2]) rfl rfl ⟨Nat.le_refl _, by show 8 + (4 + 11) + 64 * d ≤ 64 * (d + 1); omega⟩ ⟨Nat.le_of_eq (Nat.zero_add _), Nat.le_of_eq (Nat.zero_add _)⟩ hl.1 (Nat.le_of_ble_eq_true rfl) dL_takeSell_7 (fun k1 q ce H locs hp hw hc1 hc2 hc3 => ?_) (fun r u H locs hp hw => ?_)
  · obtain ⟨hk, hpm⟩ := hpx k1 hp
    replace hw := hw.perm hpm
    rcases hk with rfl | rfl | rfl | rfl
    · refine vx_catch (own := RL) (name := "java/lang/IndexOutOfBoundsException") (E := "java/lang/IndexOutOfBoundsException") C.2.2.2.2.1 (tableOf []) { startPc := 0, endPc := 12, handlerPc := 15, catchType := 21 } (tableOf [(0, 12, 19, 13), (0, 12, 23, 15), (0, 12, 27, 23)]) htab (fun z hz => nomatch hz) (by decide) (by decide) (C.2.2.2.2.2.1 _ cl_L_21) (fw_mv C rfl rfl (hb _ (tb4 _ (List.mem_of_getElem? (i := 162) rfl)))) hc1 hc2 hc3 ?_
      refine lv_astore (lv' := [(5, .ref q), (0, .ref b), (1, .int x0), (2, .int x1), (3, .int x2), (4, .ref o)]) C.1 C.2.1 dL_takeSell_15 hl (by decide) rfl (fun ls hl => ?_)
      refine lv_iconst (v := 1) C.1 C.2.1 dL_takeSell_17 (by decide) ?_
      exact r_iret C hw rfl rfl (Sum.inr 1) ⟨rfl, hp⟩ rfl (Nat.le_of_eq (Nat.zero_add _)) (Nat.le_of_eq (Nat.zero_add _)) dL_takeSell_18
    · refine vx_catch (own := RL) (name := "java/lang/IllegalArgumentException") (E := "java/lang/IllegalArgumentException") C.2.2.2.2.1 (tableOf [(0, 12, 15, 21)]) { startPc := 0, endPc := 12, handlerPc := 19, catchType := 13 } (tableOf [(0, 12, 23, 15), (0, 12, 27, 23)]) htab (List.forall_mem_cons.mpr ⟨Or.inr ⟨by decide, _, C.2.2.2.2.2.1 _ cl_L_21, (SF.nc_2_1 hF).moved C.2.2.2.2.2.2.2.1.alike⟩, (fun z hz => nomatch hz)⟩) (by decide) (by decide) (C.2.2.2.2.2.1 _ cl_L_13) (fw_mv C rfl rfl (hb _ (tb3 _ (List.mem_of_getElem? (i := 55) rfl)))) hc1 hc2 hc3 ?_
      refine lv_astore (lv' := [(5, .ref q), (0, .ref b), (1, .int x0), (2, .int x1), (3, .int x2), (4, .ref o)]) C.1 C.2.1 dL_takeSell_19 hl (by decide) rfl (fun ls hl => ?_)
      refine lv_iconst (v := 2) C.1 C.2.1 dL_takeSell_21 (by decide) ?_
      exact r_iret C hw rfl rfl (Sum.inr 2) ⟨rfl, hp⟩ rfl (Nat.le_of_eq (Nat.zero_add _)) (Nat.le_of_eq (Nat.zero_add _)) dL_takeSell_22
    · refine vx_catch (own := RL) (name := "java/lang/IllegalStateException") (E := "java/lang/IllegalStateException") C.2.2.2.2.1 (tableOf [(0, 12, 15, 21), (0, 12, 19, 13)]) { startPc := 0, endPc := 12, handlerPc := 23, catchType := 15 } (tableOf [(0, 12, 27, 23)]) htab (List.forall_mem_cons.mpr ⟨Or.inr ⟨by decide, _, C.2.2.2.2.2.1 _ cl_L_21, (SF.nc_3_1 hF).moved C.2.2.2.2.2.2.2.1.alike⟩, (List.forall_mem_cons.mpr ⟨Or.inr ⟨by decide, _, C.2.2.2.2.2.1 _ cl_L_13, (SF.nc_3_2 hF).moved C.2.2.2.2.2.2.2.1.alike⟩, (fun z hz => nomatch hz)⟩)⟩) (by decide) (by decide) (C.2.2.2.2.2.1 _ cl_L_15) (fw_mv C rfl rfl (hb _ (tb4 _ (List.mem_of_getElem? (i := 180) rfl)))) hc1 hc2 hc3 ?_
      refine lv_astore (lv' := [(5, .ref q), (0, .ref b), (1, .int x0), (2, .int x1), (3, .int x2), (4, .ref o)]) C.1 C.2.1 dL_takeSell_23 hl (by decide) rfl (fun ls hl => ?_)
      refine lv_iconst (v := 3) C.1 C.2.1 dL_takeSell_25 (by decide) ?_
      exact r_iret C hw rfl rfl (Sum.inr 3) ⟨rfl, hp⟩ rfl (Nat.le_of_eq (Nat.zero_add _)) (Nat.le_of_eq (Nat.zero_add _)) dL_takeSell_26
    · refine vx_catch (own := RL) (name := "java/lang/UnsupportedOperationException") (E := "java/lang/UnsupportedOperationException") C.2.2.2.2.1 (tableOf [(0, 12, 15, 21), (0, 12, 19, 13), (0, 12, 23, 15)]) { startPc := 0, endPc := 12, handlerPc := 27, catchType := 23 } (tableOf []) htab (List.forall_mem_cons.mpr ⟨Or.inr ⟨by decide, _, C.2.2.2.2.2.1 _ cl_L_21, (SF.nc_4_1 hF).moved C.2.2.2.2.2.2.2.1.alike⟩, (List.forall_mem_cons.mpr ⟨Or.inr ⟨by decide, _, C.2.2.2.2.2.1 _ cl_L_13, (SF.nc_4_2 hF).moved C.2.2.2.2.2.2.2.1.alike⟩, (List.forall_mem_cons.mpr ⟨Or.inr ⟨by decide, _, C.2.2.2.2.2.1 _ cl_L_15, (SF.nc_4_3 hF).moved C.2.2.2.2.2.2.2.1.alike⟩, (fun z hz => nomatch hz)⟩)⟩)⟩) (by decide) (by decide) (C.2.2.2.2.2.1 _ cl_L_23) (fw_mv C rfl rfl (hb _ (tb4 _ (List.mem_of_getElem? (i := 198) rfl)))) hc1 hc2 hc3 ?_
      refine lv_astore (lv' := [(5, .ref q), (0, .ref b), (1, .int x0), (2, .int x1), (3, .int x2), (4, .ref o)]) C.1 C.2.1 dL_takeSell_27 hl (by decide) rfl (fun ls hl => ?_)
      refine lv_iconst (v := 4) C.1 C.2.1 dL_takeSell_29 (by decide) ?_
      exact r_iret C hw rfl rfl (Sum.inr 4) ⟨rfl, hp⟩ rfl (Nat.le_of_eq (Nat.zero_add _)) (Nat.le_of_eq (Nat.zero_add _)) dL_takeSell_30
  · replace hw := hw.perm (hpn u)
    refine lv_i2l (v := r.toInt64) C.1 C.2.1 dL_takeSell_10 rfl ?_
    refine r_last C hw 0 rfl (n := 1) (i := 0) (x := r.toInt64) (show ¬ ((0 : Int32) < 0 ∨ 1 ≤ (0 : Int32).toNatClampNeg) by decide) (w' := (o, .inl (G.2.2.1 4, 1, .inr (.inl (vp_updL f 0 r.toInt64)))) :: WfA u) rfl dL_takeSell_11 (fun H locs hw => ?_)
    refine lv_goto (tgt := 31) C.1 C.2.1 dL_takeSell_12 (by decide) ?_
    refine lv_iconst (v := 0) C.1 C.2.1 dL_takeSell_31 (by decide) ?_
    exact r_iret C hw rfl rfl (Sum.inl (r, u)) ⟨rfl, hp⟩ rfl (Nat.le_of_eq (Nat.zero_add _)) (Nat.le_of_eq (Nat.zero_add _)) dL_takeSell_32
set_option maxHeartbeats 4000000 in
set_option maxRecDepth 100000 in
theorem w_cancel {l : Launch} {G : Gx} (hF : SF l G) {S : Type} {d k z : Nat} {post : Int32 → S → Prop} {Wf : S → va_W} {px : Nat → Prop} {Wx : Nat → va_W} {b o : Nat} {fs : List Value} {f : Nat → Int64} {wA w : va_W} {WfA : S → va_W} {WxA : Nat → va_W} {x0 : Int32} (hM : XI l G yX11_cancel cX11_cancel 2 .int d k z [.ref b, .int x0] w post Wf px Wx) (hpe : List.Perm ((o, .inl (G.2.2.1 4, 1, .inr (.inl f))) :: wA) w) (q0 : Nat) (he : w[q0]? = some (b, .inr (12, fs))) (hpn : ∀ u, List.Perm (Wf u) ((o, .inl (G.2.2.1 4, 1, .inr (.inl f))) :: WfA u)) (hpx : ∀ k1, px k1 → (k1 = 5) ∧ List.Perm (Wx k1) ((o, .inl (G.2.2.1 4, 1, .inr (.inl f))) :: WxA k1)) : HI l G yL_cancel cL_cancel 4 [(0, 9, 12, 45)] (d + 1) k z [.ref b, .int x0, .ref o] ((o, .inl (G.2.2.1 4, 1, .inr (.inl f))) :: wA) (fun c1 (t : (Int32 × S) ⊕ Nat) => match t with | .inl (r, u) => c1 = 0 ∧ post r u | .inr k1 => c1 = (if k1 = 5 then 1 else 0) ∧ px k1) (fun t => match t with | .inl (r, u) => (o, .inl (G.2.2.1 4, 1, .inr (.inl (vp_updL f 0 r.toInt64)))) :: WfA u | .inr k1 => (o, .inl (G.2.2.1 4, 1, .inr (.inl f))) :: WxA k1) := by
  refine mh_of hF (by decide) (Nat.le_of_ble_eq_true rfl) ?_
  intro p e s m below meth c C htab ls hl H locs hw
  have hl : lv_has ls 4 [(0, .ref b), (1, .int x0), (2, .ref o)] := hl
  obtain ⟨bb, hb, -⟩ := id C.2.2.2.2.2.2.2.2.2.2.2.2
  refine lv_aload_n C.1 C.2.1 dL_cancel_0 rfl (lv_at hl 2 rfl) ?_
  refine lv_iconst (v := 0) C.1 C.2.1 dL_cancel_1 (by decide) ?_
  refine lv_aload_n C.1 C.2.1 dL_cancel_2 rfl (lv_at hl 0 rfl) ?_
  refine lv_iload_n C.1 C.2.1 dL_cancel_3 rfl (lv_at hl 1 rfl) ?_
  refine y_vi C (hw.perm hpe) hM ml_L_41 yf_X11_cancel q0 he rfl (As := [.int x0]) rfl rfl ⟨Nat.le_refl _, by show 8 + (2 + 11) + 64 * d ≤ 64 * (d + 1); omega⟩ ⟨Nat.le_of_eq (Nat.zero_add _), Nat.le_of_eq (Nat.zero_add _)⟩ hl.1 (Nat.le_of_ble_eq_true rfl) dL_cancel_4 (fun k1 q ce H locs hp hw hc1 hc2 hc3 => ?_) (fun r u H locs hp hw => ?_)
  · obtain ⟨hk, hpm⟩ := hpx k1 hp
    replace hw := hw.perm hpm
    subst hk
    refine vx_catch (own := RL) (name := "java/util/NoSuchElementException") (E := "java/util/NoSuchElementException") C.2.2.2.2.1 (tableOf []) { startPc := 0, endPc := 9, handlerPc := 12, catchType := 45 } (tableOf []) htab (fun z hz => nomatch hz) (by decide) (by decide) (C.2.2.2.2.2.1 _ cl_L_45) (fw_mv C rfl rfl (hb _ (tb4 _ (List.mem_of_getElem? (i := 216) rfl)))) hc1 hc2 hc3 ?_
    refine lv_astore_n (lv' := [(3, .ref q), (0, .ref b), (1, .int x0), (2, .ref o)]) C.1 C.2.1 dL_cancel_12 rfl hl (by decide) rfl (fun ls hl => ?_)
    refine lv_iconst (v := 1) C.1 C.2.1 dL_cancel_13 (by decide) ?_
    exact r_iret C hw rfl rfl (Sum.inr 5) ⟨rfl, hp⟩ rfl (Nat.le_of_eq (Nat.zero_add _)) (Nat.le_of_eq (Nat.zero_add _)) dL_cancel_14
  · replace hw := hw.perm (hpn u)
    refine lv_i2l (v := r.toInt64) C.1 C.2.1 dL_cancel_7 rfl ?_
    refine r_last C hw 0 rfl (n := 1) (i := 0) (x := r.toInt64) (show ¬ ((0 : Int32) < 0 ∨ 1 ≤ (0 : Int32).toNatClampNeg) by decide) (w' := (o, .inl (G.2.2.1 4, 1, .inr (.inl (vp_updL f 0 r.toInt64)))) :: WfA u) rfl dL_cancel_8 (fun H locs hw => ?_)
    refine lv_goto (tgt := 15) C.1 C.2.1 dL_cancel_9 (by decide) ?_
    refine lv_iconst (v := 0) C.1 C.2.1 dL_cancel_15 (by decide) ?_
    exact r_iret C hw rfl rfl (Sum.inl (r, u)) ⟨rfl, hp⟩ rfl (Nat.le_of_eq (Nat.zero_add _)) (Nat.le_of_eq (Nat.zero_add _)) dL_cancel_16
set_option maxHeartbeats 4000000 in
set_option maxRecDepth 100000 in
theorem w_pass {l : Launch} {G : Gx} (hF : SF l G) {S : Type} {d k z : Nat} {post : Int32 → S → Prop} {Wf : S → va_W} {px : Nat → Prop} {Wx : Nat → va_W} {b o : Nat} {fs : List Value} {f : Nat → Int64} {wA w : va_W} {WfA : S → va_W} {WxA : Nat → va_W} {x0 : Int32} (hM : XI l G yX11_pass cX11_pass 2 .int d k z [.ref b, .int x0] w post Wf px Wx) (hpe : List.Perm ((o, .inl (G.2.2.1 4, 1, .inr (.inl f))) :: wA) w) (q0 : Nat) (he : w[q0]? = some (b, .inr (12, fs))) (hpn : ∀ u, List.Perm (Wf u) ((o, .inl (G.2.2.1 4, 1, .inr (.inl f))) :: WfA u)) (hpx : ∀ k1, px k1 → (k1 = 2) ∧ List.Perm (Wx k1) ((o, .inl (G.2.2.1 4, 1, .inr (.inl f))) :: WxA k1)) : HI l G yL_pass cL_pass 4 [(0, 9, 12, 13)] (d + 1) k z [.ref b, .int x0, .ref o] ((o, .inl (G.2.2.1 4, 1, .inr (.inl f))) :: wA) (fun c1 (t : (Int32 × S) ⊕ Nat) => match t with | .inl (r, u) => c1 = 0 ∧ post r u | .inr k1 => c1 = (if k1 = 2 then 1 else 0) ∧ px k1) (fun t => match t with | .inl (r, u) => (o, .inl (G.2.2.1 4, 1, .inr (.inl (vp_updL f 0 r.toInt64)))) :: WfA u | .inr k1 => (o, .inl (G.2.2.1 4, 1, .inr (.inl f))) :: WxA k1) := by
  refine mh_of hF (by decide) (Nat.le_of_ble_eq_true rfl) ?_
  intro p e s m below meth c C htab ls hl H locs hw
  have hl : lv_has ls 4 [(0, .ref b), (1, .int x0), (2, .ref o)] := hl
  obtain ⟨bb, hb, -⟩ := id C.2.2.2.2.2.2.2.2.2.2.2.2
  refine lv_aload_n C.1 C.2.1 dL_pass_0 rfl (lv_at hl 2 rfl) ?_
  refine lv_iconst (v := 0) C.1 C.2.1 dL_pass_1 (by decide) ?_
  refine lv_aload_n C.1 C.2.1 dL_pass_2 rfl (lv_at hl 0 rfl) ?_
  refine lv_iload_n C.1 C.2.1 dL_pass_3 rfl (lv_at hl 1 rfl) ?_
  refine y_vi C (hw.perm hpe) hM ml_L_47 yf_X11_pass q0 he rfl (As := [.int x0]) rfl rfl ⟨Nat.le_refl _, by show 8 + (2 + 11) + 64 * d ≤ 64 * (d + 1); omega⟩ ⟨Nat.le_of_eq (Nat.zero_add _), Nat.le_of_eq (Nat.zero_add _)⟩ hl.1 (Nat.le_of_ble_eq_true rfl) dL_pass_4 (fun k1 q ce H locs hp hw hc1 hc2 hc3 => ?_) (fun r u H locs hp hw => ?_)
  · obtain ⟨hk, hpm⟩ := hpx k1 hp
    replace hw := hw.perm hpm
    subst hk
    refine vx_catch (own := RL) (name := "java/lang/IllegalArgumentException") (E := "java/lang/IllegalArgumentException") C.2.2.2.2.1 (tableOf []) { startPc := 0, endPc := 9, handlerPc := 12, catchType := 13 } (tableOf []) htab (fun z hz => nomatch hz) (by decide) (by decide) (C.2.2.2.2.2.1 _ cl_L_13) (fw_mv C rfl rfl (hb _ (tb3 _ (List.mem_of_getElem? (i := 55) rfl)))) hc1 hc2 hc3 ?_
    refine lv_astore_n (lv' := [(3, .ref q), (0, .ref b), (1, .int x0), (2, .ref o)]) C.1 C.2.1 dL_pass_12 rfl hl (by decide) rfl (fun ls hl => ?_)
    refine lv_iconst (v := 1) C.1 C.2.1 dL_pass_13 (by decide) ?_
    exact r_iret C hw rfl rfl (Sum.inr 2) ⟨rfl, hp⟩ rfl (Nat.le_of_eq (Nat.zero_add _)) (Nat.le_of_eq (Nat.zero_add _)) dL_pass_14
  · replace hw := hw.perm (hpn u)
    refine lv_i2l (v := r.toInt64) C.1 C.2.1 dL_pass_7 rfl ?_
    refine r_last C hw 0 rfl (n := 1) (i := 0) (x := r.toInt64) (show ¬ ((0 : Int32) < 0 ∨ 1 ≤ (0 : Int32).toNatClampNeg) by decide) (w' := (o, .inl (G.2.2.1 4, 1, .inr (.inl (vp_updL f 0 r.toInt64)))) :: WfA u) rfl dL_pass_8 (fun H locs hw => ?_)
    refine lv_goto (tgt := 15) C.1 C.2.1 dL_pass_9 (by decide) ?_
    refine lv_iconst (v := 0) C.1 C.2.1 dL_pass_15 (by decide) ?_
    exact r_iret C hw rfl rfl (Sum.inl (r, u)) ⟨rfl, hp⟩ rfl (Nat.le_of_eq (Nat.zero_add _)) (Nat.le_of_eq (Nat.zero_add _)) dL_pass_16
set_option maxHeartbeats 4000000 in
set_option maxRecDepth 100000 in
theorem w_openPool {l : Launch} {G : Gx} (hF : SF l G) {S : Type} {d k z : Nat} {post : Int32 → S → Prop} {Wf : S → va_W} {px : Nat → Prop} {Wx : Nat → va_W} {b o : Nat} {fs : List Value} {f : Nat → Int64} {wA w : va_W} {WfA : S → va_W} {WxA : Nat → va_W} (hM : XI l G yX11_openPool cX11_openPool 1 .int d k z [.ref b] w post Wf px Wx) (hpe : List.Perm ((o, .inl (G.2.2.1 4, 1, .inr (.inl f))) :: wA) w) (q0 : Nat) (he : w[q0]? = some (b, .inr (12, fs))) (hpn : ∀ u, List.Perm (Wf u) ((o, .inl (G.2.2.1 4, 1, .inr (.inl f))) :: WfA u)) (hpx : ∀ k1, px k1 → (k1 = 3) ∧ List.Perm (Wx k1) ((o, .inl (G.2.2.1 4, 1, .inr (.inl f))) :: WxA k1)) : HI l G yL_openPool cL_openPool 3 [(0, 8, 11, 15)] (d + 1) k z [.ref b, .ref o] ((o, .inl (G.2.2.1 4, 1, .inr (.inl f))) :: wA) (fun c1 (t : (Int32 × S) ⊕ Nat) => match t with | .inl (r, u) => c1 = 0 ∧ post r u | .inr k1 => c1 = (if k1 = 3 then 1 else 0) ∧ px k1) (fun t => match t with | .inl (r, u) => (o, .inl (G.2.2.1 4, 1, .inr (.inl (vp_updL f 0 r.toInt64)))) :: WfA u | .inr k1 => (o, .inl (G.2.2.1 4, 1, .inr (.inl f))) :: WxA k1) := by
  refine mh_of hF (by decide) (Nat.le_of_ble_eq_true rfl) ?_
  intro p e s m below meth c C htab ls hl H locs hw
  have hl : lv_has ls 3 [(0, .ref b), (1, .ref o)] := hl
  obtain ⟨bb, hb, -⟩ := id C.2.2.2.2.2.2.2.2.2.2.2.2
  refine lv_aload_n C.1 C.2.1 dL_openPool_0 rfl (lv_at hl 1 rfl) ?_
  refine lv_iconst (v := 0) C.1 C.2.1 dL_openPool_1 (by decide) ?_
  refine lv_aload_n C.1 C.2.1 dL_openPool_2 rfl (lv_at hl 0 rfl) ?_
  refine y_vi C (hw.perm hpe) hM ml_L_50 yf_X11_openPool q0 he rfl (As := []) rfl rfl ⟨Nat.le_refl _, by show 8 + (1 + 11) + 64 * d ≤ 64 * (d + 1); omega⟩ ⟨Nat.le_of_eq (Nat.zero_add _), Nat.le_of_eq (Nat.zero_add _)⟩ hl.1 (Nat.le_of_ble_eq_true rfl) dL_openPool_3 (fun k1 q ce H locs hp hw hc1 hc2 hc3 => ?_) (fun r u H locs hp hw => ?_)
  · obtain ⟨hk, hpm⟩ := hpx k1 hp
    replace hw := hw.perm hpm
    subst hk
    refine vx_catch (own := RL) (name := "java/lang/IllegalStateException") (E := "java/lang/IllegalStateException") C.2.2.2.2.1 (tableOf []) { startPc := 0, endPc := 8, handlerPc := 11, catchType := 15 } (tableOf []) htab (fun z hz => nomatch hz) (by decide) (by decide) (C.2.2.2.2.2.1 _ cl_L_15) (fw_mv C rfl rfl (hb _ (tb4 _ (List.mem_of_getElem? (i := 180) rfl)))) hc1 hc2 hc3 ?_
    refine lv_astore_n (lv' := [(2, .ref q), (0, .ref b), (1, .ref o)]) C.1 C.2.1 dL_openPool_11 rfl hl (by decide) rfl (fun ls hl => ?_)
    refine lv_iconst (v := 1) C.1 C.2.1 dL_openPool_12 (by decide) ?_
    exact r_iret C hw rfl rfl (Sum.inr 3) ⟨rfl, hp⟩ rfl (Nat.le_of_eq (Nat.zero_add _)) (Nat.le_of_eq (Nat.zero_add _)) dL_openPool_13
  · replace hw := hw.perm (hpn u)
    refine lv_i2l (v := r.toInt64) C.1 C.2.1 dL_openPool_6 rfl ?_
    refine r_last C hw 0 rfl (n := 1) (i := 0) (x := r.toInt64) (show ¬ ((0 : Int32) < 0 ∨ 1 ≤ (0 : Int32).toNatClampNeg) by decide) (w' := (o, .inl (G.2.2.1 4, 1, .inr (.inl (vp_updL f 0 r.toInt64)))) :: WfA u) rfl dL_openPool_7 (fun H locs hw => ?_)
    refine lv_goto (tgt := 14) C.1 C.2.1 dL_openPool_8 (by decide) ?_
    refine lv_iconst (v := 0) C.1 C.2.1 dL_openPool_14 (by decide) ?_
    exact r_iret C hw rfl rfl (Sum.inl (r, u)) ⟨rfl, hp⟩ rfl (Nat.le_of_eq (Nat.zero_add _)) (Nat.le_of_eq (Nat.zero_add _)) dL_openPool_15
set_option maxHeartbeats 4000000 in
set_option maxRecDepth 100000 in
theorem w_closePool {l : Launch} {G : Gx} (hF : SF l G) {S : Type} {d k z : Nat} {post : Int32 → S → Prop} {Wf : S → va_W} {px : Nat → Prop} {Wx : Nat → va_W} {b o : Nat} {fs : List Value} {f : Nat → Int64} {wA w : va_W} {WfA : S → va_W} {WxA : Nat → va_W} (hM : XI l G yX11_closePool cX11_closePool 1 .int d k z [.ref b] w post Wf px Wx) (hpe : List.Perm ((o, .inl (G.2.2.1 4, 1, .inr (.inl f))) :: wA) w) (q0 : Nat) (he : w[q0]? = some (b, .inr (12, fs))) (hpn : ∀ u, List.Perm (Wf u) ((o, .inl (G.2.2.1 4, 1, .inr (.inl f))) :: WfA u)) (hpx : ∀ k1, px k1 → (k1 = 3) ∧ List.Perm (Wx k1) ((o, .inl (G.2.2.1 4, 1, .inr (.inl f))) :: WxA k1)) : HI l G yL_closePool cL_closePool 3 [(0, 8, 11, 15)] (d + 1) k z [.ref b, .ref o] ((o, .inl (G.2.2.1 4, 1, .inr (.inl f))) :: wA) (fun c1 (t : (Int32 × S) ⊕ Nat) => match t with | .inl (r, u) => c1 = 0 ∧ post r u | .inr k1 => c1 = (if k1 = 3 then 1 else 0) ∧ px k1) (fun t => match t with | .inl (r, u) => (o, .inl (G.2.2.1 4, 1, .inr (.inl (vp_updL f 0 r.toInt64)))) :: WfA u | .inr k1 => (o, .inl (G.2.2.1 4, 1, .inr (.inl f))) :: WxA k1) := by
  refine mh_of hF (by decide) (Nat.le_of_ble_eq_true rfl) ?_
  intro p e s m below meth c C htab ls hl H locs hw
  have hl : lv_has ls 3 [(0, .ref b), (1, .ref o)] := hl
  obtain ⟨bb, hb, -⟩ := id C.2.2.2.2.2.2.2.2.2.2.2.2
  refine lv_aload_n C.1 C.2.1 dL_closePool_0 rfl (lv_at hl 1 rfl) ?_
  refine lv_iconst (v := 0) C.1 C.2.1 dL_closePool_1 (by decide) ?_
  refine lv_aload_n C.1 C.2.1 dL_closePool_2 rfl (lv_at hl 0 rfl) ?_
  refine y_vi C (hw.perm hpe) hM ml_L_54 yf_X11_closePool q0 he rfl (As := []) rfl rfl ⟨Nat.le_refl _, by show 8 + (1 + 11) + 64 * d ≤ 64 * (d + 1); omega⟩ ⟨Nat.le_of_eq (Nat.zero_add _), Nat.le_of_eq (Nat.zero_add _)⟩ hl.1 (Nat.le_of_ble_eq_true rfl) dL_closePool_3 (fun k1 q ce H locs hp hw hc1 hc2 hc3 => ?_) (fun r u H locs hp hw => ?_)
  · obtain ⟨hk, hpm⟩ := hpx k1 hp
    replace hw := hw.perm hpm
    subst hk
    refine vx_catch (own := RL) (name := "java/lang/IllegalStateException") (E := "java/lang/IllegalStateException") C.2.2.2.2.1 (tableOf []) { startPc := 0, endPc := 8, handlerPc := 11, catchType := 15 } (tableOf []) htab (fun z hz => nomatch hz) (by decide) (by decide) (C.2.2.2.2.2.1 _ cl_L_15) (fw_mv C rfl rfl (hb _ (tb4 _ (List.mem_of_getElem? (i := 180) rfl)))) hc1 hc2 hc3 ?_
    refine lv_astore_n (lv' := [(2, .ref q), (0, .ref b), (1, .ref o)]) C.1 C.2.1 dL_closePool_11 rfl hl (by decide) rfl (fun ls hl => ?_)
    refine lv_iconst (v := 1) C.1 C.2.1 dL_closePool_12 (by decide) ?_
    exact r_iret C hw rfl rfl (Sum.inr 3) ⟨rfl, hp⟩ rfl (Nat.le_of_eq (Nat.zero_add _)) (Nat.le_of_eq (Nat.zero_add _)) dL_closePool_13
  · replace hw := hw.perm (hpn u)
    refine lv_i2l (v := r.toInt64) C.1 C.2.1 dL_closePool_6 rfl ?_
    refine r_last C hw 0 rfl (n := 1) (i := 0) (x := r.toInt64) (show ¬ ((0 : Int32) < 0 ∨ 1 ≤ (0 : Int32).toNatClampNeg) by decide) (w' := (o, .inl (G.2.2.1 4, 1, .inr (.inl (vp_updL f 0 r.toInt64)))) :: WfA u) rfl dL_closePool_7 (fun H locs hw => ?_)
    refine lv_goto (tgt := 14) C.1 C.2.1 dL_closePool_8 (by decide) ?_
    refine lv_iconst (v := 0) C.1 C.2.1 dL_closePool_14 (by decide) ?_
    exact r_iret C hw rfl rfl (Sum.inl (r, u)) ⟨rfl, hp⟩ rfl (Nat.le_of_eq (Nat.zero_add _)) (Nat.le_of_eq (Nat.zero_add _)) dL_closePool_15
set_option maxHeartbeats 4000000 in
set_option maxRecDepth 100000 in
theorem w_moneyOf {l : Launch} {G : Gx} (hF : SF l G) {S : Type} {d k z : Nat} {post : Int32 → S → Prop} {Wf : S → va_W} {px : Nat → Prop} {Wx : Nat → va_W} {b o : Nat} {fs : List Value} {f : Nat → Int64} {wA w : va_W} {WfA : S → va_W} {WxA : Nat → va_W} {x0 : Int32} (hM : XI l G yX11_moneyOf cX11_moneyOf 2 .int d k z [.ref b, .int x0] w post Wf px Wx) (hpe : List.Perm ((o, .inl (G.2.2.1 4, 1, .inr (.inl f))) :: wA) w) (q0 : Nat) (he : w[q0]? = some (b, .inr (12, fs))) (hpn : ∀ u, List.Perm (Wf u) ((o, .inl (G.2.2.1 4, 1, .inr (.inl f))) :: WfA u)) (hpx : ∀ k1, px k1 → (k1 = 1) ∧ List.Perm (Wx k1) ((o, .inl (G.2.2.1 4, 1, .inr (.inl f))) :: WxA k1)) : HI l G yL_moneyOf cL_moneyOf 4 [(0, 9, 12, 21)] (d + 1) k z [.ref b, .int x0, .ref o] ((o, .inl (G.2.2.1 4, 1, .inr (.inl f))) :: wA) (fun c1 (t : (Int32 × S) ⊕ Nat) => match t with | .inl (r, u) => c1 = 0 ∧ post r u | .inr k1 => c1 = (if k1 = 1 then 1 else 0) ∧ px k1) (fun t => match t with | .inl (r, u) => (o, .inl (G.2.2.1 4, 1, .inr (.inl (vp_updL f 0 r.toInt64)))) :: WfA u | .inr k1 => (o, .inl (G.2.2.1 4, 1, .inr (.inl f))) :: WxA k1) := by
  refine mh_of hF (by decide) (Nat.le_of_ble_eq_true rfl) ?_
  intro p e s m below meth c C htab ls hl H locs hw
  have hl : lv_has ls 4 [(0, .ref b), (1, .int x0), (2, .ref o)] := hl
  obtain ⟨bb, hb, -⟩ := id C.2.2.2.2.2.2.2.2.2.2.2.2
  refine lv_aload_n C.1 C.2.1 dL_moneyOf_0 rfl (lv_at hl 2 rfl) ?_
  refine lv_iconst (v := 0) C.1 C.2.1 dL_moneyOf_1 (by decide) ?_
  refine lv_aload_n C.1 C.2.1 dL_moneyOf_2 rfl (lv_at hl 0 rfl) ?_
  refine lv_iload_n C.1 C.2.1 dL_moneyOf_3 rfl (lv_at hl 1 rfl) ?_
  refine y_vi C (hw.perm hpe) hM ml_L_57 yf_X11_moneyOf q0 he rfl (As := [.int x0]) rfl rfl ⟨Nat.le_refl _, by show 8 + (2 + 11) + 64 * d ≤ 64 * (d + 1); omega⟩ ⟨Nat.le_of_eq (Nat.zero_add _), Nat.le_of_eq (Nat.zero_add _)⟩ hl.1 (Nat.le_of_ble_eq_true rfl) dL_moneyOf_4 (fun k1 q ce H locs hp hw hc1 hc2 hc3 => ?_) (fun r u H locs hp hw => ?_)
  · obtain ⟨hk, hpm⟩ := hpx k1 hp
    replace hw := hw.perm hpm
    subst hk
    refine vx_catch (own := RL) (name := "java/lang/IndexOutOfBoundsException") (E := "java/lang/IndexOutOfBoundsException") C.2.2.2.2.1 (tableOf []) { startPc := 0, endPc := 9, handlerPc := 12, catchType := 21 } (tableOf []) htab (fun z hz => nomatch hz) (by decide) (by decide) (C.2.2.2.2.2.1 _ cl_L_21) (fw_mv C rfl rfl (hb _ (tb4 _ (List.mem_of_getElem? (i := 162) rfl)))) hc1 hc2 hc3 ?_
    refine lv_astore_n (lv' := [(3, .ref q), (0, .ref b), (1, .int x0), (2, .ref o)]) C.1 C.2.1 dL_moneyOf_12 rfl hl (by decide) rfl (fun ls hl => ?_)
    refine lv_iconst (v := 1) C.1 C.2.1 dL_moneyOf_13 (by decide) ?_
    exact r_iret C hw rfl rfl (Sum.inr 1) ⟨rfl, hp⟩ rfl (Nat.le_of_eq (Nat.zero_add _)) (Nat.le_of_eq (Nat.zero_add _)) dL_moneyOf_14
  · replace hw := hw.perm (hpn u)
    refine lv_i2l (v := r.toInt64) C.1 C.2.1 dL_moneyOf_7 rfl ?_
    refine r_last C hw 0 rfl (n := 1) (i := 0) (x := r.toInt64) (show ¬ ((0 : Int32) < 0 ∨ 1 ≤ (0 : Int32).toNatClampNeg) by decide) (w' := (o, .inl (G.2.2.1 4, 1, .inr (.inl (vp_updL f 0 r.toInt64)))) :: WfA u) rfl dL_moneyOf_8 (fun H locs hw => ?_)
    refine lv_goto (tgt := 15) C.1 C.2.1 dL_moneyOf_9 (by decide) ?_
    refine lv_iconst (v := 0) C.1 C.2.1 dL_moneyOf_15 (by decide) ?_
    exact r_iret C hw rfl rfl (Sum.inl (r, u)) ⟨rfl, hp⟩ rfl (Nat.le_of_eq (Nat.zero_add _)) (Nat.le_of_eq (Nat.zero_add _)) dL_moneyOf_16
set_option maxHeartbeats 4000000 in
set_option maxRecDepth 100000 in
theorem w_dropsOf {l : Launch} {G : Gx} (hF : SF l G) {S : Type} {d k z : Nat} {post : Int32 → S → Prop} {Wf : S → va_W} {px : Nat → Prop} {Wx : Nat → va_W} {b o : Nat} {fs : List Value} {f : Nat → Int64} {wA w : va_W} {WfA : S → va_W} {WxA : Nat → va_W} {x0 : Int32} (hM : XI l G yX11_dropsOf cX11_dropsOf 2 .int d k z [.ref b, .int x0] w post Wf px Wx) (hpe : List.Perm ((o, .inl (G.2.2.1 4, 1, .inr (.inl f))) :: wA) w) (q0 : Nat) (he : w[q0]? = some (b, .inr (12, fs))) (hpn : ∀ u, List.Perm (Wf u) ((o, .inl (G.2.2.1 4, 1, .inr (.inl f))) :: WfA u)) (hpx : ∀ k1, px k1 → (k1 = 1) ∧ List.Perm (Wx k1) ((o, .inl (G.2.2.1 4, 1, .inr (.inl f))) :: WxA k1)) : HI l G yL_dropsOf cL_dropsOf 4 [(0, 9, 12, 21)] (d + 1) k z [.ref b, .int x0, .ref o] ((o, .inl (G.2.2.1 4, 1, .inr (.inl f))) :: wA) (fun c1 (t : (Int32 × S) ⊕ Nat) => match t with | .inl (r, u) => c1 = 0 ∧ post r u | .inr k1 => c1 = (if k1 = 1 then 1 else 0) ∧ px k1) (fun t => match t with | .inl (r, u) => (o, .inl (G.2.2.1 4, 1, .inr (.inl (vp_updL f 0 r.toInt64)))) :: WfA u | .inr k1 => (o, .inl (G.2.2.1 4, 1, .inr (.inl f))) :: WxA k1) := by
  refine mh_of hF (by decide) (Nat.le_of_ble_eq_true rfl) ?_
  intro p e s m below meth c C htab ls hl H locs hw
  have hl : lv_has ls 4 [(0, .ref b), (1, .int x0), (2, .ref o)] := hl
  obtain ⟨bb, hb, -⟩ := id C.2.2.2.2.2.2.2.2.2.2.2.2
  refine lv_aload_n C.1 C.2.1 dL_dropsOf_0 rfl (lv_at hl 2 rfl) ?_
  refine lv_iconst (v := 0) C.1 C.2.1 dL_dropsOf_1 (by decide) ?_
  refine lv_aload_n C.1 C.2.1 dL_dropsOf_2 rfl (lv_at hl 0 rfl) ?_
  refine lv_iload_n C.1 C.2.1 dL_dropsOf_3 rfl (lv_at hl 1 rfl) ?_
  refine y_vi C (hw.perm hpe) hM ml_L_60 yf_X11_dropsOf q0 he rfl (As := [.int x0]) rfl rfl ⟨Nat.le_refl _, by show 8 + (2 + 11) + 64 * d ≤ 64 * (d + 1); omega⟩ ⟨Nat.le_of_eq (Nat.zero_add _), Nat.le_of_eq (Nat.zero_add _)⟩ hl.1 (Nat.le_of_ble_eq_true rfl) dL_dropsOf_4 (fun k1 q ce H locs hp hw hc1 hc2 hc3 => ?_) (fun r u H locs hp hw => ?_)
  · obtain ⟨hk, hpm⟩ := hpx k1 hp
    replace hw := hw.perm hpm
    subst hk
    refine vx_catch (own := RL) (name := "java/lang/IndexOutOfBoundsException") (E := "java/lang/IndexOutOfBoundsException") C.2.2.2.2.1 (tableOf []) { startPc := 0, endPc := 9, handlerPc := 12, catchType := 21 } (tableOf []) htab (fun z hz => nomatch hz) (by decide) (by decide) (C.2.2.2.2.2.1 _ cl_L_21) (fw_mv C rfl rfl (hb _ (tb4 _ (List.mem_of_getElem? (i := 162) rfl)))) hc1 hc2 hc3 ?_
    refine lv_astore_n (lv' := [(3, .ref q), (0, .ref b), (1, .int x0), (2, .ref o)]) C.1 C.2.1 dL_dropsOf_12 rfl hl (by decide) rfl (fun ls hl => ?_)
    refine lv_iconst (v := 1) C.1 C.2.1 dL_dropsOf_13 (by decide) ?_
    exact r_iret C hw rfl rfl (Sum.inr 1) ⟨rfl, hp⟩ rfl (Nat.le_of_eq (Nat.zero_add _)) (Nat.le_of_eq (Nat.zero_add _)) dL_dropsOf_14
  · replace hw := hw.perm (hpn u)
    refine lv_i2l (v := r.toInt64) C.1 C.2.1 dL_dropsOf_7 rfl ?_
    refine r_last C hw 0 rfl (n := 1) (i := 0) (x := r.toInt64) (show ¬ ((0 : Int32) < 0 ∨ 1 ≤ (0 : Int32).toNatClampNeg) by decide) (w' := (o, .inl (G.2.2.1 4, 1, .inr (.inl (vp_updL f 0 r.toInt64)))) :: WfA u) rfl dL_dropsOf_8 (fun H locs hw => ?_)
    refine lv_goto (tgt := 15) C.1 C.2.1 dL_dropsOf_9 (by decide) ?_
    refine lv_iconst (v := 0) C.1 C.2.1 dL_dropsOf_15 (by decide) ?_
    exact r_iret C hw rfl rfl (Sum.inl (r, u)) ⟨rfl, hp⟩ rfl (Nat.le_of_eq (Nat.zero_add _)) (Nat.le_of_eq (Nat.zero_add _)) dL_dropsOf_16
set_option maxHeartbeats 4000000 in
set_option maxRecDepth 100000 in
theorem w_freeMoneyOf {l : Launch} {G : Gx} (hF : SF l G) {S : Type} {d k z : Nat} {post : Int32 → S → Prop} {Wf : S → va_W} {px : Nat → Prop} {Wx : Nat → va_W} {b o : Nat} {fs : List Value} {f : Nat → Int64} {wA w : va_W} {WfA : S → va_W} {WxA : Nat → va_W} {x0 : Int32} (hM : XI l G yX11_freeMoneyOf cX11_freeMoneyOf 2 .int d k z [.ref b, .int x0] w post Wf px Wx) (hpe : List.Perm ((o, .inl (G.2.2.1 4, 1, .inr (.inl f))) :: wA) w) (q0 : Nat) (he : w[q0]? = some (b, .inr (12, fs))) (hpn : ∀ u, List.Perm (Wf u) ((o, .inl (G.2.2.1 4, 1, .inr (.inl f))) :: WfA u)) (hpx : ∀ k1, px k1 → (k1 = 1) ∧ List.Perm (Wx k1) ((o, .inl (G.2.2.1 4, 1, .inr (.inl f))) :: WxA k1)) : HI l G yL_freeMoneyOf cL_freeMoneyOf 4 [(0, 9, 12, 21)] (d + 1) k z [.ref b, .int x0, .ref o] ((o, .inl (G.2.2.1 4, 1, .inr (.inl f))) :: wA) (fun c1 (t : (Int32 × S) ⊕ Nat) => match t with | .inl (r, u) => c1 = 0 ∧ post r u | .inr k1 => c1 = (if k1 = 1 then 1 else 0) ∧ px k1) (fun t => match t with | .inl (r, u) => (o, .inl (G.2.2.1 4, 1, .inr (.inl (vp_updL f 0 r.toInt64)))) :: WfA u | .inr k1 => (o, .inl (G.2.2.1 4, 1, .inr (.inl f))) :: WxA k1) := by
  refine mh_of hF (by decide) (Nat.le_of_ble_eq_true rfl) ?_
  intro p e s m below meth c C htab ls hl H locs hw
  have hl : lv_has ls 4 [(0, .ref b), (1, .int x0), (2, .ref o)] := hl
  obtain ⟨bb, hb, -⟩ := id C.2.2.2.2.2.2.2.2.2.2.2.2
  refine lv_aload_n C.1 C.2.1 dL_freeMoneyOf_0 rfl (lv_at hl 2 rfl) ?_
  refine lv_iconst (v := 0) C.1 C.2.1 dL_freeMoneyOf_1 (by decide) ?_
  refine lv_aload_n C.1 C.2.1 dL_freeMoneyOf_2 rfl (lv_at hl 0 rfl) ?_
  refine lv_iload_n C.1 C.2.1 dL_freeMoneyOf_3 rfl (lv_at hl 1 rfl) ?_
  refine y_vi C (hw.perm hpe) hM ml_L_63 yf_X11_freeMoneyOf q0 he rfl (As := [.int x0]) rfl rfl ⟨Nat.le_refl _, by show 8 + (2 + 11) + 64 * d ≤ 64 * (d + 1); omega⟩ ⟨Nat.le_of_eq (Nat.zero_add _), Nat.le_of_eq (Nat.zero_add _)⟩ hl.1 (Nat.le_of_ble_eq_true rfl) dL_freeMoneyOf_4 (fun k1 q ce H locs hp hw hc1 hc2 hc3 => ?_) (fun r u H locs hp hw => ?_)
  · obtain ⟨hk, hpm⟩ := hpx k1 hp
    replace hw := hw.perm hpm
    subst hk
    refine vx_catch (own := RL) (name := "java/lang/IndexOutOfBoundsException") (E := "java/lang/IndexOutOfBoundsException") C.2.2.2.2.1 (tableOf []) { startPc := 0, endPc := 9, handlerPc := 12, catchType := 21 } (tableOf []) htab (fun z hz => nomatch hz) (by decide) (by decide) (C.2.2.2.2.2.1 _ cl_L_21) (fw_mv C rfl rfl (hb _ (tb4 _ (List.mem_of_getElem? (i := 162) rfl)))) hc1 hc2 hc3 ?_
    refine lv_astore_n (lv' := [(3, .ref q), (0, .ref b), (1, .int x0), (2, .ref o)]) C.1 C.2.1 dL_freeMoneyOf_12 rfl hl (by decide) rfl (fun ls hl => ?_)
    refine lv_iconst (v := 1) C.1 C.2.1 dL_freeMoneyOf_13 (by decide) ?_
    exact r_iret C hw rfl rfl (Sum.inr 1) ⟨rfl, hp⟩ rfl (Nat.le_of_eq (Nat.zero_add _)) (Nat.le_of_eq (Nat.zero_add _)) dL_freeMoneyOf_14
  · replace hw := hw.perm (hpn u)
    refine lv_i2l (v := r.toInt64) C.1 C.2.1 dL_freeMoneyOf_7 rfl ?_
    refine r_last C hw 0 rfl (n := 1) (i := 0) (x := r.toInt64) (show ¬ ((0 : Int32) < 0 ∨ 1 ≤ (0 : Int32).toNatClampNeg) by decide) (w' := (o, .inl (G.2.2.1 4, 1, .inr (.inl (vp_updL f 0 r.toInt64)))) :: WfA u) rfl dL_freeMoneyOf_8 (fun H locs hw => ?_)
    refine lv_goto (tgt := 15) C.1 C.2.1 dL_freeMoneyOf_9 (by decide) ?_
    refine lv_iconst (v := 0) C.1 C.2.1 dL_freeMoneyOf_15 (by decide) ?_
    exact r_iret C hw rfl rfl (Sum.inl (r, u)) ⟨rfl, hp⟩ rfl (Nat.le_of_eq (Nat.zero_add _)) (Nat.le_of_eq (Nat.zero_add _)) dL_freeMoneyOf_16
set_option maxHeartbeats 4000000 in
set_option maxRecDepth 100000 in
theorem w_freeDropsOf {l : Launch} {G : Gx} (hF : SF l G) {S : Type} {d k z : Nat} {post : Int32 → S → Prop} {Wf : S → va_W} {px : Nat → Prop} {Wx : Nat → va_W} {b o : Nat} {fs : List Value} {f : Nat → Int64} {wA w : va_W} {WfA : S → va_W} {WxA : Nat → va_W} {x0 : Int32} (hM : XI l G yX11_freeDropsOf cX11_freeDropsOf 2 .int d k z [.ref b, .int x0] w post Wf px Wx) (hpe : List.Perm ((o, .inl (G.2.2.1 4, 1, .inr (.inl f))) :: wA) w) (q0 : Nat) (he : w[q0]? = some (b, .inr (12, fs))) (hpn : ∀ u, List.Perm (Wf u) ((o, .inl (G.2.2.1 4, 1, .inr (.inl f))) :: WfA u)) (hpx : ∀ k1, px k1 → (k1 = 1) ∧ List.Perm (Wx k1) ((o, .inl (G.2.2.1 4, 1, .inr (.inl f))) :: WxA k1)) : HI l G yL_freeDropsOf cL_freeDropsOf 4 [(0, 9, 12, 21)] (d + 1) k z [.ref b, .int x0, .ref o] ((o, .inl (G.2.2.1 4, 1, .inr (.inl f))) :: wA) (fun c1 (t : (Int32 × S) ⊕ Nat) => match t with | .inl (r, u) => c1 = 0 ∧ post r u | .inr k1 => c1 = (if k1 = 1 then 1 else 0) ∧ px k1) (fun t => match t with | .inl (r, u) => (o, .inl (G.2.2.1 4, 1, .inr (.inl (vp_updL f 0 r.toInt64)))) :: WfA u | .inr k1 => (o, .inl (G.2.2.1 4, 1, .inr (.inl f))) :: WxA k1) := by
  refine mh_of hF (by decide) (Nat.le_of_ble_eq_true rfl) ?_
  intro p e s m below meth c C htab ls hl H locs hw
  have hl : lv_has ls 4 [(0, .ref b), (1, .int x0), (2, .ref o)] := hl
  obtain ⟨bb, hb, -⟩ := id C.2.2.2.2.2.2.2.2.2.2.2.2
  refine lv_aload_n C.1 C.2.1 dL_freeDropsOf_0 rfl (lv_at hl 2 rfl) ?_
  refine lv_iconst (v := 0) C.1 C.2.1 dL_freeDropsOf_1 (by decide) ?_
  refine lv_aload_n C.1 C.2.1 dL_freeDropsOf_2 rfl (lv_at hl 0 rfl) ?_
  refine lv_iload_n C.1 C.2.1 dL_freeDropsOf_3 rfl (lv_at hl 1 rfl) ?_
  refine y_vi C (hw.perm hpe) hM ml_L_66 yf_X11_freeDropsOf q0 he rfl (As := [.int x0]) rfl rfl ⟨Nat.le_refl _, by show 8 + (2 + 11) + 64 * d ≤ 64 * (d + 1); omega⟩ ⟨Nat.le_of_eq (Nat.zero_add _), Nat.le_of_eq (Nat.zero_add _)⟩ hl.1 (Nat.le_of_ble_eq_true rfl) dL_freeDropsOf_4 (fun k1 q ce H locs hp hw hc1 hc2 hc3 => ?_) (fun r u H locs hp hw => ?_)
  · obtain ⟨hk, hpm⟩ := hpx k1 hp
    replace hw := hw.perm hpm
    subst hk
    refine vx_catch (own := RL) (name := "java/lang/IndexOutOfBoundsException") (E := "java/lang/IndexOutOfBoundsException") C.2.2.2.2.1 (tableOf []) { startPc := 0, endPc := 9, handlerPc := 12, catchType := 21 } (tableOf []) htab (fun z hz => nomatch hz) (by decide) (by decide) (C.2.2.2.2.2.1 _ cl_L_21) (fw_mv C rfl rfl (hb _ (tb4 _ (List.mem_of_getElem? (i := 162) rfl)))) hc1 hc2 hc3 ?_
    refine lv_astore_n (lv' := [(3, .ref q), (0, .ref b), (1, .int x0), (2, .ref o)]) C.1 C.2.1 dL_freeDropsOf_12 rfl hl (by decide) rfl (fun ls hl => ?_)
    refine lv_iconst (v := 1) C.1 C.2.1 dL_freeDropsOf_13 (by decide) ?_
    exact r_iret C hw rfl rfl (Sum.inr 1) ⟨rfl, hp⟩ rfl (Nat.le_of_eq (Nat.zero_add _)) (Nat.le_of_eq (Nat.zero_add _)) dL_freeDropsOf_14
  · replace hw := hw.perm (hpn u)
    refine lv_i2l (v := r.toInt64) C.1 C.2.1 dL_freeDropsOf_7 rfl ?_
    refine r_last C hw 0 rfl (n := 1) (i := 0) (x := r.toInt64) (show ¬ ((0 : Int32) < 0 ∨ 1 ≤ (0 : Int32).toNatClampNeg) by decide) (w' := (o, .inl (G.2.2.1 4, 1, .inr (.inl (vp_updL f 0 r.toInt64)))) :: WfA u) rfl dL_freeDropsOf_8 (fun H locs hw => ?_)
    refine lv_goto (tgt := 15) C.1 C.2.1 dL_freeDropsOf_9 (by decide) ?_
    refine lv_iconst (v := 0) C.1 C.2.1 dL_freeDropsOf_15 (by decide) ?_
    exact r_iret C hw rfl rfl (Sum.inl (r, u)) ⟨rfl, hp⟩ rfl (Nat.le_of_eq (Nat.zero_add _)) (Nat.le_of_eq (Nat.zero_add _)) dL_freeDropsOf_16
set_option maxHeartbeats 4000000 in
set_option maxRecDepth 100000 in
theorem w_stallByMoney {l : Launch} {G : Gx} (hF : SF l G) {S : Type} {d k z : Nat} {post : Int32 → S → Prop} {Wf : S → va_W} {px : Nat → Prop} {Wx : Nat → va_W} {b o : Nat} {fs : List Value} {f : Nat → Int64} {wA w : va_W} {WfA : S → va_W} {WxA : Nat → va_W} {x0 : Int32} (hM : XI l G yX11_stallByMoney cX11_stallByMoney 3 .int d k z [.ref b, .int x0] w post Wf px Wx) (hpe : List.Perm ((o, .inl (G.2.2.1 4, 1, .inr (.inl f))) :: wA) w) (q0 : Nat) (he : w[q0]? = some (b, .inr (12, fs))) (hpn : ∀ u, List.Perm (Wf u) ((o, .inl (G.2.2.1 4, 1, .inr (.inl f))) :: WfA u)) (hpx : ∀ k1, px k1 → (k1 = 5) ∧ List.Perm (Wx k1) ((o, .inl (G.2.2.1 4, 1, .inr (.inl f))) :: WxA k1)) : HI l G yL_stallByMoney cL_stallByMoney 4 [(0, 9, 12, 45)] (d + 1) k z [.ref b, .int x0, .ref o] ((o, .inl (G.2.2.1 4, 1, .inr (.inl f))) :: wA) (fun c1 (t : (Int32 × S) ⊕ Nat) => match t with | .inl (r, u) => c1 = 0 ∧ post r u | .inr k1 => c1 = (if k1 = 5 then 1 else 0) ∧ px k1) (fun t => match t with | .inl (r, u) => (o, .inl (G.2.2.1 4, 1, .inr (.inl (vp_updL f 0 r.toInt64)))) :: WfA u | .inr k1 => (o, .inl (G.2.2.1 4, 1, .inr (.inl f))) :: WxA k1) := by
  refine mh_of hF (by decide) (Nat.le_of_ble_eq_true rfl) ?_
  intro p e s m below meth c C htab ls hl H locs hw
  have hl : lv_has ls 4 [(0, .ref b), (1, .int x0), (2, .ref o)] := hl
  obtain ⟨bb, hb, -⟩ := id C.2.2.2.2.2.2.2.2.2.2.2.2
  refine lv_aload_n C.1 C.2.1 dL_stallByMoney_0 rfl (lv_at hl 2 rfl) ?_
  refine lv_iconst (v := 0) C.1 C.2.1 dL_stallByMoney_1 (by decide) ?_
  refine lv_aload_n C.1 C.2.1 dL_stallByMoney_2 rfl (lv_at hl 0 rfl) ?_
  refine lv_iload_n C.1 C.2.1 dL_stallByMoney_3 rfl (lv_at hl 1 rfl) ?_
  refine y_vi C (hw.perm hpe) hM ml_L_69 yf_X11_stallByMoney q0 he rfl (As := [.int x0]) rfl rfl ⟨Nat.le_refl _, by show 8 + (3 + 11) + 64 * d ≤ 64 * (d + 1); omega⟩ ⟨Nat.le_of_eq (Nat.zero_add _), Nat.le_of_eq (Nat.zero_add _)⟩ hl.1 (Nat.le_of_ble_eq_true rfl) dL_stallByMoney_4 (fun k1 q ce H locs hp hw hc1 hc2 hc3 => ?_) (fun r u H locs hp hw => ?_)
  · obtain ⟨hk, hpm⟩ := hpx k1 hp
    replace hw := hw.perm hpm
    subst hk
    refine vx_catch (own := RL) (name := "java/util/NoSuchElementException") (E := "java/util/NoSuchElementException") C.2.2.2.2.1 (tableOf []) { startPc := 0, endPc := 9, handlerPc := 12, catchType := 45 } (tableOf []) htab (fun z hz => nomatch hz) (by decide) (by decide) (C.2.2.2.2.2.1 _ cl_L_45) (fw_mv C rfl rfl (hb _ (tb4 _ (List.mem_of_getElem? (i := 216) rfl)))) hc1 hc2 hc3 ?_
    refine lv_astore_n (lv' := [(3, .ref q), (0, .ref b), (1, .int x0), (2, .ref o)]) C.1 C.2.1 dL_stallByMoney_12 rfl hl (by decide) rfl (fun ls hl => ?_)
    refine lv_iconst (v := 1) C.1 C.2.1 dL_stallByMoney_13 (by decide) ?_
    exact r_iret C hw rfl rfl (Sum.inr 5) ⟨rfl, hp⟩ rfl (Nat.le_of_eq (Nat.zero_add _)) (Nat.le_of_eq (Nat.zero_add _)) dL_stallByMoney_14
  · replace hw := hw.perm (hpn u)
    refine lv_i2l (v := r.toInt64) C.1 C.2.1 dL_stallByMoney_7 rfl ?_
    refine r_last C hw 0 rfl (n := 1) (i := 0) (x := r.toInt64) (show ¬ ((0 : Int32) < 0 ∨ 1 ≤ (0 : Int32).toNatClampNeg) by decide) (w' := (o, .inl (G.2.2.1 4, 1, .inr (.inl (vp_updL f 0 r.toInt64)))) :: WfA u) rfl dL_stallByMoney_8 (fun H locs hw => ?_)
    refine lv_goto (tgt := 15) C.1 C.2.1 dL_stallByMoney_9 (by decide) ?_
    refine lv_iconst (v := 0) C.1 C.2.1 dL_stallByMoney_15 (by decide) ?_
    exact r_iret C hw rfl rfl (Sum.inl (r, u)) ⟨rfl, hp⟩ rfl (Nat.le_of_eq (Nat.zero_add _)) (Nat.le_of_eq (Nat.zero_add _)) dL_stallByMoney_16
set_option maxHeartbeats 4000000 in
set_option maxRecDepth 100000 in
theorem w_orderAt {l : Launch} {G : Gx} (hF : SF l G) {S : Type} {d k z : Nat} {post : Int32 → S → Prop} {Wf : S → va_W} {px : Nat → Prop} {Wx : Nat → va_W} {b o : Nat} {fs : List Value} {f : Nat → Int64} {wA w : va_W} {WfA : S → va_W} {WxA : Nat → va_W} {x0 : Int32} (hM : XI l G yX11_orderAt cX11_orderAt 2 .int d k z [.ref b, .int x0] w post Wf px Wx) (hpe : List.Perm ((o, .inl (G.2.2.1 4, 1, .inr (.inl f))) :: wA) w) (q0 : Nat) (he : w[q0]? = some (b, .inr (12, fs))) (hpn : ∀ u, List.Perm (Wf u) ((o, .inl (G.2.2.1 4, 1, .inr (.inl f))) :: WfA u)) (hpx : ∀ k1, px k1 → (k1 = 1) ∧ List.Perm (Wx k1) ((o, .inl (G.2.2.1 4, 1, .inr (.inl f))) :: WxA k1)) : HI l G yL_orderAt cL_orderAt 4 [(0, 9, 12, 21)] (d + 1) k z [.ref b, .int x0, .ref o] ((o, .inl (G.2.2.1 4, 1, .inr (.inl f))) :: wA) (fun c1 (t : (Int32 × S) ⊕ Nat) => match t with | .inl (r, u) => c1 = 0 ∧ post r u | .inr k1 => c1 = (if k1 = 1 then 1 else 0) ∧ px k1) (fun t => match t with | .inl (r, u) => (o, .inl (G.2.2.1 4, 1, .inr (.inl (vp_updL f 0 r.toInt64)))) :: WfA u | .inr k1 => (o, .inl (G.2.2.1 4, 1, .inr (.inl f))) :: WxA k1) := by
  refine mh_of hF (by decide) (Nat.le_of_ble_eq_true rfl) ?_
  intro p e s m below meth c C htab ls hl H locs hw
  have hl : lv_has ls 4 [(0, .ref b), (1, .int x0), (2, .ref o)] := hl
  obtain ⟨bb, hb, -⟩ := id C.2.2.2.2.2.2.2.2.2.2.2.2
  refine lv_aload_n C.1 C.2.1 dL_orderAt_0 rfl (lv_at hl 2 rfl) ?_
  refine lv_iconst (v := 0) C.1 C.2.1 dL_orderAt_1 (by decide) ?_
  refine lv_aload_n C.1 C.2.1 dL_orderAt_2 rfl (lv_at hl 0 rfl) ?_
  refine lv_iload_n C.1 C.2.1 dL_orderAt_3 rfl (lv_at hl 1 rfl) ?_
  refine y_vi C (hw.perm hpe) hM ml_L_72 yf_X11_orderAt q0 he rfl (As := [.int x0]) rfl rfl ⟨Nat.le_refl _, by show 8 + (2 + 11) + 64 * d ≤ 64 * (d + 1); omega⟩ ⟨Nat.le_of_eq (Nat.zero_add _), Nat.le_of_eq (Nat.zero_add _)⟩ hl.1 (Nat.le_of_ble_eq_true rfl) dL_orderAt_4 (fun k1 q ce H locs hp hw hc1 hc2 hc3 => ?_) (fun r u H locs hp hw => ?_)
  · obtain ⟨hk, hpm⟩ := hpx k1 hp
    replace hw := hw.perm hpm
    subst hk
    refine vx_catch (own := RL) (name := "java/lang/IndexOutOfBoundsException") (E := "java/lang/IndexOutOfBoundsException") C.2.2.2.2.1 (tableOf []) { startPc := 0, endPc := 9, handlerPc := 12, catchType := 21 } (tableOf []) htab (fun z hz => nomatch hz) (by decide) (by decide) (C.2.2.2.2.2.1 _ cl_L_21) (fw_mv C rfl rfl (hb _ (tb4 _ (List.mem_of_getElem? (i := 162) rfl)))) hc1 hc2 hc3 ?_
    refine lv_astore_n (lv' := [(3, .ref q), (0, .ref b), (1, .int x0), (2, .ref o)]) C.1 C.2.1 dL_orderAt_12 rfl hl (by decide) rfl (fun ls hl => ?_)
    refine lv_iconst (v := 1) C.1 C.2.1 dL_orderAt_13 (by decide) ?_
    exact r_iret C hw rfl rfl (Sum.inr 1) ⟨rfl, hp⟩ rfl (Nat.le_of_eq (Nat.zero_add _)) (Nat.le_of_eq (Nat.zero_add _)) dL_orderAt_14
  · replace hw := hw.perm (hpn u)
    refine lv_i2l (v := r.toInt64) C.1 C.2.1 dL_orderAt_7 rfl ?_
    refine r_last C hw 0 rfl (n := 1) (i := 0) (x := r.toInt64) (show ¬ ((0 : Int32) < 0 ∨ 1 ≤ (0 : Int32).toNatClampNeg) by decide) (w' := (o, .inl (G.2.2.1 4, 1, .inr (.inl (vp_updL f 0 r.toInt64)))) :: WfA u) rfl dL_orderAt_8 (fun H locs hw => ?_)
    refine lv_goto (tgt := 15) C.1 C.2.1 dL_orderAt_9 (by decide) ?_
    refine lv_iconst (v := 0) C.1 C.2.1 dL_orderAt_15 (by decide) ?_
    exact r_iret C hw rfl rfl (Sum.inl (r, u)) ⟨rfl, hp⟩ rfl (Nat.le_of_eq (Nat.zero_add _)) (Nat.le_of_eq (Nat.zero_add _)) dL_orderAt_16
set_option maxHeartbeats 4000000 in
set_option maxRecDepth 100000 in
theorem w_stallOf {l : Launch} {G : Gx} (hF : SF l G) {S : Type} {d k z : Nat} {post : Int32 → S → Prop} {Wf : S → va_W} {px : Nat → Prop} {Wx : Nat → va_W} {b o : Nat} {fs : List Value} {f : Nat → Int64} {wA w : va_W} {WfA : S → va_W} {WxA : Nat → va_W} {x0 : Int32} (hM : XI l G yX11_stallOf cX11_stallOf 2 .int d k z [.ref b, .int x0] w post Wf px Wx) (hpe : List.Perm ((o, .inl (G.2.2.1 4, 1, .inr (.inl f))) :: wA) w) (q0 : Nat) (he : w[q0]? = some (b, .inr (12, fs))) (hpn : ∀ u, List.Perm (Wf u) ((o, .inl (G.2.2.1 4, 1, .inr (.inl f))) :: WfA u)) (hpx : ∀ k1, px k1 → (k1 = 5) ∧ List.Perm (Wx k1) ((o, .inl (G.2.2.1 4, 1, .inr (.inl f))) :: WxA k1)) : HI l G yL_stallOf cL_stallOf 4 [(0, 9, 12, 45)] (d + 1) k z [.ref b, .int x0, .ref o] ((o, .inl (G.2.2.1 4, 1, .inr (.inl f))) :: wA) (fun c1 (t : (Int32 × S) ⊕ Nat) => match t with | .inl (r, u) => c1 = 0 ∧ post r u | .inr k1 => c1 = (if k1 = 5 then 1 else 0) ∧ px k1) (fun t => match t with | .inl (r, u) => (o, .inl (G.2.2.1 4, 1, .inr (.inl (vp_updL f 0 r.toInt64)))) :: WfA u | .inr k1 => (o, .inl (G.2.2.1 4, 1, .inr (.inl f))) :: WxA k1) := by
  refine mh_of hF (by decide) (Nat.le_of_ble_eq_true rfl) ?_
  intro p e s m below meth c C htab ls hl H locs hw
  have hl : lv_has ls 4 [(0, .ref b), (1, .int x0), (2, .ref o)] := hl
  obtain ⟨bb, hb, -⟩ := id C.2.2.2.2.2.2.2.2.2.2.2.2
  refine lv_aload_n C.1 C.2.1 dL_stallOf_0 rfl (lv_at hl 2 rfl) ?_
  refine lv_iconst (v := 0) C.1 C.2.1 dL_stallOf_1 (by decide) ?_
  refine lv_aload_n C.1 C.2.1 dL_stallOf_2 rfl (lv_at hl 0 rfl) ?_
  refine lv_iload_n C.1 C.2.1 dL_stallOf_3 rfl (lv_at hl 1 rfl) ?_
  refine y_vi C (hw.perm hpe) hM ml_L_75 yf_X11_stallOf q0 he rfl (As := [.int x0]) rfl rfl ⟨Nat.le_refl _, by show 8 + (2 + 11) + 64 * d ≤ 64 * (d + 1); omega⟩ ⟨Nat.le_of_eq (Nat.zero_add _), Nat.le_of_eq (Nat.zero_add _)⟩ hl.1 (Nat.le_of_ble_eq_true rfl) dL_stallOf_4 (fun k1 q ce H locs hp hw hc1 hc2 hc3 => ?_) (fun r u H locs hp hw => ?_)
  · obtain ⟨hk, hpm⟩ := hpx k1 hp
    replace hw := hw.perm hpm
    subst hk
    refine vx_catch (own := RL) (name := "java/util/NoSuchElementException") (E := "java/util/NoSuchElementException") C.2.2.2.2.1 (tableOf []) { startPc := 0, endPc := 9, handlerPc := 12, catchType := 45 } (tableOf []) htab (fun z hz => nomatch hz) (by decide) (by decide) (C.2.2.2.2.2.1 _ cl_L_45) (fw_mv C rfl rfl (hb _ (tb4 _ (List.mem_of_getElem? (i := 216) rfl)))) hc1 hc2 hc3 ?_
    refine lv_astore_n (lv' := [(3, .ref q), (0, .ref b), (1, .int x0), (2, .ref o)]) C.1 C.2.1 dL_stallOf_12 rfl hl (by decide) rfl (fun ls hl => ?_)
    refine lv_iconst (v := 1) C.1 C.2.1 dL_stallOf_13 (by decide) ?_
    exact r_iret C hw rfl rfl (Sum.inr 5) ⟨rfl, hp⟩ rfl (Nat.le_of_eq (Nat.zero_add _)) (Nat.le_of_eq (Nat.zero_add _)) dL_stallOf_14
  · replace hw := hw.perm (hpn u)
    refine lv_i2l (v := r.toInt64) C.1 C.2.1 dL_stallOf_7 rfl ?_
    refine r_last C hw 0 rfl (n := 1) (i := 0) (x := r.toInt64) (show ¬ ((0 : Int32) < 0 ∨ 1 ≤ (0 : Int32).toNatClampNeg) by decide) (w' := (o, .inl (G.2.2.1 4, 1, .inr (.inl (vp_updL f 0 r.toInt64)))) :: WfA u) rfl dL_stallOf_8 (fun H locs hw => ?_)
    refine lv_goto (tgt := 15) C.1 C.2.1 dL_stallOf_9 (by decide) ?_
    refine lv_iconst (v := 0) C.1 C.2.1 dL_stallOf_15 (by decide) ?_
    exact r_iret C hw rfl rfl (Sum.inl (r, u)) ⟨rfl, hp⟩ rfl (Nat.le_of_eq (Nat.zero_add _)) (Nat.le_of_eq (Nat.zero_add _)) dL_stallOf_16
set_option maxHeartbeats 4000000 in
set_option maxRecDepth 100000 in
theorem w_isBuying {l : Launch} {G : Gx} (hF : SF l G) {S : Type} {d k z : Nat} {post : Int32 → S → Prop} {Wf : S → va_W} {px : Nat → Prop} {Wx : Nat → va_W} {b o : Nat} {fs : List Value} {f : Nat → Int64} {wA w : va_W} {WfA : S → va_W} {WxA : Nat → va_W} {x0 : Int32} (hM : XI l G yX11_isBuying cX11_isBuying 2 .boolean d k z [.ref b, .int x0] w post Wf px Wx) (hpe : List.Perm ((o, .inl (G.2.2.1 4, 1, .inr (.inl f))) :: wA) w) (q0 : Nat) (he : w[q0]? = some (b, .inr (12, fs))) (hpn : ∀ u, List.Perm (Wf u) ((o, .inl (G.2.2.1 4, 1, .inr (.inl f))) :: WfA u)) (hpx : ∀ k1, px k1 → (k1 = 5) ∧ List.Perm (Wx k1) ((o, .inl (G.2.2.1 4, 1, .inr (.inl f))) :: WxA k1)) : HI l G yL_isBuying cL_isBuying 4 [(0, 16, 19, 45)] (d + 1) k z [.ref b, .int x0, .ref o] ((o, .inl (G.2.2.1 4, 1, .inr (.inl f))) :: wA) (fun c1 (t : (Int32 × S) ⊕ Nat) => match t with | .inl (r, u) => c1 = 0 ∧ post r u | .inr k1 => c1 = (if k1 = 5 then 1 else 0) ∧ px k1) (fun t => match t with | .inl (r, u) => (o, .inl (G.2.2.1 4, 1, .inr (.inl (vp_updL f 0 (if r = 0 then 0 else 1))))) :: WfA u | .inr k1 => (o, .inl (G.2.2.1 4, 1, .inr (.inl f))) :: WxA k1) := by
  refine mh_of hF (by decide) (Nat.le_of_ble_eq_true rfl) ?_
  intro p e s m below meth c C htab ls hl H locs hw
  have hl : lv_has ls 4 [(0, .ref b), (1, .int x0), (2, .ref o)] := hl
  obtain ⟨bb, hb, -⟩ := id C.2.2.2.2.2.2.2.2.2.2.2.2
  refine lv_aload_n C.1 C.2.1 dL_isBuying_0 rfl (lv_at hl 2 rfl) ?_
  refine lv_iconst (v := 0) C.1 C.2.1 dL_isBuying_1 (by decide) ?_
  refine lv_aload_n C.1 C.2.1 dL_isBuying_2 rfl (lv_at hl 0 rfl) ?_
  refine lv_iload_n C.1 C.2.1 dL_isBuying_3 rfl (lv_at hl 1 rfl) ?_
  refine y_vi C (hw.perm hpe) hM ml_L_78 yf_X11_isBuying q0 he rfl (As := [.int x0]) rfl rfl ⟨Nat.le_refl _, by show 8 + (2 + 11) + 64 * d ≤ 64 * (d + 1); omega⟩ ⟨Nat.le_of_eq (Nat.zero_add _), Nat.le_of_eq (Nat.zero_add _)⟩ hl.1 (Nat.le_of_ble_eq_true rfl) dL_isBuying_4 (fun k1 q ce H locs hp hw hc1 hc2 hc3 => ?_) (fun r u H locs hp hw => ?_)
  · obtain ⟨hk, hpm⟩ := hpx k1 hp
    replace hw := hw.perm hpm
    subst hk
    refine vx_catch (own := RL) (name := "java/util/NoSuchElementException") (E := "java/util/NoSuchElementException") C.2.2.2.2.1 (tableOf []) { startPc := 0, endPc := 16, handlerPc := 19, catchType := 45 } (tableOf []) htab (fun z hz => nomatch hz) (by decide) (by decide) (C.2.2.2.2.2.1 _ cl_L_45) (fw_mv C rfl rfl (hb _ (tb4 _ (List.mem_of_getElem? (i := 216) rfl)))) hc1 hc2 hc3 ?_
    refine lv_astore_n (lv' := [(3, .ref q), (0, .ref b), (1, .int x0), (2, .ref o)]) C.1 C.2.1 dL_isBuying_19 rfl hl (by decide) rfl (fun ls hl => ?_)
    refine lv_iconst (v := 1) C.1 C.2.1 dL_isBuying_20 (by decide) ?_
    exact r_iret C hw rfl rfl (Sum.inr 5) ⟨rfl, hp⟩ rfl (Nat.le_of_eq (Nat.zero_add _)) (Nat.le_of_eq (Nat.zero_add _)) dL_isBuying_21
  · replace hw := hw.perm (hpn u)
    refine lv_if_eq (tgt := 14) C.1 C.2.1 dL_isBuying_7 (by decide) (fun c0 => ?_) (fun c0 => ?_)
    · refine lv_lconst (v := 0) C.1 C.2.1 dL_isBuying_14 (by decide) ?_
      refine r_last C hw 0 rfl (n := 1) (i := 0) (x := 0) (show ¬ ((0 : Int32) < 0 ∨ 1 ≤ (0 : Int32).toNatClampNeg) by decide) (w' := (o, .inl (G.2.2.1 4, 1, .inr (.inl (vp_updL f 0 0)))) :: WfA u) rfl dL_isBuying_15 (fun H locs hw => ?_)
      refine lv_goto (tgt := 22) C.1 C.2.1 dL_isBuying_16 (by decide) ?_
      refine lv_iconst (v := 0) C.1 C.2.1 dL_isBuying_22 (by decide) ?_
      exact r_iret C hw rfl rfl (Sum.inl (r, u)) ⟨rfl, hp⟩ (by simp only [if_pos c0]) (Nat.le_of_eq (Nat.zero_add _)) (Nat.le_of_eq (Nat.zero_add _)) dL_isBuying_23
    · refine lv_lconst (v := 1) C.1 C.2.1 dL_isBuying_10 (by decide) ?_
      refine lv_goto (tgt := 15) C.1 C.2.1 dL_isBuying_11 (by decide) ?_
      refine r_last C hw 0 rfl (n := 1) (i := 0) (x := 1) (show ¬ ((0 : Int32) < 0 ∨ 1 ≤ (0 : Int32).toNatClampNeg) by decide) (w' := (o, .inl (G.2.2.1 4, 1, .inr (.inl (vp_updL f 0 1)))) :: WfA u) rfl dL_isBuying_15 (fun H locs hw => ?_)
      refine lv_goto (tgt := 22) C.1 C.2.1 dL_isBuying_16 (by decide) ?_
      refine lv_iconst (v := 0) C.1 C.2.1 dL_isBuying_22 (by decide) ?_
      exact r_iret C hw rfl rfl (Sum.inl (r, u)) ⟨rfl, hp⟩ (by simp only [if_neg c0]) (Nat.le_of_eq (Nat.zero_add _)) (Nat.le_of_eq (Nat.zero_add _)) dL_isBuying_23
set_option maxHeartbeats 4000000 in
set_option maxRecDepth 100000 in
theorem w_priceOf {l : Launch} {G : Gx} (hF : SF l G) {S : Type} {d k z : Nat} {post : Int32 → S → Prop} {Wf : S → va_W} {px : Nat → Prop} {Wx : Nat → va_W} {b o : Nat} {fs : List Value} {f : Nat → Int64} {wA w : va_W} {WfA : S → va_W} {WxA : Nat → va_W} {x0 : Int32} (hM : XI l G yX11_priceOf cX11_priceOf 2 .int d k z [.ref b, .int x0] w post Wf px Wx) (hpe : List.Perm ((o, .inl (G.2.2.1 4, 1, .inr (.inl f))) :: wA) w) (q0 : Nat) (he : w[q0]? = some (b, .inr (12, fs))) (hpn : ∀ u, List.Perm (Wf u) ((o, .inl (G.2.2.1 4, 1, .inr (.inl f))) :: WfA u)) (hpx : ∀ k1, px k1 → (k1 = 5) ∧ List.Perm (Wx k1) ((o, .inl (G.2.2.1 4, 1, .inr (.inl f))) :: WxA k1)) : HI l G yL_priceOf cL_priceOf 4 [(0, 9, 12, 45)] (d + 1) k z [.ref b, .int x0, .ref o] ((o, .inl (G.2.2.1 4, 1, .inr (.inl f))) :: wA) (fun c1 (t : (Int32 × S) ⊕ Nat) => match t with | .inl (r, u) => c1 = 0 ∧ post r u | .inr k1 => c1 = (if k1 = 5 then 1 else 0) ∧ px k1) (fun t => match t with | .inl (r, u) => (o, .inl (G.2.2.1 4, 1, .inr (.inl (vp_updL f 0 r.toInt64)))) :: WfA u | .inr k1 => (o, .inl (G.2.2.1 4, 1, .inr (.inl f))) :: WxA k1) := by
  refine mh_of hF (by decide) (Nat.le_of_ble_eq_true rfl) ?_
  intro p e s m below meth c C htab ls hl H locs hw
  have hl : lv_has ls 4 [(0, .ref b), (1, .int x0), (2, .ref o)] := hl
  obtain ⟨bb, hb, -⟩ := id C.2.2.2.2.2.2.2.2.2.2.2.2
  refine lv_aload_n C.1 C.2.1 dL_priceOf_0 rfl (lv_at hl 2 rfl) ?_
  refine lv_iconst (v := 0) C.1 C.2.1 dL_priceOf_1 (by decide) ?_
  refine lv_aload_n C.1 C.2.1 dL_priceOf_2 rfl (lv_at hl 0 rfl) ?_
  refine lv_iload_n C.1 C.2.1 dL_priceOf_3 rfl (lv_at hl 1 rfl) ?_
  refine y_vi C (hw.perm hpe) hM ml_L_82 yf_X11_priceOf q0 he rfl (As := [.int x0]) rfl rfl ⟨Nat.le_refl _, by show 8 + (2 + 11) + 64 * d ≤ 64 * (d + 1); omega⟩ ⟨Nat.le_of_eq (Nat.zero_add _), Nat.le_of_eq (Nat.zero_add _)⟩ hl.1 (Nat.le_of_ble_eq_true rfl) dL_priceOf_4 (fun k1 q ce H locs hp hw hc1 hc2 hc3 => ?_) (fun r u H locs hp hw => ?_)
  · obtain ⟨hk, hpm⟩ := hpx k1 hp
    replace hw := hw.perm hpm
    subst hk
    refine vx_catch (own := RL) (name := "java/util/NoSuchElementException") (E := "java/util/NoSuchElementException") C.2.2.2.2.1 (tableOf []) { startPc := 0, endPc := 9, handlerPc := 12, catchType := 45 } (tableOf []) htab (fun z hz => nomatch hz) (by decide) (by decide) (C.2.2.2.2.2.1 _ cl_L_45) (fw_mv C rfl rfl (hb _ (tb4 _ (List.mem_of_getElem? (i := 216) rfl)))) hc1 hc2 hc3 ?_
    refine lv_astore_n (lv' := [(3, .ref q), (0, .ref b), (1, .int x0), (2, .ref o)]) C.1 C.2.1 dL_priceOf_12 rfl hl (by decide) rfl (fun ls hl => ?_)
    refine lv_iconst (v := 1) C.1 C.2.1 dL_priceOf_13 (by decide) ?_
    exact r_iret C hw rfl rfl (Sum.inr 5) ⟨rfl, hp⟩ rfl (Nat.le_of_eq (Nat.zero_add _)) (Nat.le_of_eq (Nat.zero_add _)) dL_priceOf_14
  · replace hw := hw.perm (hpn u)
    refine lv_i2l (v := r.toInt64) C.1 C.2.1 dL_priceOf_7 rfl ?_
    refine r_last C hw 0 rfl (n := 1) (i := 0) (x := r.toInt64) (show ¬ ((0 : Int32) < 0 ∨ 1 ≤ (0 : Int32).toNatClampNeg) by decide) (w' := (o, .inl (G.2.2.1 4, 1, .inr (.inl (vp_updL f 0 r.toInt64)))) :: WfA u) rfl dL_priceOf_8 (fun H locs hw => ?_)
    refine lv_goto (tgt := 15) C.1 C.2.1 dL_priceOf_9 (by decide) ?_
    refine lv_iconst (v := 0) C.1 C.2.1 dL_priceOf_15 (by decide) ?_
    exact r_iret C hw rfl rfl (Sum.inl (r, u)) ⟨rfl, hp⟩ rfl (Nat.le_of_eq (Nat.zero_add _)) (Nat.le_of_eq (Nat.zero_add _)) dL_priceOf_16
set_option maxHeartbeats 4000000 in
set_option maxRecDepth 100000 in
theorem w_quantityOf {l : Launch} {G : Gx} (hF : SF l G) {S : Type} {d k z : Nat} {post : Int32 → S → Prop} {Wf : S → va_W} {px : Nat → Prop} {Wx : Nat → va_W} {b o : Nat} {fs : List Value} {f : Nat → Int64} {wA w : va_W} {WfA : S → va_W} {WxA : Nat → va_W} {x0 : Int32} (hM : XI l G yX11_quantityOf cX11_quantityOf 2 .int d k z [.ref b, .int x0] w post Wf px Wx) (hpe : List.Perm ((o, .inl (G.2.2.1 4, 1, .inr (.inl f))) :: wA) w) (q0 : Nat) (he : w[q0]? = some (b, .inr (12, fs))) (hpn : ∀ u, List.Perm (Wf u) ((o, .inl (G.2.2.1 4, 1, .inr (.inl f))) :: WfA u)) (hpx : ∀ k1, px k1 → (k1 = 5) ∧ List.Perm (Wx k1) ((o, .inl (G.2.2.1 4, 1, .inr (.inl f))) :: WxA k1)) : HI l G yL_quantityOf cL_quantityOf 4 [(0, 9, 12, 45)] (d + 1) k z [.ref b, .int x0, .ref o] ((o, .inl (G.2.2.1 4, 1, .inr (.inl f))) :: wA) (fun c1 (t : (Int32 × S) ⊕ Nat) => match t with | .inl (r, u) => c1 = 0 ∧ post r u | .inr k1 => c1 = (if k1 = 5 then 1 else 0) ∧ px k1) (fun t => match t with | .inl (r, u) => (o, .inl (G.2.2.1 4, 1, .inr (.inl (vp_updL f 0 r.toInt64)))) :: WfA u | .inr k1 => (o, .inl (G.2.2.1 4, 1, .inr (.inl f))) :: WxA k1) := by
  refine mh_of hF (by decide) (Nat.le_of_ble_eq_true rfl) ?_
  intro p e s m below meth c C htab ls hl H locs hw
  have hl : lv_has ls 4 [(0, .ref b), (1, .int x0), (2, .ref o)] := hl
  obtain ⟨bb, hb, -⟩ := id C.2.2.2.2.2.2.2.2.2.2.2.2
  refine lv_aload_n C.1 C.2.1 dL_quantityOf_0 rfl (lv_at hl 2 rfl) ?_
  refine lv_iconst (v := 0) C.1 C.2.1 dL_quantityOf_1 (by decide) ?_
  refine lv_aload_n C.1 C.2.1 dL_quantityOf_2 rfl (lv_at hl 0 rfl) ?_
  refine lv_iload_n C.1 C.2.1 dL_quantityOf_3 rfl (lv_at hl 1 rfl) ?_
  refine y_vi C (hw.perm hpe) hM ml_L_85 yf_X11_quantityOf q0 he rfl (As := [.int x0]) rfl rfl ⟨Nat.le_refl _, by show 8 + (2 + 11) + 64 * d ≤ 64 * (d + 1); omega⟩ ⟨Nat.le_of_eq (Nat.zero_add _), Nat.le_of_eq (Nat.zero_add _)⟩ hl.1 (Nat.le_of_ble_eq_true rfl) dL_quantityOf_4 (fun k1 q ce H locs hp hw hc1 hc2 hc3 => ?_) (fun r u H locs hp hw => ?_)
  · obtain ⟨hk, hpm⟩ := hpx k1 hp
    replace hw := hw.perm hpm
    subst hk
    refine vx_catch (own := RL) (name := "java/util/NoSuchElementException") (E := "java/util/NoSuchElementException") C.2.2.2.2.1 (tableOf []) { startPc := 0, endPc := 9, handlerPc := 12, catchType := 45 } (tableOf []) htab (fun z hz => nomatch hz) (by decide) (by decide) (C.2.2.2.2.2.1 _ cl_L_45) (fw_mv C rfl rfl (hb _ (tb4 _ (List.mem_of_getElem? (i := 216) rfl)))) hc1 hc2 hc3 ?_
    refine lv_astore_n (lv' := [(3, .ref q), (0, .ref b), (1, .int x0), (2, .ref o)]) C.1 C.2.1 dL_quantityOf_12 rfl hl (by decide) rfl (fun ls hl => ?_)
    refine lv_iconst (v := 1) C.1 C.2.1 dL_quantityOf_13 (by decide) ?_
    exact r_iret C hw rfl rfl (Sum.inr 5) ⟨rfl, hp⟩ rfl (Nat.le_of_eq (Nat.zero_add _)) (Nat.le_of_eq (Nat.zero_add _)) dL_quantityOf_14
  · replace hw := hw.perm (hpn u)
    refine lv_i2l (v := r.toInt64) C.1 C.2.1 dL_quantityOf_7 rfl ?_
    refine r_last C hw 0 rfl (n := 1) (i := 0) (x := r.toInt64) (show ¬ ((0 : Int32) < 0 ∨ 1 ≤ (0 : Int32).toNatClampNeg) by decide) (w' := (o, .inl (G.2.2.1 4, 1, .inr (.inl (vp_updL f 0 r.toInt64)))) :: WfA u) rfl dL_quantityOf_8 (fun H locs hw => ?_)
    refine lv_goto (tgt := 15) C.1 C.2.1 dL_quantityOf_9 (by decide) ?_
    refine lv_iconst (v := 0) C.1 C.2.1 dL_quantityOf_15 (by decide) ?_
    exact r_iret C hw rfl rfl (Sum.inl (r, u)) ⟨rfl, hp⟩ rfl (Nat.le_of_eq (Nat.zero_add _)) (Nat.le_of_eq (Nat.zero_add _)) dL_quantityOf_16
set_option maxHeartbeats 4000000 in
set_option maxRecDepth 100000 in
theorem w_minutesLeft {l : Launch} {G : Gx} (hF : SF l G) {S : Type} {d k z : Nat} {post : Int32 → S → Prop} {Wf : S → va_W} {px : Nat → Prop} {Wx : Nat → va_W} {b o : Nat} {fs : List Value} {f : Nat → Int64} {wA w : va_W} {WfA : S → va_W} {WxA : Nat → va_W} {x0 : Int32} (hM : XI l G yX11_minutesLeft cX11_minutesLeft 3 .int d k z [.ref b, .int x0] w post Wf px Wx) (hpe : List.Perm ((o, .inl (G.2.2.1 4, 1, .inr (.inl f))) :: wA) w) (q0 : Nat) (he : w[q0]? = some (b, .inr (12, fs))) (hpn : ∀ u, List.Perm (Wf u) ((o, .inl (G.2.2.1 4, 1, .inr (.inl f))) :: WfA u)) (hpx : ∀ k1, px k1 → (k1 = 5 ∨ k1 = 3) ∧ List.Perm (Wx k1) ((o, .inl (G.2.2.1 4, 1, .inr (.inl f))) :: WxA k1)) : HI l G yL_minutesLeft cL_minutesLeft 4 [(0, 9, 12, 45), (0, 9, 15, 15)] (d + 1) k z [.ref b, .int x0, .ref o] ((o, .inl (G.2.2.1 4, 1, .inr (.inl f))) :: wA) (fun c1 (t : (Int32 × S) ⊕ Nat) => match t with | .inl (r, u) => c1 = 0 ∧ post r u | .inr k1 => c1 = (if k1 = 5 then 1 else (if k1 = 3 then 2 else 0)) ∧ px k1) (fun t => match t with | .inl (r, u) => (o, .inl (G.2.2.1 4, 1, .inr (.inl (vp_updL f 0 r.toInt64)))) :: WfA u | .inr k1 => (o, .inl (G.2.2.1 4, 1, .inr (.inl f))) :: WxA k1) := by
  refine mh_of hF (by decide) (Nat.le_of_ble_eq_true rfl) ?_
  intro p e s m below meth c C htab ls hl H locs hw
  have hl : lv_has ls 4 [(0, .ref b), (1, .int x0), (2, .ref o)] := hl
  obtain ⟨bb, hb, -⟩ := id C.2.2.2.2.2.2.2.2.2.2.2.2
  refine lv_aload_n C.1 C.2.1 dL_minutesLeft_0 rfl (lv_at hl 2 rfl) ?_
  refine lv_iconst (v := 0) C.1 C.2.1 dL_minutesLeft_1 (by decide) ?_
  refine lv_aload_n C.1 C.2.1 dL_minutesLeft_2 rfl (lv_at hl 0 rfl) ?_
  refine lv_iload_n C.1 C.2.1 dL_minutesLeft_3 rfl (lv_at hl 1 rfl) ?_
  refine y_vi C (hw.perm hpe) hM ml_L_88 yf_X11_minutesLeft q0 he rfl (As := [.int x0]) rfl rfl ⟨Nat.le_refl _, by show 8 + (3 + 11) + 64 * d ≤ 64 * (d + 1); omega⟩ ⟨Nat.le_of_eq (Nat.zero_add _), Nat.le_of_eq (Nat.zero_add _)⟩ hl.1 (Nat.le_of_ble_eq_true rfl) dL_minutesLeft_4 (fun k1 q ce H locs hp hw hc1 hc2 hc3 => ?_) (fun r u H locs hp hw => ?_)
  · obtain ⟨hk, hpm⟩ := hpx k1 hp
    replace hw := hw.perm hpm
    rcases hk with rfl | rfl
    · refine vx_catch (own := RL) (name := "java/util/NoSuchElementException") (E := "java/util/NoSuchElementException") C.2.2.2.2.1 (tableOf []) { startPc := 0, endPc := 9, handlerPc := 12, catchType := 45 } (tableOf [(0, 9, 15, 15)]) htab (fun z hz => nomatch hz) (by decide) (by decide) (C.2.2.2.2.2.1 _ cl_L_45) (fw_mv C rfl rfl (hb _ (tb4 _ (List.mem_of_getElem? (i := 216) rfl)))) hc1 hc2 hc3 ?_
      refine lv_astore_n (lv' := [(3, .ref q), (0, .ref b), (1, .int x0), (2, .ref o)]) C.1 C.2.1 dL_minutesLeft_12 rfl hl (by decide) rfl (fun ls hl => ?_)
      refine lv_iconst (v := 1) C.1 C.2.1 dL_minutesLeft_13 (by decide) ?_
      exact r_iret C hw rfl rfl (Sum.inr 5) ⟨rfl, hp⟩ rfl (Nat.le_of_eq (Nat.zero_add _)) (Nat.le_of_eq (Nat.zero_add _)) dL_minutesLeft_14
    · refine vx_catch (own := RL) (name := "java/lang/IllegalStateException") (E := "java/lang/IllegalStateException") C.2.2.2.2.1 (tableOf [(0, 9, 12, 45)]) { startPc := 0, endPc := 9, handlerPc := 15, catchType := 15 } (tableOf []) htab (List.forall_mem_cons.mpr ⟨Or.inr ⟨by decide, _, C.2.2.2.2.2.1 _ cl_L_45, (SF.nc_3_5 hF).moved C.2.2.2.2.2.2.2.1.alike⟩, (fun z hz => nomatch hz)⟩) (by decide) (by decide) (C.2.2.2.2.2.1 _ cl_L_15) (fw_mv C rfl rfl (hb _ (tb4 _ (List.mem_of_getElem? (i := 180) rfl)))) hc1 hc2 hc3 ?_
      refine lv_astore_n (lv' := [(3, .ref q), (0, .ref b), (1, .int x0), (2, .ref o)]) C.1 C.2.1 dL_minutesLeft_15 rfl hl (by decide) rfl (fun ls hl => ?_)
      refine lv_iconst (v := 2) C.1 C.2.1 dL_minutesLeft_16 (by decide) ?_
      exact r_iret C hw rfl rfl (Sum.inr 3) ⟨rfl, hp⟩ rfl (Nat.le_of_eq (Nat.zero_add _)) (Nat.le_of_eq (Nat.zero_add _)) dL_minutesLeft_17
  · replace hw := hw.perm (hpn u)
    refine lv_i2l (v := r.toInt64) C.1 C.2.1 dL_minutesLeft_7 rfl ?_
    refine r_last C hw 0 rfl (n := 1) (i := 0) (x := r.toInt64) (show ¬ ((0 : Int32) < 0 ∨ 1 ≤ (0 : Int32).toNatClampNeg) by decide) (w' := (o, .inl (G.2.2.1 4, 1, .inr (.inl (vp_updL f 0 r.toInt64)))) :: WfA u) rfl dL_minutesLeft_8 (fun H locs hw => ?_)
    refine lv_goto (tgt := 18) C.1 C.2.1 dL_minutesLeft_9 (by decide) ?_
    refine lv_iconst (v := 0) C.1 C.2.1 dL_minutesLeft_18 (by decide) ?_
    exact r_iret C hw rfl rfl (Sum.inl (r, u)) ⟨rfl, hp⟩ rfl (Nat.le_of_eq (Nat.zero_add _)) (Nat.le_of_eq (Nat.zero_add _)) dL_minutesLeft_19
set_option maxHeartbeats 4000000 in
set_option maxRecDepth 100000 in
theorem w_bestBuy {l : Launch} {G : Gx} (hF : SF l G) {S : Type} {d k z : Nat} {post : Int32 → S → Prop} {Wf : S → va_W} {px : Nat → Prop} {Wx : Nat → va_W} {b o : Nat} {fs : List Value} {f : Nat → Int64} {wA w : va_W} {WfA : S → va_W} {WxA : Nat → va_W} (hM : XI l G yX11_bestBuy cX11_bestBuy 1 .int d k z [.ref b] w post Wf px Wx) (hpe : List.Perm ((o, .inl (G.2.2.1 4, 1, .inr (.inl f))) :: wA) w) (q0 : Nat) (he : w[q0]? = some (b, .inr (12, fs))) (hpn : ∀ u, List.Perm (Wf u) ((o, .inl (G.2.2.1 4, 1, .inr (.inl f))) :: WfA u)) (hpx : ∀ k1, px k1 → (k1 = 5) ∧ List.Perm (Wx k1) ((o, .inl (G.2.2.1 4, 1, .inr (.inl f))) :: WxA k1)) : HI l G yL_bestBuy cL_bestBuy 3 [(0, 8, 11, 45)] (d + 1) k z [.ref b, .ref o] ((o, .inl (G.2.2.1 4, 1, .inr (.inl f))) :: wA) (fun c1 (t : (Int32 × S) ⊕ Nat) => match t with | .inl (r, u) => c1 = 0 ∧ post r u | .inr k1 => c1 = (if k1 = 5 then 1 else 0) ∧ px k1) (fun t => match t with | .inl (r, u) => (o, .inl (G.2.2.1 4, 1, .inr (.inl (vp_updL f 0 r.toInt64)))) :: WfA u | .inr k1 => (o, .inl (G.2.2.1 4, 1, .inr (.inl f))) :: WxA k1) := by
  refine mh_of hF (by decide) (Nat.le_of_ble_eq_true rfl) ?_
  intro p e s m below meth c C htab ls hl H locs hw
  have hl : lv_has ls 3 [(0, .ref b), (1, .ref o)] := hl
  obtain ⟨bb, hb, -⟩ := id C.2.2.2.2.2.2.2.2.2.2.2.2
  refine lv_aload_n C.1 C.2.1 dL_bestBuy_0 rfl (lv_at hl 1 rfl) ?_
  refine lv_iconst (v := 0) C.1 C.2.1 dL_bestBuy_1 (by decide) ?_
  refine lv_aload_n C.1 C.2.1 dL_bestBuy_2 rfl (lv_at hl 0 rfl) ?_
  refine y_vi C (hw.perm hpe) hM ml_L_91 yf_X11_bestBuy q0 he rfl (As := []) rfl rfl ⟨Nat.le_refl _, by show 8 + (1 + 11) + 64 * d ≤ 64 * (d + 1); omega⟩ ⟨Nat.le_of_eq (Nat.zero_add _), Nat.le_of_eq (Nat.zero_add _)⟩ hl.1 (Nat.le_of_ble_eq_true rfl) dL_bestBuy_3 (fun k1 q ce H locs hp hw hc1 hc2 hc3 => ?_) (fun r u H locs hp hw => ?_)
  · obtain ⟨hk, hpm⟩ := hpx k1 hp
    replace hw := hw.perm hpm
    subst hk
    refine vx_catch (own := RL) (name := "java/util/NoSuchElementException") (E := "java/util/NoSuchElementException") C.2.2.2.2.1 (tableOf []) { startPc := 0, endPc := 8, handlerPc := 11, catchType := 45 } (tableOf []) htab (fun z hz => nomatch hz) (by decide) (by decide) (C.2.2.2.2.2.1 _ cl_L_45) (fw_mv C rfl rfl (hb _ (tb4 _ (List.mem_of_getElem? (i := 216) rfl)))) hc1 hc2 hc3 ?_
    refine lv_astore_n (lv' := [(2, .ref q), (0, .ref b), (1, .ref o)]) C.1 C.2.1 dL_bestBuy_11 rfl hl (by decide) rfl (fun ls hl => ?_)
    refine lv_iconst (v := 1) C.1 C.2.1 dL_bestBuy_12 (by decide) ?_
    exact r_iret C hw rfl rfl (Sum.inr 5) ⟨rfl, hp⟩ rfl (Nat.le_of_eq (Nat.zero_add _)) (Nat.le_of_eq (Nat.zero_add _)) dL_bestBuy_13
  · replace hw := hw.perm (hpn u)
    refine lv_i2l (v := r.toInt64) C.1 C.2.1 dL_bestBuy_6 rfl ?_
    refine r_last C hw 0 rfl (n := 1) (i := 0) (x := r.toInt64) (show ¬ ((0 : Int32) < 0 ∨ 1 ≤ (0 : Int32).toNatClampNeg) by decide) (w' := (o, .inl (G.2.2.1 4, 1, .inr (.inl (vp_updL f 0 r.toInt64)))) :: WfA u) rfl dL_bestBuy_7 (fun H locs hw => ?_)
    refine lv_goto (tgt := 14) C.1 C.2.1 dL_bestBuy_8 (by decide) ?_
    refine lv_iconst (v := 0) C.1 C.2.1 dL_bestBuy_14 (by decide) ?_
    exact r_iret C hw rfl rfl (Sum.inl (r, u)) ⟨rfl, hp⟩ rfl (Nat.le_of_eq (Nat.zero_add _)) (Nat.le_of_eq (Nat.zero_add _)) dL_bestBuy_15
set_option maxHeartbeats 4000000 in
set_option maxRecDepth 100000 in
theorem w_bestSell {l : Launch} {G : Gx} (hF : SF l G) {S : Type} {d k z : Nat} {post : Int32 → S → Prop} {Wf : S → va_W} {px : Nat → Prop} {Wx : Nat → va_W} {b o : Nat} {fs : List Value} {f : Nat → Int64} {wA w : va_W} {WfA : S → va_W} {WxA : Nat → va_W} (hM : XI l G yX11_bestSell cX11_bestSell 1 .int d k z [.ref b] w post Wf px Wx) (hpe : List.Perm ((o, .inl (G.2.2.1 4, 1, .inr (.inl f))) :: wA) w) (q0 : Nat) (he : w[q0]? = some (b, .inr (12, fs))) (hpn : ∀ u, List.Perm (Wf u) ((o, .inl (G.2.2.1 4, 1, .inr (.inl f))) :: WfA u)) (hpx : ∀ k1, px k1 → (k1 = 5) ∧ List.Perm (Wx k1) ((o, .inl (G.2.2.1 4, 1, .inr (.inl f))) :: WxA k1)) : HI l G yL_bestSell cL_bestSell 3 [(0, 8, 11, 45)] (d + 1) k z [.ref b, .ref o] ((o, .inl (G.2.2.1 4, 1, .inr (.inl f))) :: wA) (fun c1 (t : (Int32 × S) ⊕ Nat) => match t with | .inl (r, u) => c1 = 0 ∧ post r u | .inr k1 => c1 = (if k1 = 5 then 1 else 0) ∧ px k1) (fun t => match t with | .inl (r, u) => (o, .inl (G.2.2.1 4, 1, .inr (.inl (vp_updL f 0 r.toInt64)))) :: WfA u | .inr k1 => (o, .inl (G.2.2.1 4, 1, .inr (.inl f))) :: WxA k1) := by
  refine mh_of hF (by decide) (Nat.le_of_ble_eq_true rfl) ?_
  intro p e s m below meth c C htab ls hl H locs hw
  have hl : lv_has ls 3 [(0, .ref b), (1, .ref o)] := hl
  obtain ⟨bb, hb, -⟩ := id C.2.2.2.2.2.2.2.2.2.2.2.2
  refine lv_aload_n C.1 C.2.1 dL_bestSell_0 rfl (lv_at hl 1 rfl) ?_
  refine lv_iconst (v := 0) C.1 C.2.1 dL_bestSell_1 (by decide) ?_
  refine lv_aload_n C.1 C.2.1 dL_bestSell_2 rfl (lv_at hl 0 rfl) ?_
  refine y_vi C (hw.perm hpe) hM ml_L_94 yf_X11_bestSell q0 he rfl (As := []) rfl rfl ⟨Nat.le_refl _, by show 8 + (1 + 11) + 64 * d ≤ 64 * (d + 1); omega⟩ ⟨Nat.le_of_eq (Nat.zero_add _), Nat.le_of_eq (Nat.zero_add _)⟩ hl.1 (Nat.le_of_ble_eq_true rfl) dL_bestSell_3 (fun k1 q ce H locs hp hw hc1 hc2 hc3 => ?_) (fun r u H locs hp hw => ?_)
  · obtain ⟨hk, hpm⟩ := hpx k1 hp
    replace hw := hw.perm hpm
    subst hk
    refine vx_catch (own := RL) (name := "java/util/NoSuchElementException") (E := "java/util/NoSuchElementException") C.2.2.2.2.1 (tableOf []) { startPc := 0, endPc := 8, handlerPc := 11, catchType := 45 } (tableOf []) htab (fun z hz => nomatch hz) (by decide) (by decide) (C.2.2.2.2.2.1 _ cl_L_45) (fw_mv C rfl rfl (hb _ (tb4 _ (List.mem_of_getElem? (i := 216) rfl)))) hc1 hc2 hc3 ?_
    refine lv_astore_n (lv' := [(2, .ref q), (0, .ref b), (1, .ref o)]) C.1 C.2.1 dL_bestSell_11 rfl hl (by decide) rfl (fun ls hl => ?_)
    refine lv_iconst (v := 1) C.1 C.2.1 dL_bestSell_12 (by decide) ?_
    exact r_iret C hw rfl rfl (Sum.inr 5) ⟨rfl, hp⟩ rfl (Nat.le_of_eq (Nat.zero_add _)) (Nat.le_of_eq (Nat.zero_add _)) dL_bestSell_13
  · replace hw := hw.perm (hpn u)
    refine lv_i2l (v := r.toInt64) C.1 C.2.1 dL_bestSell_6 rfl ?_
    refine r_last C hw 0 rfl (n := 1) (i := 0) (x := r.toInt64) (show ¬ ((0 : Int32) < 0 ∨ 1 ≤ (0 : Int32).toNatClampNeg) by decide) (w' := (o, .inl (G.2.2.1 4, 1, .inr (.inl (vp_updL f 0 r.toInt64)))) :: WfA u) rfl dL_bestSell_7 (fun H locs hw => ?_)
    refine lv_goto (tgt := 14) C.1 C.2.1 dL_bestSell_8 (by decide) ?_
    refine lv_iconst (v := 0) C.1 C.2.1 dL_bestSell_14 (by decide) ?_
    exact r_iret C hw rfl rfl (Sum.inl (r, u)) ⟨rfl, hp⟩ rfl (Nat.le_of_eq (Nat.zero_add _)) (Nat.le_of_eq (Nat.zero_add _)) dL_bestSell_15
set_option maxHeartbeats 4000000 in
set_option maxRecDepth 100000 in
theorem w_spread {l : Launch} {G : Gx} (hF : SF l G) {S : Type} {d k z : Nat} {post : Int32 → S → Prop} {Wf : S → va_W} {px : Nat → Prop} {Wx : Nat → va_W} {b o : Nat} {fs : List Value} {f : Nat → Int64} {wA w : va_W} {WfA : S → va_W} {WxA : Nat → va_W} (hM : XI l G yX11_spread cX11_spread 1 .int d k z [.ref b] w post Wf px Wx) (hpe : List.Perm ((o, .inl (G.2.2.1 4, 1, .inr (.inl f))) :: wA) w) (q0 : Nat) (he : w[q0]? = some (b, .inr (12, fs))) (hpn : ∀ u, List.Perm (Wf u) ((o, .inl (G.2.2.1 4, 1, .inr (.inl f))) :: WfA u)) (hpx : ∀ k1, px k1 → (k1 = 5) ∧ List.Perm (Wx k1) ((o, .inl (G.2.2.1 4, 1, .inr (.inl f))) :: WxA k1)) : HI l G yL_spread cL_spread 3 [(0, 8, 11, 45)] (d + 1) k z [.ref b, .ref o] ((o, .inl (G.2.2.1 4, 1, .inr (.inl f))) :: wA) (fun c1 (t : (Int32 × S) ⊕ Nat) => match t with | .inl (r, u) => c1 = 0 ∧ post r u | .inr k1 => c1 = (if k1 = 5 then 1 else 0) ∧ px k1) (fun t => match t with | .inl (r, u) => (o, .inl (G.2.2.1 4, 1, .inr (.inl (vp_updL f 0 r.toInt64)))) :: WfA u | .inr k1 => (o, .inl (G.2.2.1 4, 1, .inr (.inl f))) :: WxA k1) := by
  refine mh_of hF (by decide) (Nat.le_of_ble_eq_true rfl) ?_
  intro p e s m below meth c C htab ls hl H locs hw
  have hl : lv_has ls 3 [(0, .ref b), (1, .ref o)] := hl
  obtain ⟨bb, hb, -⟩ := id C.2.2.2.2.2.2.2.2.2.2.2.2
  refine lv_aload_n C.1 C.2.1 dL_spread_0 rfl (lv_at hl 1 rfl) ?_
  refine lv_iconst (v := 0) C.1 C.2.1 dL_spread_1 (by decide) ?_
  refine lv_aload_n C.1 C.2.1 dL_spread_2 rfl (lv_at hl 0 rfl) ?_
  refine y_vi C (hw.perm hpe) hM ml_L_97 yf_X11_spread q0 he rfl (As := []) rfl rfl ⟨Nat.le_refl _, by show 8 + (1 + 11) + 64 * d ≤ 64 * (d + 1); omega⟩ ⟨Nat.le_of_eq (Nat.zero_add _), Nat.le_of_eq (Nat.zero_add _)⟩ hl.1 (Nat.le_of_ble_eq_true rfl) dL_spread_3 (fun k1 q ce H locs hp hw hc1 hc2 hc3 => ?_) (fun r u H locs hp hw => ?_)
  · obtain ⟨hk, hpm⟩ := hpx k1 hp
    replace hw := hw.perm hpm
    subst hk
    refine vx_catch (own := RL) (name := "java/util/NoSuchElementException") (E := "java/util/NoSuchElementException") C.2.2.2.2.1 (tableOf []) { startPc := 0, endPc := 8, handlerPc := 11, catchType := 45 } (tableOf []) htab (fun z hz => nomatch hz) (by decide) (by decide) (C.2.2.2.2.2.1 _ cl_L_45) (fw_mv C rfl rfl (hb _ (tb4 _ (List.mem_of_getElem? (i := 216) rfl)))) hc1 hc2 hc3 ?_
    refine lv_astore_n (lv' := [(2, .ref q), (0, .ref b), (1, .ref o)]) C.1 C.2.1 dL_spread_11 rfl hl (by decide) rfl (fun ls hl => ?_)
    refine lv_iconst (v := 1) C.1 C.2.1 dL_spread_12 (by decide) ?_
    exact r_iret C hw rfl rfl (Sum.inr 5) ⟨rfl, hp⟩ rfl (Nat.le_of_eq (Nat.zero_add _)) (Nat.le_of_eq (Nat.zero_add _)) dL_spread_13
  · replace hw := hw.perm (hpn u)
    refine lv_i2l (v := r.toInt64) C.1 C.2.1 dL_spread_6 rfl ?_
    refine r_last C hw 0 rfl (n := 1) (i := 0) (x := r.toInt64) (show ¬ ((0 : Int32) < 0 ∨ 1 ≤ (0 : Int32).toNatClampNeg) by decide) (w' := (o, .inl (G.2.2.1 4, 1, .inr (.inl (vp_updL f 0 r.toInt64)))) :: WfA u) rfl dL_spread_7 (fun H locs hw => ?_)
    refine lv_goto (tgt := 14) C.1 C.2.1 dL_spread_8 (by decide) ?_
    refine lv_iconst (v := 0) C.1 C.2.1 dL_spread_14 (by decide) ?_
    exact r_iret C hw rfl rfl (Sum.inl (r, u)) ⟨rfl, hp⟩ rfl (Nat.le_of_eq (Nat.zero_add _)) (Nat.le_of_eq (Nat.zero_add _)) dL_spread_15
set_option maxHeartbeats 4000000 in
set_option maxRecDepth 100000 in
theorem w_spreadBySums {l : Launch} {G : Gx} (hF : SF l G) {S : Type} {d k z : Nat} {post : Int32 → S → Prop} {Wf : S → va_W} {px : Nat → Prop} {Wx : Nat → va_W} {b o : Nat} {fs : List Value} {f : Nat → Int64} {wA w : va_W} {WfA : S → va_W} {WxA : Nat → va_W} (hM : XI l G yX11_spreadBySums cX11_spreadBySums 1 .int d k z [.ref b] w post Wf px Wx) (hpe : List.Perm ((o, .inl (G.2.2.1 4, 1, .inr (.inl f))) :: wA) w) (q0 : Nat) (he : w[q0]? = some (b, .inr (12, fs))) (hpn : ∀ u, List.Perm (Wf u) ((o, .inl (G.2.2.1 4, 1, .inr (.inl f))) :: WfA u)) (hpx : ∀ k1, px k1 → (k1 = 5) ∧ List.Perm (Wx k1) ((o, .inl (G.2.2.1 4, 1, .inr (.inl f))) :: WxA k1)) : HI l G yL_spreadBySums cL_spreadBySums 3 [(0, 8, 11, 45)] (d + 1) k z [.ref b, .ref o] ((o, .inl (G.2.2.1 4, 1, .inr (.inl f))) :: wA) (fun c1 (t : (Int32 × S) ⊕ Nat) => match t with | .inl (r, u) => c1 = 0 ∧ post r u | .inr k1 => c1 = (if k1 = 5 then 1 else 0) ∧ px k1) (fun t => match t with | .inl (r, u) => (o, .inl (G.2.2.1 4, 1, .inr (.inl (vp_updL f 0 r.toInt64)))) :: WfA u | .inr k1 => (o, .inl (G.2.2.1 4, 1, .inr (.inl f))) :: WxA k1) := by
  refine mh_of hF (by decide) (Nat.le_of_ble_eq_true rfl) ?_
  intro p e s m below meth c C htab ls hl H locs hw
  have hl : lv_has ls 3 [(0, .ref b), (1, .ref o)] := hl
  obtain ⟨bb, hb, -⟩ := id C.2.2.2.2.2.2.2.2.2.2.2.2
  refine lv_aload_n C.1 C.2.1 dL_spreadBySums_0 rfl (lv_at hl 1 rfl) ?_
  refine lv_iconst (v := 0) C.1 C.2.1 dL_spreadBySums_1 (by decide) ?_
  refine lv_aload_n C.1 C.2.1 dL_spreadBySums_2 rfl (lv_at hl 0 rfl) ?_
  refine y_vi C (hw.perm hpe) hM ml_L_100 yf_X11_spreadBySums q0 he rfl (As := []) rfl rfl ⟨Nat.le_refl _, by show 8 + (1 + 11) + 64 * d ≤ 64 * (d + 1); omega⟩ ⟨Nat.le_of_eq (Nat.zero_add _), Nat.le_of_eq (Nat.zero_add _)⟩ hl.1 (Nat.le_of_ble_eq_true rfl) dL_spreadBySums_3 (fun k1 q ce H locs hp hw hc1 hc2 hc3 => ?_) (fun r u H locs hp hw => ?_)
  · obtain ⟨hk, hpm⟩ := hpx k1 hp
    replace hw := hw.perm hpm
    subst hk
    refine vx_catch (own := RL) (name := "java/util/NoSuchElementException") (E := "java/util/NoSuchElementException") C.2.2.2.2.1 (tableOf []) { startPc := 0, endPc := 8, handlerPc := 11, catchType := 45 } (tableOf []) htab (fun z hz => nomatch hz) (by decide) (by decide) (C.2.2.2.2.2.1 _ cl_L_45) (fw_mv C rfl rfl (hb _ (tb4 _ (List.mem_of_getElem? (i := 216) rfl)))) hc1 hc2 hc3 ?_
    refine lv_astore_n (lv' := [(2, .ref q), (0, .ref b), (1, .ref o)]) C.1 C.2.1 dL_spreadBySums_11 rfl hl (by decide) rfl (fun ls hl => ?_)
    refine lv_iconst (v := 1) C.1 C.2.1 dL_spreadBySums_12 (by decide) ?_
    exact r_iret C hw rfl rfl (Sum.inr 5) ⟨rfl, hp⟩ rfl (Nat.le_of_eq (Nat.zero_add _)) (Nat.le_of_eq (Nat.zero_add _)) dL_spreadBySums_13
  · replace hw := hw.perm (hpn u)
    refine lv_i2l (v := r.toInt64) C.1 C.2.1 dL_spreadBySums_6 rfl ?_
    refine r_last C hw 0 rfl (n := 1) (i := 0) (x := r.toInt64) (show ¬ ((0 : Int32) < 0 ∨ 1 ≤ (0 : Int32).toNatClampNeg) by decide) (w' := (o, .inl (G.2.2.1 4, 1, .inr (.inl (vp_updL f 0 r.toInt64)))) :: WfA u) rfl dL_spreadBySums_7 (fun H locs hw => ?_)
    refine lv_goto (tgt := 14) C.1 C.2.1 dL_spreadBySums_8 (by decide) ?_
    refine lv_iconst (v := 0) C.1 C.2.1 dL_spreadBySums_14 (by decide) ?_
    exact r_iret C hw rfl rfl (Sum.inl (r, u)) ⟨rfl, hp⟩ rfl (Nat.le_of_eq (Nat.zero_add _)) (Nat.le_of_eq (Nat.zero_add _)) dL_spreadBySums_15
set_option maxHeartbeats 4000000 in
set_option maxRecDepth 100000 in
theorem w_buyingAt {l : Launch} {G : Gx} (hF : SF l G) {S : Type} {d k z : Nat} {post : Int32 → S → Prop} {Wf : S → va_W} {px : Nat → Prop} {Wx : Nat → va_W} {b o : Nat} {fs : List Value} {f : Nat → Int64} {wA w : va_W} {WfA : S → va_W} {WxA : Nat → va_W} {x0 : Int32} (hM : XI l G yX11_buyingAt cX11_buyingAt 2 .int d k z [.ref b, .int x0] w post Wf px Wx) (hpe : List.Perm ((o, .inl (G.2.2.1 4, 1, .inr (.inl f))) :: wA) w) (q0 : Nat) (he : w[q0]? = some (b, .inr (12, fs))) (hpn : ∀ u, List.Perm (Wf u) ((o, .inl (G.2.2.1 4, 1, .inr (.inl f))) :: WfA u)) (hpx : ∀ k1, px k1 → (k1 = 2) ∧ List.Perm (Wx k1) ((o, .inl (G.2.2.1 4, 1, .inr (.inl f))) :: WxA k1)) : HI l G yL_buyingAt cL_buyingAt 4 [(0, 9, 12, 13)] (d + 1) k z [.ref b, .int x0, .ref o] ((o, .inl (G.2.2.1 4, 1, .inr (.inl f))) :: wA) (fun c1 (t : (Int32 × S) ⊕ Nat) => match t with | .inl (r, u) => c1 = 0 ∧ post r u | .inr k1 => c1 = (if k1 = 2 then 1 else 0) ∧ px k1) (fun t => match t with | .inl (r, u) => (o, .inl (G.2.2.1 4, 1, .inr (.inl (vp_updL f 0 r.toInt64)))) :: WfA u | .inr k1 => (o, .inl (G.2.2.1 4, 1, .inr (.inl f))) :: WxA k1) := by
  refine mh_of hF (by decide) (Nat.le_of_ble_eq_true rfl) ?_
  intro p e s m below meth c C htab ls hl H locs hw
  have hl : lv_has ls 4 [(0, .ref b), (1, .int x0), (2, .ref o)] := hl
  obtain ⟨bb, hb, -⟩ := id C.2.2.2.2.2.2.2.2.2.2.2.2
  refine lv_aload_n C.1 C.2.1 dL_buyingAt_0 rfl (lv_at hl 2 rfl) ?_
  refine lv_iconst (v := 0) C.1 C.2.1 dL_buyingAt_1 (by decide) ?_
  refine lv_aload_n C.1 C.2.1 dL_buyingAt_2 rfl (lv_at hl 0 rfl) ?_
  refine lv_iload_n C.1 C.2.1 dL_buyingAt_3 rfl (lv_at hl 1 rfl) ?_
  refine y_vi C (hw.perm hpe) hM ml_L_103 yf_X11_buyingAt q0 he rfl (As := [.int x0]) rfl rfl ⟨Nat.le_refl _, by show 8 + (2 + 11) + 64 * d ≤ 64 * (d + 1); omega⟩ ⟨Nat.le_of_eq (Nat.zero_add _), Nat.le_of_eq (Nat.zero_add _)⟩ hl.1 (Nat.le_of_ble_eq_true rfl) dL_buyingAt_4 (fun k1 q ce H locs hp hw hc1 hc2 hc3 => ?_) (fun r u H locs hp hw => ?_)
  · obtain ⟨hk, hpm⟩ := hpx k1 hp
    replace hw := hw.perm hpm
    subst hk
    refine vx_catch (own := RL) (name := "java/lang/IllegalArgumentException") (E := "java/lang/IllegalArgumentException") C.2.2.2.2.1 (tableOf []) { startPc := 0, endPc := 9, handlerPc := 12, catchType := 13 } (tableOf []) htab (fun z hz => nomatch hz) (by decide) (by decide) (C.2.2.2.2.2.1 _ cl_L_13) (fw_mv C rfl rfl (hb _ (tb3 _ (List.mem_of_getElem? (i := 55) rfl)))) hc1 hc2 hc3 ?_
    refine lv_astore_n (lv' := [(3, .ref q), (0, .ref b), (1, .int x0), (2, .ref o)]) C.1 C.2.1 dL_buyingAt_12 rfl hl (by decide) rfl (fun ls hl => ?_)
    refine lv_iconst (v := 1) C.1 C.2.1 dL_buyingAt_13 (by decide) ?_
    exact r_iret C hw rfl rfl (Sum.inr 2) ⟨rfl, hp⟩ rfl (Nat.le_of_eq (Nat.zero_add _)) (Nat.le_of_eq (Nat.zero_add _)) dL_buyingAt_14
  · replace hw := hw.perm (hpn u)
    refine lv_i2l (v := r.toInt64) C.1 C.2.1 dL_buyingAt_7 rfl ?_
    refine r_last C hw 0 rfl (n := 1) (i := 0) (x := r.toInt64) (show ¬ ((0 : Int32) < 0 ∨ 1 ≤ (0 : Int32).toNatClampNeg) by decide) (w' := (o, .inl (G.2.2.1 4, 1, .inr (.inl (vp_updL f 0 r.toInt64)))) :: WfA u) rfl dL_buyingAt_8 (fun H locs hw => ?_)
    refine lv_goto (tgt := 15) C.1 C.2.1 dL_buyingAt_9 (by decide) ?_
    refine lv_iconst (v := 0) C.1 C.2.1 dL_buyingAt_15 (by decide) ?_
    exact r_iret C hw rfl rfl (Sum.inl (r, u)) ⟨rfl, hp⟩ rfl (Nat.le_of_eq (Nat.zero_add _)) (Nat.le_of_eq (Nat.zero_add _)) dL_buyingAt_16
set_option maxHeartbeats 4000000 in
set_option maxRecDepth 100000 in
theorem w_sellingAt {l : Launch} {G : Gx} (hF : SF l G) {S : Type} {d k z : Nat} {post : Int32 → S → Prop} {Wf : S → va_W} {px : Nat → Prop} {Wx : Nat → va_W} {b o : Nat} {fs : List Value} {f : Nat → Int64} {wA w : va_W} {WfA : S → va_W} {WxA : Nat → va_W} {x0 : Int32} (hM : XI l G yX11_sellingAt cX11_sellingAt 2 .int d k z [.ref b, .int x0] w post Wf px Wx) (hpe : List.Perm ((o, .inl (G.2.2.1 4, 1, .inr (.inl f))) :: wA) w) (q0 : Nat) (he : w[q0]? = some (b, .inr (12, fs))) (hpn : ∀ u, List.Perm (Wf u) ((o, .inl (G.2.2.1 4, 1, .inr (.inl f))) :: WfA u)) (hpx : ∀ k1, px k1 → (k1 = 2) ∧ List.Perm (Wx k1) ((o, .inl (G.2.2.1 4, 1, .inr (.inl f))) :: WxA k1)) : HI l G yL_sellingAt cL_sellingAt 4 [(0, 9, 12, 13)] (d + 1) k z [.ref b, .int x0, .ref o] ((o, .inl (G.2.2.1 4, 1, .inr (.inl f))) :: wA) (fun c1 (t : (Int32 × S) ⊕ Nat) => match t with | .inl (r, u) => c1 = 0 ∧ post r u | .inr k1 => c1 = (if k1 = 2 then 1 else 0) ∧ px k1) (fun t => match t with | .inl (r, u) => (o, .inl (G.2.2.1 4, 1, .inr (.inl (vp_updL f 0 r.toInt64)))) :: WfA u | .inr k1 => (o, .inl (G.2.2.1 4, 1, .inr (.inl f))) :: WxA k1) := by
  refine mh_of hF (by decide) (Nat.le_of_ble_eq_true rfl) ?_
  intro p e s m below meth c C htab ls hl H locs hw
  have hl : lv_has ls 4 [(0, .ref b), (1, .int x0), (2, .ref o)] := hl
  obtain ⟨bb, hb, -⟩ := id C.2.2.2.2.2.2.2.2.2.2.2.2
  refine lv_aload_n C.1 C.2.1 dL_sellingAt_0 rfl (lv_at hl 2 rfl) ?_
  refine lv_iconst (v := 0) C.1 C.2.1 dL_sellingAt_1 (by decide) ?_
  refine lv_aload_n C.1 C.2.1 dL_sellingAt_2 rfl (lv_at hl 0 rfl) ?_
  refine lv_iload_n C.1 C.2.1 dL_sellingAt_3 rfl (lv_at hl 1 rfl) ?_
  refine y_vi C (hw.perm hpe) hM ml_L_106 yf_X11_sellingAt q0 he rfl (As := [.int x0]) rfl rfl ⟨Nat.le_refl _, by show 8 + (2 + 11) + 64 * d ≤ 64 * (d + 1); omega⟩ ⟨Nat.le_of_eq (Nat.zero_add _), Nat.le_of_eq (Nat.zero_add _)⟩ hl.1 (Nat.le_of_ble_eq_true rfl) dL_sellingAt_4 (fun k1 q ce H locs hp hw hc1 hc2 hc3 => ?_) (fun r u H locs hp hw => ?_)
  · obtain ⟨hk, hpm⟩ := hpx k1 hp
    replace hw := hw.perm hpm
    subst hk
    refine vx_catch (own := RL) (name := "java/lang/IllegalArgumentException") (E := "java/lang/IllegalArgumentException") C.2.2.2.2.1 (tableOf []) { startPc := 0, endPc := 9, handlerPc := 12, catchType := 13 } (tableOf []) htab (fun z hz => nomatch hz) (by decide) (by decide) (C.2.2.2.2.2.1 _ cl_L_13) (fw_mv C rfl rfl (hb _ (tb3 _ (List.mem_of_getElem? (i := 55) rfl)))) hc1 hc2 hc3 ?_
    refine lv_astore_n (lv' := [(3, .ref q), (0, .ref b), (1, .int x0), (2, .ref o)]) C.1 C.2.1 dL_sellingAt_12 rfl hl (by decide) rfl (fun ls hl => ?_)
    refine lv_iconst (v := 1) C.1 C.2.1 dL_sellingAt_13 (by decide) ?_
    exact r_iret C hw rfl rfl (Sum.inr 2) ⟨rfl, hp⟩ rfl (Nat.le_of_eq (Nat.zero_add _)) (Nat.le_of_eq (Nat.zero_add _)) dL_sellingAt_14
  · replace hw := hw.perm (hpn u)
    refine lv_i2l (v := r.toInt64) C.1 C.2.1 dL_sellingAt_7 rfl ?_
    refine r_last C hw 0 rfl (n := 1) (i := 0) (x := r.toInt64) (show ¬ ((0 : Int32) < 0 ∨ 1 ≤ (0 : Int32).toNatClampNeg) by decide) (w' := (o, .inl (G.2.2.1 4, 1, .inr (.inl (vp_updL f 0 r.toInt64)))) :: WfA u) rfl dL_sellingAt_8 (fun H locs hw => ?_)
    refine lv_goto (tgt := 15) C.1 C.2.1 dL_sellingAt_9 (by decide) ?_
    refine lv_iconst (v := 0) C.1 C.2.1 dL_sellingAt_15 (by decide) ?_
    exact r_iret C hw rfl rfl (Sum.inl (r, u)) ⟨rfl, hp⟩ rfl (Nat.le_of_eq (Nat.zero_add _)) (Nat.le_of_eq (Nat.zero_add _)) dL_sellingAt_16
set_option maxHeartbeats 4000000 in
set_option maxRecDepth 100000 in
theorem w_lastPrice {l : Launch} {G : Gx} (hF : SF l G) {S : Type} {d k z : Nat} {post : Int32 → S → Prop} {Wf : S → va_W} {px : Nat → Prop} {Wx : Nat → va_W} {b o : Nat} {fs : List Value} {f : Nat → Int64} {wA w : va_W} {WfA : S → va_W} {WxA : Nat → va_W} (hM : XI l G yX11_lastPrice cX11_lastPrice 1 .int d k z [.ref b] w post Wf px Wx) (hpe : List.Perm ((o, .inl (G.2.2.1 4, 1, .inr (.inl f))) :: wA) w) (q0 : Nat) (he : w[q0]? = some (b, .inr (12, fs))) (hpn : ∀ u, List.Perm (Wf u) ((o, .inl (G.2.2.1 4, 1, .inr (.inl f))) :: WfA u)) (hpx : ∀ k1, px k1 → (k1 = 5) ∧ List.Perm (Wx k1) ((o, .inl (G.2.2.1 4, 1, .inr (.inl f))) :: WxA k1)) : HI l G yL_lastPrice cL_lastPrice 3 [(0, 8, 11, 45)] (d + 1) k z [.ref b, .ref o] ((o, .inl (G.2.2.1 4, 1, .inr (.inl f))) :: wA) (fun c1 (t : (Int32 × S) ⊕ Nat) => match t with | .inl (r, u) => c1 = 0 ∧ post r u | .inr k1 => c1 = (if k1 = 5 then 1 else 0) ∧ px k1) (fun t => match t with | .inl (r, u) => (o, .inl (G.2.2.1 4, 1, .inr (.inl (vp_updL f 0 r.toInt64)))) :: WfA u | .inr k1 => (o, .inl (G.2.2.1 4, 1, .inr (.inl f))) :: WxA k1) := by
  refine mh_of hF (by decide) (Nat.le_of_ble_eq_true rfl) ?_
  intro p e s m below meth c C htab ls hl H locs hw
  have hl : lv_has ls 3 [(0, .ref b), (1, .ref o)] := hl
  obtain ⟨bb, hb, -⟩ := id C.2.2.2.2.2.2.2.2.2.2.2.2
  refine lv_aload_n C.1 C.2.1 dL_lastPrice_0 rfl (lv_at hl 1 rfl) ?_
  refine lv_iconst (v := 0) C.1 C.2.1 dL_lastPrice_1 (by decide) ?_
  refine lv_aload_n C.1 C.2.1 dL_lastPrice_2 rfl (lv_at hl 0 rfl) ?_
  refine y_vi C (hw.perm hpe) hM ml_L_109 yf_X11_lastPrice q0 he rfl (As := []) rfl rfl ⟨Nat.le_refl _, by show 8 + (1 + 11) + 64 * d ≤ 64 * (d + 1); omega⟩ ⟨Nat.le_of_eq (Nat.zero_add _), Nat.le_of_eq (Nat.zero_add _)⟩ hl.1 (Nat.le_of_ble_eq_true rfl) dL_lastPrice_3 (fun k1 q ce H locs hp hw hc1 hc2 hc3 => ?_) (fun r u H locs hp hw => ?_)
  · obtain ⟨hk, hpm⟩ := hpx k1 hp
    replace hw := hw.perm hpm
    subst hk
    refine vx_catch (own := RL) (name := "java/util/NoSuchElementException") (E := "java/util/NoSuchElementException") C.2.2.2.2.1 (tableOf []) { startPc := 0, endPc := 8, handlerPc := 11, catchType := 45 } (tableOf []) htab (fun z hz => nomatch hz) (by decide) (by decide) (C.2.2.2.2.2.1 _ cl_L_45) (fw_mv C rfl rfl (hb _ (tb4 _ (List.mem_of_getElem? (i := 216) rfl)))) hc1 hc2 hc3 ?_
    refine lv_astore_n (lv' := [(2, .ref q), (0, .ref b), (1, .ref o)]) C.1 C.2.1 dL_lastPrice_11 rfl hl (by decide) rfl (fun ls hl => ?_)
    refine lv_iconst (v := 1) C.1 C.2.1 dL_lastPrice_12 (by decide) ?_
    exact r_iret C hw rfl rfl (Sum.inr 5) ⟨rfl, hp⟩ rfl (Nat.le_of_eq (Nat.zero_add _)) (Nat.le_of_eq (Nat.zero_add _)) dL_lastPrice_13
  · replace hw := hw.perm (hpn u)
    refine lv_i2l (v := r.toInt64) C.1 C.2.1 dL_lastPrice_6 rfl ?_
    refine r_last C hw 0 rfl (n := 1) (i := 0) (x := r.toInt64) (show ¬ ((0 : Int32) < 0 ∨ 1 ≤ (0 : Int32).toNatClampNeg) by decide) (w' := (o, .inl (G.2.2.1 4, 1, .inr (.inl (vp_updL f 0 r.toInt64)))) :: WfA u) rfl dL_lastPrice_7 (fun H locs hw => ?_)
    refine lv_goto (tgt := 14) C.1 C.2.1 dL_lastPrice_8 (by decide) ?_
    refine lv_iconst (v := 0) C.1 C.2.1 dL_lastPrice_14 (by decide) ?_
    exact r_iret C hw rfl rfl (Sum.inl (r, u)) ⟨rfl, hp⟩ rfl (Nat.le_of_eq (Nat.zero_add _)) (Nat.le_of_eq (Nat.zero_add _)) dL_lastPrice_15
set_option maxHeartbeats 4000000 in
set_option maxRecDepth 100000 in
theorem w_poolPrice {l : Launch} {G : Gx} (hF : SF l G) {S : Type} {d k z : Nat} {post : Int32 → S → Prop} {Wf : S → va_W} {px : Nat → Prop} {Wx : Nat → va_W} {b o : Nat} {fs : List Value} {f : Nat → Int64} {wA w : va_W} {WfA : S → va_W} {WxA : Nat → va_W} (hM : XI l G yX11_poolPrice cX11_poolPrice 1 .int d k z [.ref b] w post Wf px Wx) (hpe : List.Perm ((o, .inl (G.2.2.1 4, 1, .inr (.inl f))) :: wA) w) (q0 : Nat) (he : w[q0]? = some (b, .inr (12, fs))) (hpn : ∀ u, List.Perm (Wf u) ((o, .inl (G.2.2.1 4, 1, .inr (.inl f))) :: WfA u)) (hpx : ∀ k1, px k1 → (k1 = 5) ∧ List.Perm (Wx k1) ((o, .inl (G.2.2.1 4, 1, .inr (.inl f))) :: WxA k1)) : HI l G yL_poolPrice cL_poolPrice 3 [(0, 8, 11, 45)] (d + 1) k z [.ref b, .ref o] ((o, .inl (G.2.2.1 4, 1, .inr (.inl f))) :: wA) (fun c1 (t : (Int32 × S) ⊕ Nat) => match t with | .inl (r, u) => c1 = 0 ∧ post r u | .inr k1 => c1 = (if k1 = 5 then 1 else 0) ∧ px k1) (fun t => match t with | .inl (r, u) => (o, .inl (G.2.2.1 4, 1, .inr (.inl (vp_updL f 0 r.toInt64)))) :: WfA u | .inr k1 => (o, .inl (G.2.2.1 4, 1, .inr (.inl f))) :: WxA k1) := by
  refine mh_of hF (by decide) (Nat.le_of_ble_eq_true rfl) ?_
  intro p e s m below meth c C htab ls hl H locs hw
  have hl : lv_has ls 3 [(0, .ref b), (1, .ref o)] := hl
  obtain ⟨bb, hb, -⟩ := id C.2.2.2.2.2.2.2.2.2.2.2.2
  refine lv_aload_n C.1 C.2.1 dL_poolPrice_0 rfl (lv_at hl 1 rfl) ?_
  refine lv_iconst (v := 0) C.1 C.2.1 dL_poolPrice_1 (by decide) ?_
  refine lv_aload_n C.1 C.2.1 dL_poolPrice_2 rfl (lv_at hl 0 rfl) ?_
  refine y_vi C (hw.perm hpe) hM ml_L_122 yf_X11_poolPrice q0 he rfl (As := []) rfl rfl ⟨Nat.le_refl _, by show 8 + (1 + 11) + 64 * d ≤ 64 * (d + 1); omega⟩ ⟨Nat.le_of_eq (Nat.zero_add _), Nat.le_of_eq (Nat.zero_add _)⟩ hl.1 (Nat.le_of_ble_eq_true rfl) dL_poolPrice_3 (fun k1 q ce H locs hp hw hc1 hc2 hc3 => ?_) (fun r u H locs hp hw => ?_)
  · obtain ⟨hk, hpm⟩ := hpx k1 hp
    replace hw := hw.perm hpm
    subst hk
    refine vx_catch (own := RL) (name := "java/util/NoSuchElementException") (E := "java/util/NoSuchElementException") C.2.2.2.2.1 (tableOf []) { startPc := 0, endPc := 8, handlerPc := 11, catchType := 45 } (tableOf []) htab (fun z hz => nomatch hz) (by decide) (by decide) (C.2.2.2.2.2.1 _ cl_L_45) (fw_mv C rfl rfl (hb _ (tb4 _ (List.mem_of_getElem? (i := 216) rfl)))) hc1 hc2 hc3 ?_
    refine lv_astore_n (lv' := [(2, .ref q), (0, .ref b), (1, .ref o)]) C.1 C.2.1 dL_poolPrice_11 rfl hl (by decide) rfl (fun ls hl => ?_)
    refine lv_iconst (v := 1) C.1 C.2.1 dL_poolPrice_12 (by decide) ?_
    exact r_iret C hw rfl rfl (Sum.inr 5) ⟨rfl, hp⟩ rfl (Nat.le_of_eq (Nat.zero_add _)) (Nat.le_of_eq (Nat.zero_add _)) dL_poolPrice_13
  · replace hw := hw.perm (hpn u)
    refine lv_i2l (v := r.toInt64) C.1 C.2.1 dL_poolPrice_6 rfl ?_
    refine r_last C hw 0 rfl (n := 1) (i := 0) (x := r.toInt64) (show ¬ ((0 : Int32) < 0 ∨ 1 ≤ (0 : Int32).toNatClampNeg) by decide) (w' := (o, .inl (G.2.2.1 4, 1, .inr (.inl (vp_updL f 0 r.toInt64)))) :: WfA u) rfl dL_poolPrice_7 (fun H locs hw => ?_)
    refine lv_goto (tgt := 14) C.1 C.2.1 dL_poolPrice_8 (by decide) ?_
    refine lv_iconst (v := 0) C.1 C.2.1 dL_poolPrice_14 (by decide) ?_
    exact r_iret C hw rfl rfl (Sum.inl (r, u)) ⟨rfl, hp⟩ rfl (Nat.le_of_eq (Nat.zero_add _)) (Nat.le_of_eq (Nat.zero_add _)) dL_poolPrice_15
set_option maxHeartbeats 4000000 in
set_option maxRecDepth 100000 in
theorem w_poolPriceBySums {l : Launch} {G : Gx} (hF : SF l G) {S : Type} {d k z : Nat} {post : Int32 → S → Prop} {Wf : S → va_W} {px : Nat → Prop} {Wx : Nat → va_W} {b o : Nat} {fs : List Value} {f : Nat → Int64} {wA w : va_W} {WfA : S → va_W} {WxA : Nat → va_W} (hM : XI l G yX11_poolPriceBySums cX11_poolPriceBySums 1 .int d k z [.ref b] w post Wf px Wx) (hpe : List.Perm ((o, .inl (G.2.2.1 4, 1, .inr (.inl f))) :: wA) w) (q0 : Nat) (he : w[q0]? = some (b, .inr (12, fs))) (hpn : ∀ u, List.Perm (Wf u) ((o, .inl (G.2.2.1 4, 1, .inr (.inl f))) :: WfA u)) (hpx : ∀ k1, px k1 → (k1 = 5) ∧ List.Perm (Wx k1) ((o, .inl (G.2.2.1 4, 1, .inr (.inl f))) :: WxA k1)) : HI l G yL_poolPriceBySums cL_poolPriceBySums 3 [(0, 8, 11, 45)] (d + 1) k z [.ref b, .ref o] ((o, .inl (G.2.2.1 4, 1, .inr (.inl f))) :: wA) (fun c1 (t : (Int32 × S) ⊕ Nat) => match t with | .inl (r, u) => c1 = 0 ∧ post r u | .inr k1 => c1 = (if k1 = 5 then 1 else 0) ∧ px k1) (fun t => match t with | .inl (r, u) => (o, .inl (G.2.2.1 4, 1, .inr (.inl (vp_updL f 0 r.toInt64)))) :: WfA u | .inr k1 => (o, .inl (G.2.2.1 4, 1, .inr (.inl f))) :: WxA k1) := by
  refine mh_of hF (by decide) (Nat.le_of_ble_eq_true rfl) ?_
  intro p e s m below meth c C htab ls hl H locs hw
  have hl : lv_has ls 3 [(0, .ref b), (1, .ref o)] := hl
  obtain ⟨bb, hb, -⟩ := id C.2.2.2.2.2.2.2.2.2.2.2.2
  refine lv_aload_n C.1 C.2.1 dL_poolPriceBySums_0 rfl (lv_at hl 1 rfl) ?_
  refine lv_iconst (v := 0) C.1 C.2.1 dL_poolPriceBySums_1 (by decide) ?_
  refine lv_aload_n C.1 C.2.1 dL_poolPriceBySums_2 rfl (lv_at hl 0 rfl) ?_
  refine y_vi C (hw.perm hpe) hM ml_L_125 yf_X11_poolPriceBySums q0 he rfl (As := []) rfl rfl ⟨Nat.le_refl _, by show 8 + (1 + 11) + 64 * d ≤ 64 * (d + 1); omega⟩ ⟨Nat.le_of_eq (Nat.zero_add _), Nat.le_of_eq (Nat.zero_add _)⟩ hl.1 (Nat.le_of_ble_eq_true rfl) dL_poolPriceBySums_3 (fun k1 q ce H locs hp hw hc1 hc2 hc3 => ?_) (fun r u H locs hp hw => ?_)
  · obtain ⟨hk, hpm⟩ := hpx k1 hp
    replace hw := hw.perm hpm
    subst hk
    refine vx_catch (own := RL) (name := "java/util/NoSuchElementException") (E := "java/util/NoSuchElementException") C.2.2.2.2.1 (tableOf []) { startPc := 0, endPc := 8, handlerPc := 11, catchType := 45 } (tableOf []) htab (fun z hz => nomatch hz) (by decide) (by decide) (C.2.2.2.2.2.1 _ cl_L_45) (fw_mv C rfl rfl (hb _ (tb4 _ (List.mem_of_getElem? (i := 216) rfl)))) hc1 hc2 hc3 ?_
    refine lv_astore_n (lv' := [(2, .ref q), (0, .ref b), (1, .ref o)]) C.1 C.2.1 dL_poolPriceBySums_11 rfl hl (by decide) rfl (fun ls hl => ?_)
    refine lv_iconst (v := 1) C.1 C.2.1 dL_poolPriceBySums_12 (by decide) ?_
    exact r_iret C hw rfl rfl (Sum.inr 5) ⟨rfl, hp⟩ rfl (Nat.le_of_eq (Nat.zero_add _)) (Nat.le_of_eq (Nat.zero_add _)) dL_poolPriceBySums_13
  · replace hw := hw.perm (hpn u)
    refine lv_i2l (v := r.toInt64) C.1 C.2.1 dL_poolPriceBySums_6 rfl ?_
    refine r_last C hw 0 rfl (n := 1) (i := 0) (x := r.toInt64) (show ¬ ((0 : Int32) < 0 ∨ 1 ≤ (0 : Int32).toNatClampNeg) by decide) (w' := (o, .inl (G.2.2.1 4, 1, .inr (.inl (vp_updL f 0 r.toInt64)))) :: WfA u) rfl dL_poolPriceBySums_7 (fun H locs hw => ?_)
    refine lv_goto (tgt := 14) C.1 C.2.1 dL_poolPriceBySums_8 (by decide) ?_
    refine lv_iconst (v := 0) C.1 C.2.1 dL_poolPriceBySums_14 (by decide) ?_
    exact r_iret C hw rfl rfl (Sum.inl (r, u)) ⟨rfl, hp⟩ rfl (Nat.le_of_eq (Nat.zero_add _)) (Nat.le_of_eq (Nat.zero_add _)) dL_poolPriceBySums_15
set_option maxHeartbeats 4000000 in
set_option maxRecDepth 100000 in
theorem w_volumeAt {l : Launch} {G : Gx} (hF : SF l G) {S : Type} {d k z : Nat} {post : Int32 → S → Prop} {Wf : S → va_W} {px : Nat → Prop} {Wx : Nat → va_W} {b o : Nat} {fs : List Value} {f : Nat → Int64} {wA w : va_W} {WfA : S → va_W} {WxA : Nat → va_W} {x0 : Int32} (hM : XI l G yX11_volumeAt cX11_volumeAt 2 .int d k z [.ref b, .int x0] w post Wf px Wx) (hpe : List.Perm ((o, .inl (G.2.2.1 4, 1, .inr (.inl f))) :: wA) w) (q0 : Nat) (he : w[q0]? = some (b, .inr (12, fs))) (hpn : ∀ u, List.Perm (Wf u) ((o, .inl (G.2.2.1 4, 1, .inr (.inl f))) :: WfA u)) (hpx : ∀ k1, px k1 → (k1 = 2) ∧ List.Perm (Wx k1) ((o, .inl (G.2.2.1 4, 1, .inr (.inl f))) :: WxA k1)) : HI l G yL_volumeAt cL_volumeAt 4 [(0, 9, 12, 13)] (d + 1) k z [.ref b, .int x0, .ref o] ((o, .inl (G.2.2.1 4, 1, .inr (.inl f))) :: wA) (fun c1 (t : (Int32 × S) ⊕ Nat) => match t with | .inl (r, u) => c1 = 0 ∧ post r u | .inr k1 => c1 = (if k1 = 2 then 1 else 0) ∧ px k1) (fun t => match t with | .inl (r, u) => (o, .inl (G.2.2.1 4, 1, .inr (.inl (vp_updL f 0 r.toInt64)))) :: WfA u | .inr k1 => (o, .inl (G.2.2.1 4, 1, .inr (.inl f))) :: WxA k1) := by
  refine mh_of hF (by decide) (Nat.le_of_ble_eq_true rfl) ?_
  intro p e s m below meth c C htab ls hl H locs hw
  have hl : lv_has ls 4 [(0, .ref b), (1, .int x0), (2, .ref o)] := hl
  obtain ⟨bb, hb, -⟩ := id C.2.2.2.2.2.2.2.2.2.2.2.2
  refine lv_aload_n C.1 C.2.1 dL_volumeAt_0 rfl (lv_at hl 2 rfl) ?_
  refine lv_iconst (v := 0) C.1 C.2.1 dL_volumeAt_1 (by decide) ?_
  refine lv_aload_n C.1 C.2.1 dL_volumeAt_2 rfl (lv_at hl 0 rfl) ?_
  refine lv_iload_n C.1 C.2.1 dL_volumeAt_3 rfl (lv_at hl 1 rfl) ?_
  refine y_vi C (hw.perm hpe) hM ml_L_128 yf_X11_volumeAt q0 he rfl (As := [.int x0]) rfl rfl ⟨Nat.le_refl _, by show 8 + (2 + 11) + 64 * d ≤ 64 * (d + 1); omega⟩ ⟨Nat.le_of_eq (Nat.zero_add _), Nat.le_of_eq (Nat.zero_add _)⟩ hl.1 (Nat.le_of_ble_eq_true rfl) dL_volumeAt_4 (fun k1 q ce H locs hp hw hc1 hc2 hc3 => ?_) (fun r u H locs hp hw => ?_)
  · obtain ⟨hk, hpm⟩ := hpx k1 hp
    replace hw := hw.perm hpm
    subst hk
    refine vx_catch (own := RL) (name := "java/lang/IllegalArgumentException") (E := "java/lang/IllegalArgumentException") C.2.2.2.2.1 (tableOf []) { startPc := 0, endPc := 9, handlerPc := 12, catchType := 13 } (tableOf []) htab (fun z hz => nomatch hz) (by decide) (by decide) (C.2.2.2.2.2.1 _ cl_L_13) (fw_mv C rfl rfl (hb _ (tb3 _ (List.mem_of_getElem? (i := 55) rfl)))) hc1 hc2 hc3 ?_
    refine lv_astore_n (lv' := [(3, .ref q), (0, .ref b), (1, .int x0), (2, .ref o)]) C.1 C.2.1 dL_volumeAt_12 rfl hl (by decide) rfl (fun ls hl => ?_)
    refine lv_iconst (v := 1) C.1 C.2.1 dL_volumeAt_13 (by decide) ?_
    exact r_iret C hw rfl rfl (Sum.inr 2) ⟨rfl, hp⟩ rfl (Nat.le_of_eq (Nat.zero_add _)) (Nat.le_of_eq (Nat.zero_add _)) dL_volumeAt_14
  · replace hw := hw.perm (hpn u)
    refine lv_i2l (v := r.toInt64) C.1 C.2.1 dL_volumeAt_7 rfl ?_
    refine r_last C hw 0 rfl (n := 1) (i := 0) (x := r.toInt64) (show ¬ ((0 : Int32) < 0 ∨ 1 ≤ (0 : Int32).toNatClampNeg) by decide) (w' := (o, .inl (G.2.2.1 4, 1, .inr (.inl (vp_updL f 0 r.toInt64)))) :: WfA u) rfl dL_volumeAt_8 (fun H locs hw => ?_)
    refine lv_goto (tgt := 15) C.1 C.2.1 dL_volumeAt_9 (by decide) ?_
    refine lv_iconst (v := 0) C.1 C.2.1 dL_volumeAt_15 (by decide) ?_
    exact r_iret C hw rfl rfl (Sum.inl (r, u)) ⟨rfl, hp⟩ rfl (Nat.le_of_eq (Nat.zero_add _)) (Nat.le_of_eq (Nat.zero_add _)) dL_volumeAt_16
set_option maxHeartbeats 4000000 in
set_option maxRecDepth 100000 in
theorem w_writeOrder {l : Launch} {G : Gx} (hF : SF l G) {S : Type} {d k z : Nat} {post : Int32 → S → Prop} {Wf : S → va_W} {px : Nat → Prop} {Wx : Nat → va_W} {b o : Nat} {fs : List Value} {f : Nat → Int64} {wA w : va_W} {WfA : S → va_W} {WxA : Nat → va_W} {x0 : Int32} (hM : XI l G yX11_writeOrder cX11_writeOrder 3 .int d k z [.ref b, .int x0] w post Wf px Wx) (hpe : List.Perm ((o, .inl (G.2.2.1 4, 1, .inr (.inl f))) :: wA) w) (q0 : Nat) (he : w[q0]? = some (b, .inr (12, fs))) (hpn : ∀ u, List.Perm (Wf u) ((o, .inl (G.2.2.1 4, 1, .inr (.inl f))) :: WfA u)) (hpx : ∀ k1, px k1 → (k1 = 5) ∧ List.Perm (Wx k1) ((o, .inl (G.2.2.1 4, 1, .inr (.inl f))) :: WxA k1)) : HI l G yL_writeOrder cL_writeOrder 4 [(0, 9, 12, 45)] (d + 1) k z [.ref b, .int x0, .ref o] ((o, .inl (G.2.2.1 4, 1, .inr (.inl f))) :: wA) (fun c1 (t : (Int32 × S) ⊕ Nat) => match t with | .inl (r, u) => c1 = 0 ∧ post r u | .inr k1 => c1 = (if k1 = 5 then 1 else 0) ∧ px k1) (fun t => match t with | .inl (r, u) => (o, .inl (G.2.2.1 4, 1, .inr (.inl (vp_updL f 0 r.toInt64)))) :: WfA u | .inr k1 => (o, .inl (G.2.2.1 4, 1, .inr (.inl f))) :: WxA k1) := by
  refine mh_of hF (by decide) (Nat.le_of_ble_eq_true rfl) ?_
  intro p e s m below meth c C htab ls hl H locs hw
  have hl : lv_has ls 4 [(0, .ref b), (1, .int x0), (2, .ref o)] := hl
  obtain ⟨bb, hb, -⟩ := id C.2.2.2.2.2.2.2.2.2.2.2.2
  refine lv_aload_n C.1 C.2.1 dL_writeOrder_0 rfl (lv_at hl 2 rfl) ?_
  refine lv_iconst (v := 0) C.1 C.2.1 dL_writeOrder_1 (by decide) ?_
  refine lv_aload_n C.1 C.2.1 dL_writeOrder_2 rfl (lv_at hl 0 rfl) ?_
  refine lv_iload_n C.1 C.2.1 dL_writeOrder_3 rfl (lv_at hl 1 rfl) ?_
  refine y_vi C (hw.perm hpe) hM ml_L_131 yf_X11_writeOrder q0 he rfl (As := [.int x0]) rfl rfl ⟨Nat.le_refl _, by show 8 + (3 + 11) + 64 * d ≤ 64 * (d + 1); omega⟩ ⟨Nat.le_of_eq (Nat.zero_add _), Nat.le_of_eq (Nat.zero_add _)⟩ hl.1 (Nat.le_of_ble_eq_true rfl) dL_writeOrder_4 (fun k1 q ce H locs hp hw hc1 hc2 hc3 => ?_) (fun r u H locs hp hw => ?_)
  · obtain ⟨hk, hpm⟩ := hpx k1 hp
    replace hw := hw.perm hpm
    subst hk
    refine vx_catch (own := RL) (name := "java/util/NoSuchElementException") (E := "java/util/NoSuchElementException") C.2.2.2.2.1 (tableOf []) { startPc := 0, endPc := 9, handlerPc := 12, catchType := 45 } (tableOf []) htab (fun z hz => nomatch hz) (by decide) (by decide) (C.2.2.2.2.2.1 _ cl_L_45) (fw_mv C rfl rfl (hb _ (tb4 _ (List.mem_of_getElem? (i := 216) rfl)))) hc1 hc2 hc3 ?_
    refine lv_astore_n (lv' := [(3, .ref q), (0, .ref b), (1, .int x0), (2, .ref o)]) C.1 C.2.1 dL_writeOrder_12 rfl hl (by decide) rfl (fun ls hl => ?_)
    refine lv_iconst (v := 1) C.1 C.2.1 dL_writeOrder_13 (by decide) ?_
    exact r_iret C hw rfl rfl (Sum.inr 5) ⟨rfl, hp⟩ rfl (Nat.le_of_eq (Nat.zero_add _)) (Nat.le_of_eq (Nat.zero_add _)) dL_writeOrder_14
  · replace hw := hw.perm (hpn u)
    refine lv_i2l (v := r.toInt64) C.1 C.2.1 dL_writeOrder_7 rfl ?_
    refine r_last C hw 0 rfl (n := 1) (i := 0) (x := r.toInt64) (show ¬ ((0 : Int32) < 0 ∨ 1 ≤ (0 : Int32).toNatClampNeg) by decide) (w' := (o, .inl (G.2.2.1 4, 1, .inr (.inl (vp_updL f 0 r.toInt64)))) :: WfA u) rfl dL_writeOrder_8 (fun H locs hw => ?_)
    refine lv_goto (tgt := 15) C.1 C.2.1 dL_writeOrder_9 (by decide) ?_
    refine lv_iconst (v := 0) C.1 C.2.1 dL_writeOrder_15 (by decide) ?_
    exact r_iret C hw rfl rfl (Sum.inl (r, u)) ⟨rfl, hp⟩ rfl (Nat.le_of_eq (Nat.zero_add _)) (Nat.le_of_eq (Nat.zero_add _)) dL_writeOrder_16
set_option maxHeartbeats 4000000 in
set_option maxRecDepth 100000 in
theorem w_lineAt {l : Launch} {G : Gx} (hF : SF l G) {S : Type} {d k z : Nat} {post : Int32 → S → Prop} {Wf : S → va_W} {px : Nat → Prop} {Wx : Nat → va_W} {b o : Nat} {fs : List Value} {f : Nat → Int64} {wA w : va_W} {WfA : S → va_W} {WxA : Nat → va_W} {x0 : Int32} (hM : XI l G yX11_lineAt cX11_lineAt 2 .char d k z [.ref b, .int x0] w post Wf px Wx) (hpe : List.Perm ((o, .inl (G.2.2.1 4, 1, .inr (.inl f))) :: wA) w) (q0 : Nat) (he : w[q0]? = some (b, .inr (12, fs))) (hpn : ∀ u, List.Perm (Wf u) ((o, .inl (G.2.2.1 4, 1, .inr (.inl f))) :: WfA u)) (hpx : ∀ k1, px k1 → (k1 = 1) ∧ List.Perm (Wx k1) ((o, .inl (G.2.2.1 4, 1, .inr (.inl f))) :: WxA k1)) : HI l G yL_lineAt cL_lineAt 4 [(0, 9, 12, 21)] (d + 1) k z [.ref b, .int x0, .ref o] ((o, .inl (G.2.2.1 4, 1, .inr (.inl f))) :: wA) (fun c1 (t : (Int32 × S) ⊕ Nat) => match t with | .inl (r, u) => c1 = 0 ∧ post r u | .inr k1 => c1 = (if k1 = 1 then 1 else 0) ∧ px k1) (fun t => match t with | .inl (r, u) => (o, .inl (G.2.2.1 4, 1, .inr (.inl (vp_updL f 0 r.toInt64)))) :: WfA u | .inr k1 => (o, .inl (G.2.2.1 4, 1, .inr (.inl f))) :: WxA k1) := by
  refine mh_of hF (by decide) (Nat.le_of_ble_eq_true rfl) ?_
  intro p e s m below meth c C htab ls hl H locs hw
  have hl : lv_has ls 4 [(0, .ref b), (1, .int x0), (2, .ref o)] := hl
  obtain ⟨bb, hb, -⟩ := id C.2.2.2.2.2.2.2.2.2.2.2.2
  refine lv_aload_n C.1 C.2.1 dL_lineAt_0 rfl (lv_at hl 2 rfl) ?_
  refine lv_iconst (v := 0) C.1 C.2.1 dL_lineAt_1 (by decide) ?_
  refine lv_aload_n C.1 C.2.1 dL_lineAt_2 rfl (lv_at hl 0 rfl) ?_
  refine lv_iload_n C.1 C.2.1 dL_lineAt_3 rfl (lv_at hl 1 rfl) ?_
  refine y_vi C (hw.perm hpe) hM ml_L_134 yf_X11_lineAt q0 he rfl (As := [.int x0]) rfl rfl ⟨Nat.le_refl _, by show 8 + (2 + 11) + 64 * d ≤ 64 * (d + 1); omega⟩ ⟨Nat.le_of_eq (Nat.zero_add _), Nat.le_of_eq (Nat.zero_add _)⟩ hl.1 (Nat.le_of_ble_eq_true rfl) dL_lineAt_4 (fun k1 q ce H locs hp hw hc1 hc2 hc3 => ?_) (fun r u H locs hp hw => ?_)
  · obtain ⟨hk, hpm⟩ := hpx k1 hp
    replace hw := hw.perm hpm
    subst hk
    refine vx_catch (own := RL) (name := "java/lang/IndexOutOfBoundsException") (E := "java/lang/IndexOutOfBoundsException") C.2.2.2.2.1 (tableOf []) { startPc := 0, endPc := 9, handlerPc := 12, catchType := 21 } (tableOf []) htab (fun z hz => nomatch hz) (by decide) (by decide) (C.2.2.2.2.2.1 _ cl_L_21) (fw_mv C rfl rfl (hb _ (tb4 _ (List.mem_of_getElem? (i := 162) rfl)))) hc1 hc2 hc3 ?_
    refine lv_astore_n (lv' := [(3, .ref q), (0, .ref b), (1, .int x0), (2, .ref o)]) C.1 C.2.1 dL_lineAt_12 rfl hl (by decide) rfl (fun ls hl => ?_)
    refine lv_iconst (v := 1) C.1 C.2.1 dL_lineAt_13 (by decide) ?_
    exact r_iret C hw rfl rfl (Sum.inr 1) ⟨rfl, hp⟩ rfl (Nat.le_of_eq (Nat.zero_add _)) (Nat.le_of_eq (Nat.zero_add _)) dL_lineAt_14
  · replace hw := hw.perm (hpn u)
    refine lv_i2l (v := r.toInt64) C.1 C.2.1 dL_lineAt_7 rfl ?_
    refine r_last C hw 0 rfl (n := 1) (i := 0) (x := r.toInt64) (show ¬ ((0 : Int32) < 0 ∨ 1 ≤ (0 : Int32).toNatClampNeg) by decide) (w' := (o, .inl (G.2.2.1 4, 1, .inr (.inl (vp_updL f 0 r.toInt64)))) :: WfA u) rfl dL_lineAt_8 (fun H locs hw => ?_)
    refine lv_goto (tgt := 15) C.1 C.2.1 dL_lineAt_9 (by decide) ?_
    refine lv_iconst (v := 0) C.1 C.2.1 dL_lineAt_15 (by decide) ?_
    exact r_iret C hw rfl rfl (Sum.inl (r, u)) ⟨rfl, hp⟩ rfl (Nat.le_of_eq (Nat.zero_add _)) (Nat.le_of_eq (Nat.zero_add _)) dL_lineAt_16
set_option maxHeartbeats 4000000 in
set_option maxRecDepth 100000 in
theorem w_type {l : Launch} {G : Gx} (hF : SF l G) {S : Type} {d k z : Nat} {post : Int32 → S → Prop} {Wf : S → va_W} {px : Nat → Prop} {Wx : Nat → va_W} {b o : Nat} {fs : List Value} {f : Nat → Int64} {wA w : va_W} {WfA : S → va_W} {WxA : Nat → va_W} {x0 : Int32} (hM : XI l G yX11_type cX11_type 2 .int d k z [.ref b, .int x0] w post Wf px Wx) (hpe : List.Perm ((o, .inl (G.2.2.1 4, 1, .inr (.inl f))) :: wA) w) (q0 : Nat) (he : w[q0]? = some (b, .inr (12, fs))) (hpn : ∀ u, List.Perm (Wf u) ((o, .inl (G.2.2.1 4, 1, .inr (.inl f))) :: WfA u)) (hpx : ∀ k1, px k1 → (k1 = 2 ∨ k1 = 3) ∧ List.Perm (Wx k1) ((o, .inl (G.2.2.1 4, 1, .inr (.inl f))) :: WxA k1)) : HI l G yL_type cL_type 4 [(0, 9, 12, 13), (0, 9, 15, 15)] (d + 1) k z [.ref b, .int x0, .ref o] ((o, .inl (G.2.2.1 4, 1, .inr (.inl f))) :: wA) (fun c1 (t : (Int32 × S) ⊕ Nat) => match t with | .inl (r, u) => c1 = 0 ∧ post r u | .inr k1 => c1 = (if k1 = 2 then 1 else (if k1 = 3 then 2 else 0)) ∧ px k1) (fun t => match t with | .inl (r, u) => (o, .inl (G.2.2.1 4, 1, .inr (.inl (vp_updL f 0 r.toInt64)))) :: WfA u | .inr k1 => (o, .inl (G.2.2.1 4, 1, .inr (.inl f))) :: WxA k1) := by
  refine mh_of hF (by decide) (Nat.le_of_ble_eq_true rfl) ?_
  intro p e s m below meth c C htab ls hl H locs hw
  have hl : lv_has ls 4 [(0, .ref b), (1, .int x0), (2, .ref o)] := hl
  obtain ⟨bb, hb, -⟩ := id C.2.2.2.2.2.2.2.2.2.2.2.2
  refine lv_aload_n C.1 C.2.1 dL_type_0 rfl (lv_at hl 2 rfl) ?_
  refine lv_iconst (v := 0) C.1 C.2.1 dL_type_1 (by decide) ?_
  refine lv_aload_n C.1 C.2.1 dL_type_2 rfl (lv_at hl 0 rfl) ?_
  refine lv_iload_n C.1 C.2.1 dL_type_3 rfl (lv_at hl 1 rfl) ?_
  refine y_vi C (hw.perm hpe) hM ml_L_138 yf_X11_type q0 he rfl (As := [.int x0]) rfl rfl ⟨Nat.le_refl _, by show 8 + (2 + 11) + 64 * d ≤ 64 * (d + 1); omega⟩ ⟨Nat.le_of_eq (Nat.zero_add _), Nat.le_of_eq (Nat.zero_add _)⟩ hl.1 (Nat.le_of_ble_eq_true rfl) dL_type_4 (fun k1 q ce H locs hp hw hc1 hc2 hc3 => ?_) (fun r u H locs hp hw => ?_)
  · obtain ⟨hk, hpm⟩ := hpx k1 hp
    replace hw := hw.perm hpm
    rcases hk with rfl | rfl
    · refine vx_catch (own := RL) (name := "java/lang/IllegalArgumentException") (E := "java/lang/IllegalArgumentException") C.2.2.2.2.1 (tableOf []) { startPc := 0, endPc := 9, handlerPc := 12, catchType := 13 } (tableOf [(0, 9, 15, 15)]) htab (fun z hz => nomatch hz) (by decide) (by decide) (C.2.2.2.2.2.1 _ cl_L_13) (fw_mv C rfl rfl (hb _ (tb3 _ (List.mem_of_getElem? (i := 55) rfl)))) hc1 hc2 hc3 ?_
      refine lv_astore_n (lv' := [(3, .ref q), (0, .ref b), (1, .int x0), (2, .ref o)]) C.1 C.2.1 dL_type_12 rfl hl (by decide) rfl (fun ls hl => ?_)
      refine lv_iconst (v := 1) C.1 C.2.1 dL_type_13 (by decide) ?_
      exact r_iret C hw rfl rfl (Sum.inr 2) ⟨rfl, hp⟩ rfl (Nat.le_of_eq (Nat.zero_add _)) (Nat.le_of_eq (Nat.zero_add _)) dL_type_14
    · refine vx_catch (own := RL) (name := "java/lang/IllegalStateException") (E := "java/lang/IllegalStateException") C.2.2.2.2.1 (tableOf [(0, 9, 12, 13)]) { startPc := 0, endPc := 9, handlerPc := 15, catchType := 15 } (tableOf []) htab (List.forall_mem_cons.mpr ⟨Or.inr ⟨by decide, _, C.2.2.2.2.2.1 _ cl_L_13, (SF.nc_3_2 hF).moved C.2.2.2.2.2.2.2.1.alike⟩, (fun z hz => nomatch hz)⟩) (by decide) (by decide) (C.2.2.2.2.2.1 _ cl_L_15) (fw_mv C rfl rfl (hb _ (tb4 _ (List.mem_of_getElem? (i := 180) rfl)))) hc1 hc2 hc3 ?_
      refine lv_astore_n (lv' := [(3, .ref q), (0, .ref b), (1, .int x0), (2, .ref o)]) C.1 C.2.1 dL_type_15 rfl hl (by decide) rfl (fun ls hl => ?_)
      refine lv_iconst (v := 2) C.1 C.2.1 dL_type_16 (by decide) ?_
      exact r_iret C hw rfl rfl (Sum.inr 3) ⟨rfl, hp⟩ rfl (Nat.le_of_eq (Nat.zero_add _)) (Nat.le_of_eq (Nat.zero_add _)) dL_type_17
  · replace hw := hw.perm (hpn u)
    refine lv_i2l (v := r.toInt64) C.1 C.2.1 dL_type_7 rfl ?_
    refine r_last C hw 0 rfl (n := 1) (i := 0) (x := r.toInt64) (show ¬ ((0 : Int32) < 0 ∨ 1 ≤ (0 : Int32).toNatClampNeg) by decide) (w' := (o, .inl (G.2.2.1 4, 1, .inr (.inl (vp_updL f 0 r.toInt64)))) :: WfA u) rfl dL_type_8 (fun H locs hw => ?_)
    refine lv_goto (tgt := 18) C.1 C.2.1 dL_type_9 (by decide) ?_
    refine lv_iconst (v := 0) C.1 C.2.1 dL_type_18 (by decide) ?_
    exact r_iret C hw rfl rfl (Sum.inl (r, u)) ⟨rfl, hp⟩ rfl (Nat.le_of_eq (Nat.zero_add _)) (Nat.le_of_eq (Nat.zero_add _)) dL_type_19
set_option maxHeartbeats 4000000 in
set_option maxRecDepth 100000 in
theorem w_errorPosition {l : Launch} {G : Gx} (hF : SF l G) {S : Type} {d k z : Nat} {post : Int32 → S → Prop} {Wf : S → va_W} {px : Nat → Prop} {Wx : Nat → va_W} {b o : Nat} {fs : List Value} {f : Nat → Int64} {wA w : va_W} {WfA : S → va_W} {WxA : Nat → va_W} (hM : XI l G yX11_errorPosition cX11_errorPosition 1 .int d k z [.ref b] w post Wf px Wx) (hpe : List.Perm ((o, .inl (G.2.2.1 4, 1, .inr (.inl f))) :: wA) w) (q0 : Nat) (he : w[q0]? = some (b, .inr (12, fs))) (hpn : ∀ u, List.Perm (Wf u) ((o, .inl (G.2.2.1 4, 1, .inr (.inl f))) :: WfA u)) (hpx : ∀ k1, px k1 → (k1 = 5) ∧ List.Perm (Wx k1) ((o, .inl (G.2.2.1 4, 1, .inr (.inl f))) :: WxA k1)) : HI l G yL_errorPosition cL_errorPosition 3 [(0, 8, 11, 45)] (d + 1) k z [.ref b, .ref o] ((o, .inl (G.2.2.1 4, 1, .inr (.inl f))) :: wA) (fun c1 (t : (Int32 × S) ⊕ Nat) => match t with | .inl (r, u) => c1 = 0 ∧ post r u | .inr k1 => c1 = (if k1 = 5 then 1 else 0) ∧ px k1) (fun t => match t with | .inl (r, u) => (o, .inl (G.2.2.1 4, 1, .inr (.inl (vp_updL f 0 r.toInt64)))) :: WfA u | .inr k1 => (o, .inl (G.2.2.1 4, 1, .inr (.inl f))) :: WxA k1) := by
  refine mh_of hF (by decide) (Nat.le_of_ble_eq_true rfl) ?_
  intro p e s m below meth c C htab ls hl H locs hw
  have hl : lv_has ls 3 [(0, .ref b), (1, .ref o)] := hl
  obtain ⟨bb, hb, -⟩ := id C.2.2.2.2.2.2.2.2.2.2.2.2
  refine lv_aload_n C.1 C.2.1 dL_errorPosition_0 rfl (lv_at hl 1 rfl) ?_
  refine lv_iconst (v := 0) C.1 C.2.1 dL_errorPosition_1 (by decide) ?_
  refine lv_aload_n C.1 C.2.1 dL_errorPosition_2 rfl (lv_at hl 0 rfl) ?_
  refine y_vi C (hw.perm hpe) hM ml_L_145 yf_X11_errorPosition q0 he rfl (As := []) rfl rfl ⟨Nat.le_refl _, by show 8 + (1 + 11) + 64 * d ≤ 64 * (d + 1); omega⟩ ⟨Nat.le_of_eq (Nat.zero_add _), Nat.le_of_eq (Nat.zero_add _)⟩ hl.1 (Nat.le_of_ble_eq_true rfl) dL_errorPosition_3 (fun k1 q ce H locs hp hw hc1 hc2 hc3 => ?_) (fun r u H locs hp hw => ?_)
  · obtain ⟨hk, hpm⟩ := hpx k1 hp
    replace hw := hw.perm hpm
    subst hk
    refine vx_catch (own := RL) (name := "java/util/NoSuchElementException") (E := "java/util/NoSuchElementException") C.2.2.2.2.1 (tableOf []) { startPc := 0, endPc := 8, handlerPc := 11, catchType := 45 } (tableOf []) htab (fun z hz => nomatch hz) (by decide) (by decide) (C.2.2.2.2.2.1 _ cl_L_45) (fw_mv C rfl rfl (hb _ (tb4 _ (List.mem_of_getElem? (i := 216) rfl)))) hc1 hc2 hc3 ?_
    refine lv_astore_n (lv' := [(2, .ref q), (0, .ref b), (1, .ref o)]) C.1 C.2.1 dL_errorPosition_11 rfl hl (by decide) rfl (fun ls hl => ?_)
    refine lv_iconst (v := 1) C.1 C.2.1 dL_errorPosition_12 (by decide) ?_
    exact r_iret C hw rfl rfl (Sum.inr 5) ⟨rfl, hp⟩ rfl (Nat.le_of_eq (Nat.zero_add _)) (Nat.le_of_eq (Nat.zero_add _)) dL_errorPosition_13
  · replace hw := hw.perm (hpn u)
    refine lv_i2l (v := r.toInt64) C.1 C.2.1 dL_errorPosition_6 rfl ?_
    refine r_last C hw 0 rfl (n := 1) (i := 0) (x := r.toInt64) (show ¬ ((0 : Int32) < 0 ∨ 1 ≤ (0 : Int32).toNatClampNeg) by decide) (w' := (o, .inl (G.2.2.1 4, 1, .inr (.inl (vp_updL f 0 r.toInt64)))) :: WfA u) rfl dL_errorPosition_7 (fun H locs hw => ?_)
    refine lv_goto (tgt := 14) C.1 C.2.1 dL_errorPosition_8 (by decide) ?_
    refine lv_iconst (v := 0) C.1 C.2.1 dL_errorPosition_14 (by decide) ?_
    exact r_iret C hw rfl rfl (Sum.inl (r, u)) ⟨rfl, hp⟩ rfl (Nat.le_of_eq (Nat.zero_add _)) (Nat.le_of_eq (Nat.zero_add _)) dL_errorPosition_15
set_option maxHeartbeats 4000000 in
set_option maxRecDepth 100000 in
theorem w_failedCommand {l : Launch} {G : Gx} (hF : SF l G) {S : Type} {d k z : Nat} {post : Int32 → S → Prop} {Wf : S → va_W} {px : Nat → Prop} {Wx : Nat → va_W} {b o : Nat} {fs : List Value} {f : Nat → Int64} {wA w : va_W} {WfA : S → va_W} {WxA : Nat → va_W} (hM : XI l G yX11_failedCommand cX11_failedCommand 1 .int d k z [.ref b] w post Wf px Wx) (hpe : List.Perm ((o, .inl (G.2.2.1 4, 1, .inr (.inl f))) :: wA) w) (q0 : Nat) (he : w[q0]? = some (b, .inr (12, fs))) (hpn : ∀ u, List.Perm (Wf u) ((o, .inl (G.2.2.1 4, 1, .inr (.inl f))) :: WfA u)) (hpx : ∀ k1, px k1 → (k1 = 5) ∧ List.Perm (Wx k1) ((o, .inl (G.2.2.1 4, 1, .inr (.inl f))) :: WxA k1)) : HI l G yL_failedCommand cL_failedCommand 3 [(0, 8, 11, 45)] (d + 1) k z [.ref b, .ref o] ((o, .inl (G.2.2.1 4, 1, .inr (.inl f))) :: wA) (fun c1 (t : (Int32 × S) ⊕ Nat) => match t with | .inl (r, u) => c1 = 0 ∧ post r u | .inr k1 => c1 = (if k1 = 5 then 1 else 0) ∧ px k1) (fun t => match t with | .inl (r, u) => (o, .inl (G.2.2.1 4, 1, .inr (.inl (vp_updL f 0 r.toInt64)))) :: WfA u | .inr k1 => (o, .inl (G.2.2.1 4, 1, .inr (.inl f))) :: WxA k1) := by
  refine mh_of hF (by decide) (Nat.le_of_ble_eq_true rfl) ?_
  intro p e s m below meth c C htab ls hl H locs hw
  have hl : lv_has ls 3 [(0, .ref b), (1, .ref o)] := hl
  obtain ⟨bb, hb, -⟩ := id C.2.2.2.2.2.2.2.2.2.2.2.2
  refine lv_aload_n C.1 C.2.1 dL_failedCommand_0 rfl (lv_at hl 1 rfl) ?_
  refine lv_iconst (v := 0) C.1 C.2.1 dL_failedCommand_1 (by decide) ?_
  refine lv_aload_n C.1 C.2.1 dL_failedCommand_2 rfl (lv_at hl 0 rfl) ?_
  refine y_vi C (hw.perm hpe) hM ml_L_148 yf_X11_failedCommand q0 he rfl (As := []) rfl rfl ⟨Nat.le_refl _, by show 8 + (1 + 11) + 64 * d ≤ 64 * (d + 1); omega⟩ ⟨Nat.le_of_eq (Nat.zero_add _), Nat.le_of_eq (Nat.zero_add _)⟩ hl.1 (Nat.le_of_ble_eq_true rfl) dL_failedCommand_3 (fun k1 q ce H locs hp hw hc1 hc2 hc3 => ?_) (fun r u H locs hp hw => ?_)
  · obtain ⟨hk, hpm⟩ := hpx k1 hp
    replace hw := hw.perm hpm
    subst hk
    refine vx_catch (own := RL) (name := "java/util/NoSuchElementException") (E := "java/util/NoSuchElementException") C.2.2.2.2.1 (tableOf []) { startPc := 0, endPc := 8, handlerPc := 11, catchType := 45 } (tableOf []) htab (fun z hz => nomatch hz) (by decide) (by decide) (C.2.2.2.2.2.1 _ cl_L_45) (fw_mv C rfl rfl (hb _ (tb4 _ (List.mem_of_getElem? (i := 216) rfl)))) hc1 hc2 hc3 ?_
    refine lv_astore_n (lv' := [(2, .ref q), (0, .ref b), (1, .ref o)]) C.1 C.2.1 dL_failedCommand_11 rfl hl (by decide) rfl (fun ls hl => ?_)
    refine lv_iconst (v := 1) C.1 C.2.1 dL_failedCommand_12 (by decide) ?_
    exact r_iret C hw rfl rfl (Sum.inr 5) ⟨rfl, hp⟩ rfl (Nat.le_of_eq (Nat.zero_add _)) (Nat.le_of_eq (Nat.zero_add _)) dL_failedCommand_13
  · replace hw := hw.perm (hpn u)
    refine lv_i2l (v := r.toInt64) C.1 C.2.1 dL_failedCommand_6 rfl ?_
    refine r_last C hw 0 rfl (n := 1) (i := 0) (x := r.toInt64) (show ¬ ((0 : Int32) < 0 ∨ 1 ≤ (0 : Int32).toNatClampNeg) by decide) (w' := (o, .inl (G.2.2.1 4, 1, .inr (.inl (vp_updL f 0 r.toInt64)))) :: WfA u) rfl dL_failedCommand_7 (fun H locs hw => ?_)
    refine lv_goto (tgt := 14) C.1 C.2.1 dL_failedCommand_8 (by decide) ?_
    refine lv_iconst (v := 0) C.1 C.2.1 dL_failedCommand_14 (by decide) ?_
    exact r_iret C hw rfl rfl (Sum.inl (r, u)) ⟨rfl, hp⟩ rfl (Nat.le_of_eq (Nat.zero_add _)) (Nat.le_of_eq (Nat.zero_add _)) dL_failedCommand_15
set_option maxHeartbeats 4000000 in
set_option maxRecDepth 100000 in
theorem w_undo {l : Launch} {G : Gx} (hF : SF l G) {S : Type} {d k z : Nat} {post : Int32 → S → Prop} {Wf : S → va_W} {px : Nat → Prop} {Wx : Nat → va_W} {b o : Nat} {fs : List Value} {f : Nat → Int64} {wA w : va_W} {WfA : S → va_W} {WxA : Nat → va_W} (hM : XI l G yX11_undo cX11_undo 1 .int d k z [.ref b] w post Wf px Wx) (hpe : List.Perm ((o, .inl (G.2.2.1 4, 1, .inr (.inl f))) :: wA) w) (q0 : Nat) (he : w[q0]? = some (b, .inr (12, fs))) (hpn : ∀ u, List.Perm (Wf u) ((o, .inl (G.2.2.1 4, 1, .inr (.inl f))) :: WfA u)) (hpx : ∀ k1, px k1 → (k1 = 3) ∧ List.Perm (Wx k1) ((o, .inl (G.2.2.1 4, 1, .inr (.inl f))) :: WxA k1)) : HI l G yL_undo cL_undo 3 [(0, 8, 11, 15)] (d + 1) k z [.ref b, .ref o] ((o, .inl (G.2.2.1 4, 1, .inr (.inl f))) :: wA) (fun c1 (t : (Int32 × S) ⊕ Nat) => match t with | .inl (r, u) => c1 = 0 ∧ post r u | .inr k1 => c1 = (if k1 = 3 then 1 else 0) ∧ px k1) (fun t => match t with | .inl (r, u) => (o, .inl (G.2.2.1 4, 1, .inr (.inl (vp_updL f 0 r.toInt64)))) :: WfA u | .inr k1 => (o, .inl (G.2.2.1 4, 1, .inr (.inl f))) :: WxA k1) := by
  refine mh_of hF (by decide) (Nat.le_of_ble_eq_true rfl) ?_
  intro p e s m below meth c C htab ls hl H locs hw
  have hl : lv_has ls 3 [(0, .ref b), (1, .ref o)] := hl
  obtain ⟨bb, hb, -⟩ := id C.2.2.2.2.2.2.2.2.2.2.2.2
  refine lv_aload_n C.1 C.2.1 dL_undo_0 rfl (lv_at hl 1 rfl) ?_
  refine lv_iconst (v := 0) C.1 C.2.1 dL_undo_1 (by decide) ?_
  refine lv_aload_n C.1 C.2.1 dL_undo_2 rfl (lv_at hl 0 rfl) ?_
  refine y_vi C (hw.perm hpe) hM ml_L_151 yf_X11_undo q0 he rfl (As := []) rfl rfl ⟨Nat.le_refl _, by show 8 + (1 + 11) + 64 * d ≤ 64 * (d + 1); omega⟩ ⟨Nat.le_of_eq (Nat.zero_add _), Nat.le_of_eq (Nat.zero_add _)⟩ hl.1 (Nat.le_of_ble_eq_true rfl) dL_undo_3 (fun k1 q ce H locs hp hw hc1 hc2 hc3 => ?_) (fun r u H locs hp hw => ?_)
  · obtain ⟨hk, hpm⟩ := hpx k1 hp
    replace hw := hw.perm hpm
    subst hk
    refine vx_catch (own := RL) (name := "java/lang/IllegalStateException") (E := "java/lang/IllegalStateException") C.2.2.2.2.1 (tableOf []) { startPc := 0, endPc := 8, handlerPc := 11, catchType := 15 } (tableOf []) htab (fun z hz => nomatch hz) (by decide) (by decide) (C.2.2.2.2.2.1 _ cl_L_15) (fw_mv C rfl rfl (hb _ (tb4 _ (List.mem_of_getElem? (i := 180) rfl)))) hc1 hc2 hc3 ?_
    refine lv_astore_n (lv' := [(2, .ref q), (0, .ref b), (1, .ref o)]) C.1 C.2.1 dL_undo_11 rfl hl (by decide) rfl (fun ls hl => ?_)
    refine lv_iconst (v := 1) C.1 C.2.1 dL_undo_12 (by decide) ?_
    exact r_iret C hw rfl rfl (Sum.inr 3) ⟨rfl, hp⟩ rfl (Nat.le_of_eq (Nat.zero_add _)) (Nat.le_of_eq (Nat.zero_add _)) dL_undo_13
  · replace hw := hw.perm (hpn u)
    refine lv_i2l (v := r.toInt64) C.1 C.2.1 dL_undo_6 rfl ?_
    refine r_last C hw 0 rfl (n := 1) (i := 0) (x := r.toInt64) (show ¬ ((0 : Int32) < 0 ∨ 1 ≤ (0 : Int32).toNatClampNeg) by decide) (w' := (o, .inl (G.2.2.1 4, 1, .inr (.inl (vp_updL f 0 r.toInt64)))) :: WfA u) rfl dL_undo_7 (fun H locs hw => ?_)
    refine lv_goto (tgt := 14) C.1 C.2.1 dL_undo_8 (by decide) ?_
    refine lv_iconst (v := 0) C.1 C.2.1 dL_undo_14 (by decide) ?_
    exact r_iret C hw rfl rfl (Sum.inl (r, u)) ⟨rfl, hp⟩ rfl (Nat.le_of_eq (Nat.zero_add _)) (Nat.le_of_eq (Nat.zero_add _)) dL_undo_15
set_option maxHeartbeats 4000000 in
set_option maxRecDepth 100000 in
theorem w_restore {l : Launch} {G : Gx} (hF : SF l G) {S : Type} {d k z : Nat} {post : Int32 → S → Prop} {Wf : S → va_W} {px : Nat → Prop} {Wx : Nat → va_W} {b o : Nat} {fs : List Value} {f : Nat → Int64} {wA w : va_W} {WfA : S → va_W} {WxA : Nat → va_W} (hM : XI l G yX11_restore cX11_restore 1 .int d k z [.ref b] w post Wf px Wx) (hpe : List.Perm ((o, .inl (G.2.2.1 4, 1, .inr (.inl f))) :: wA) w) (q0 : Nat) (he : w[q0]? = some (b, .inr (12, fs))) (hpn : ∀ u, List.Perm (Wf u) ((o, .inl (G.2.2.1 4, 1, .inr (.inl f))) :: WfA u)) (hpx : ∀ k1, px k1 → (k1 = 3) ∧ List.Perm (Wx k1) ((o, .inl (G.2.2.1 4, 1, .inr (.inl f))) :: WxA k1)) : HI l G yL_restore cL_restore 3 [(0, 8, 11, 15)] (d + 1) k z [.ref b, .ref o] ((o, .inl (G.2.2.1 4, 1, .inr (.inl f))) :: wA) (fun c1 (t : (Int32 × S) ⊕ Nat) => match t with | .inl (r, u) => c1 = 0 ∧ post r u | .inr k1 => c1 = (if k1 = 3 then 1 else 0) ∧ px k1) (fun t => match t with | .inl (r, u) => (o, .inl (G.2.2.1 4, 1, .inr (.inl (vp_updL f 0 r.toInt64)))) :: WfA u | .inr k1 => (o, .inl (G.2.2.1 4, 1, .inr (.inl f))) :: WxA k1) := by
  refine mh_of hF (by decide) (Nat.le_of_ble_eq_true rfl) ?_
  intro p e s m below meth c C htab ls hl H locs hw
  have hl : lv_has ls 3 [(0, .ref b), (1, .ref o)] := hl
  obtain ⟨bb, hb, -⟩ := id C.2.2.2.2.2.2.2.2.2.2.2.2
  refine lv_aload_n C.1 C.2.1 dL_restore_0 rfl (lv_at hl 1 rfl) ?_
  refine lv_iconst (v := 0) C.1 C.2.1 dL_restore_1 (by decide) ?_
  refine lv_aload_n C.1 C.2.1 dL_restore_2 rfl (lv_at hl 0 rfl) ?_
  refine y_vi C (hw.perm hpe) hM ml_L_154 yf_X11_restore q0 he rfl (As := []) rfl rfl ⟨Nat.le_refl _, by show 8 + (1 + 11) + 64 * d ≤ 64 * (d + 1); omega⟩ ⟨Nat.le_of_eq (Nat.zero_add _), Nat.le_of_eq (Nat.zero_add _)⟩ hl.1 (Nat.le_of_ble_eq_true rfl) dL_restore_3 (fun k1 q ce H locs hp hw hc1 hc2 hc3 => ?_) (fun r u H locs hp hw => ?_)
  · obtain ⟨hk, hpm⟩ := hpx k1 hp
    replace hw := hw.perm hpm
    subst hk
    refine vx_catch (own := RL) (name := "java/lang/IllegalStateException") (E := "java/lang/IllegalStateException") C.2.2.2.2.1 (tableOf []) { startPc := 0, endPc := 8, handlerPc := 11, catchType := 15 } (tableOf []) htab (fun z hz => nomatch hz) (by decide) (by decide) (C.2.2.2.2.2.1 _ cl_L_15) (fw_mv C rfl rfl (hb _ (tb4 _ (List.mem_of_getElem? (i := 180) rfl)))) hc1 hc2 hc3 ?_
    refine lv_astore_n (lv' := [(2, .ref q), (0, .ref b), (1, .ref o)]) C.1 C.2.1 dL_restore_11 rfl hl (by decide) rfl (fun ls hl => ?_)
    refine lv_iconst (v := 1) C.1 C.2.1 dL_restore_12 (by decide) ?_
    exact r_iret C hw rfl rfl (Sum.inr 3) ⟨rfl, hp⟩ rfl (Nat.le_of_eq (Nat.zero_add _)) (Nat.le_of_eq (Nat.zero_add _)) dL_restore_13
  · replace hw := hw.perm (hpn u)
    refine lv_i2l (v := r.toInt64) C.1 C.2.1 dL_restore_6 rfl ?_
    refine r_last C hw 0 rfl (n := 1) (i := 0) (x := r.toInt64) (show ¬ ((0 : Int32) < 0 ∨ 1 ≤ (0 : Int32).toNatClampNeg) by decide) (w' := (o, .inl (G.2.2.1 4, 1, .inr (.inl (vp_updL f 0 r.toInt64)))) :: WfA u) rfl dL_restore_7 (fun H locs hw => ?_)
    refine lv_goto (tgt := 14) C.1 C.2.1 dL_restore_8 (by decide) ?_
    refine lv_iconst (v := 0) C.1 C.2.1 dL_restore_14 (by decide) ?_
    exact r_iret C hw rfl rfl (Sum.inl (r, u)) ⟨rfl, hp⟩ rfl (Nat.le_of_eq (Nat.zero_add _)) (Nat.le_of_eq (Nat.zero_add _)) dL_restore_15
