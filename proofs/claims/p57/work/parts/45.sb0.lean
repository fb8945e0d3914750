/-! rows for the methods of AbstractStringBuilder; the tables of digits -/
def YfU (y : MethodName) (cc : ByteArray) (n : Nat) (r : Option FieldType) (k : Nat) : Prop := (Cond.instanceMethod y ∈ LW ∧ Cond.initialized y.cls ∈ LW ∧ Cond.code y cc n r ∈ LW ∧ Cond.sameMethod y.cls y.cls y.name y.desc ∈ LW) ∧ (y.cls ≠ "java/lang/invoke/MethodHandle" ∧ y.cls ≠ "java/lang/invoke/VarHandle" ∧ (parseMethodDescriptor y.desc).map (fun d => d.parameters.length) = some k)
theorem sup_J4 : Cond.superclass RJ4 RJ5 ∈ LW := lwm (tb2 _ (List.mem_of_getElem? (i := 2) rfl)) rfl
theorem sel_J4 : Cond.selects RJ4 yJ5_isLatin1_aae02 yJ5_isLatin1_aae02 ∈ LW := lwm (tb5 _ (List.mem_of_getElem? (i := 168) rfl)) rfl
theorem yf_J5_length_8abf5 : YfU yJ5_length_8abf5 cJ5_length_8abf5 1 (some .int) 0 := ⟨⟨lwm (tb6 _ (List.mem_of_getElem? (i := 46) rfl)) rfl, lwm (tb1 _ (List.mem_of_getElem? (i := 10) rfl)) rfl, lwm (tb6 _ (List.mem_of_getElem? (i := 52) rfl)) rfl, lwm (tb6 _ (List.mem_of_getElem? (i := 47) rfl)) rfl⟩, by decide +kernel⟩
theorem yf_J5_ensureCapacityInternal_d00df : YfU yJ5_ensureCapacityInternal_d00df cJ5_ensureCapacityInternal_d00df 3 none 1 := ⟨⟨lwm (tb5 _ (List.mem_of_getElem? (i := 136) rfl)) rfl, lwm (tb1 _ (List.mem_of_getElem? (i := 10) rfl)) rfl, lwm (tb5 _ (List.mem_of_getElem? (i := 137) rfl)) rfl, lwm (tb7 _ (List.mem_of_getElem? (i := 138) rfl)) rfl⟩, by decide +kernel⟩
theorem pv_J5_ensureCapacityInternal_d00df : Cond.privateMethod yJ5_ensureCapacityInternal_d00df ∈ lw_tbl := tb5 _ (List.mem_of_getElem? (i := 135) rfl)
theorem yf_J5_newCapacity_0f7a4 : YfU yJ5_newCapacity_0f7a4 cJ5_newCapacity_0f7a4 6 (some .int) 1 := ⟨⟨lwm (tb5 _ (List.mem_of_getElem? (i := 140) rfl)) rfl, lwm (tb1 _ (List.mem_of_getElem? (i := 10) rfl)) rfl, lwm (tb5 _ (List.mem_of_getElem? (i := 141) rfl)) rfl, lwm (tb7 _ (List.mem_of_getElem? (i := 139) rfl)) rfl⟩, by decide +kernel⟩
theorem pv_J5_newCapacity_0f7a4 : Cond.privateMethod yJ5_newCapacity_0f7a4 ∈ lw_tbl := tb5 _ (List.mem_of_getElem? (i := 139) rfl)
theorem yf_J5_setLength_d00df : YfU yJ5_setLength_d00df cJ5_setLength_d00df 2 none 1 := ⟨⟨lwm (tb6 _ (List.mem_of_getElem? (i := 103) rfl)) rfl, lwm (tb1 _ (List.mem_of_getElem? (i := 10) rfl)) rfl, lwm (tb6 _ (List.mem_of_getElem? (i := 104) rfl)) rfl, lwm (tb7 _ (List.mem_of_getElem? (i := 145) rfl)) rfl⟩, by decide +kernel⟩
theorem yf_J5_charAt_5068e : YfU yJ5_charAt_5068e cJ5_charAt_5068e 5 (some .char) 1 := ⟨⟨lwm (tb6 _ (List.mem_of_getElem? (i := 191) rfl)) rfl, lwm (tb1 _ (List.mem_of_getElem? (i := 10) rfl)) rfl, lwm (tb6 _ (List.mem_of_getElem? (i := 192) rfl)) rfl, lwm (tb7 _ (List.mem_of_getElem? (i := 148) rfl)) rfl⟩, by decide +kernel⟩
theorem yf_J5_append_3fe6f : YfU yJ5_append_3fe6f cJ5_append_3fe6f 2 (some (.object "java/lang/AbstractStringBuilder")) 1 := ⟨⟨lwm (tb6 _ (List.mem_of_getElem? (i := 156) rfl)) rfl, lwm (tb1 _ (List.mem_of_getElem? (i := 10) rfl)) rfl, lwm (tb6 _ (List.mem_of_getElem? (i := 157) rfl)) rfl, lwm (tb7 _ (List.mem_of_getElem? (i := 146) rfl)) rfl⟩, by decide +kernel⟩
theorem yf_J5_append_c97b9 : YfU yJ5_append_c97b9 cJ5_append_c97b9 4 (some (.object "java/lang/AbstractStringBuilder")) 1 := ⟨⟨lwm (tb5 _ (List.mem_of_getElem? (i := 129) rfl)) rfl, lwm (tb1 _ (List.mem_of_getElem? (i := 10) rfl)) rfl, lwm (tb5 _ (List.mem_of_getElem? (i := 130) rfl)) rfl, lwm (tb7 _ (List.mem_of_getElem? (i := 137) rfl)) rfl⟩, by decide +kernel⟩
theorem yf_J5_isLatin1_aae02 : YfU yJ5_isLatin1_aae02 cJ5_isLatin1_aae02 1 (some .boolean) 0 := ⟨⟨lwm (tb5 _ (List.mem_of_getElem? (i := 166) rfl)) rfl, lwm (tb1 _ (List.mem_of_getElem? (i := 10) rfl)) rfl, lwm (tb5 _ (List.mem_of_getElem? (i := 169) rfl)) rfl, lwm (tb5 _ (List.mem_of_getElem? (i := 167) rfl)) rfl⟩, by decide +kernel⟩
theorem cst_J8 : Cond.constant RJ8 200 2147483639 ∈ LW := lwm (tb5 _ (List.mem_of_getElem? (i := 146) rfl)) rfl
theorem cst_J5 : Cond.constant RJ5 39 2147483647 ∈ LW := lwm (tb5 _ (List.mem_of_getElem? (i := 150) rfl)) rfl
theorem sel_priv {s : State} {args : Array Value} {C : String} {y0 y : MethodName} (hc : y0.cls = y.cls) (hy : y.cls ≠ "java/lang/invoke/MethodHandle" ∧ y.cls ≠ "java/lang/invoke/VarHandle") (hsel : (Cond.selects C y0 y0).before args s = true) (hpriv : (Cond.privateMethod y).before args s = true) (hinst : (Cond.instanceMethod y).before args s = true) : (Cond.selects C y y).before args s = true := by
  obtain ⟨mk, methM, hnamed, hmethM, -, -⟩ := Cond.instanceMethod_spec hinst
  have hfound : s.methodFound? y.cls y.name y.desc = some mk := State.methodFound?_of_named hnamed hy
  have hcls := findClass_of_methodNamed hnamed
  simp only [Cond.before, Cond.holds, Cond.value] at hsel
  split at hsel
  · rename_i c r m0 hfc hfr hm0
    have hcls0 := findClass_of_methodNamed hm0
    rw [hc, hcls] at hcls0
    have hmm : mk.cls = m0.cls := Option.some.inj hcls0
    have hs : selectMethod {} s.vm c mk = .method mk := selectMethod_private hmethM (Cond.privateMethod_at hpriv mk methM hnamed hmethM)
    simp only [Cond.before, Cond.holds, Cond.value, hfc, hfound, hnamed, hs, hmm]
    split at hsel
    · simp only [beq_iff_eq, Option.some.injEq, Bool.and_eq_true] at hsel
      simp [hsel.2]
    · simp at hsel
  · simp at hsel
section UROWS
variable {p : Program} {l : Launch} {e : Env} {R : Room} {s : State} {m : MethodId} {args : Array Value} {below : List Frame} {meth : Method} {c : Code} {H : Heap} {locs : List Loc} {cells slots : Nat} {Q : State → Prop}
variable {G : Gx} {own : String} {cc : ByteArray} {nL : Nat} {ret : Option FieldType} {pc : Nat} {ls : Array Slot} {rest st : List Value} {w : va_W}
theorem Cx.selP (C : Cx l G own cc nL ret p s m meth c args) {y : MethodName} (hc : y.cls = RJ5) (hp : Cond.privateMethod y ∈ lw_tbl) (hi : Cond.instanceMethod y ∈ LW) : (Cond.selects RJ4 y y).before args s = true := by
  obtain ⟨b, hb, -⟩ := C.2.2.2.2.2.2.2.2.2.2.2.2
  exact word_at C.2.2.2.2.2.2.2.1 (Or.inl rfl) (sel_priv (y0 := yJ5_isLatin1_aae02) (by rw [hc]; rfl) (by rw [hc]; decide) (hb _ (LW_in _ sel_J4)) (hb _ hp) (hb _ (LW_in _ hi)))
theorem Cx.cU (C : Cx l G own cc nL ret p s m meth c args) {y : MethodName} {bytes : ByteArray} {maxL d k z n index : Nat} {r : Option FieldType} (ml : Cond.methodLink own index y ∈ LW) (yf : YfU y bytes maxL r n) (hsel : (Cond.selects RJ4 y y).before args s = true) (hR : d + 1 ≤ R.frames ∧ 8 + (maxL + 11) + 64 * d ≤ R.locals) : va_CU R s args own RJ4 y.cls index y y bytes maxL r (wy y bytes maxL r) (rmD d k z) k z n :=
  ⟨⟨rfl, rfl, hR.1, hR.2, pay_in C.2.2.2.2.2.1 (wy_good yf.1.2.2.1), List.mem_cons_self⟩, C.2.2.2.2.2.1 _ yf.1.2.2.1, C.2.2.2.2.2.1 _ yf.1.2.1, ⟨yf.2.1, yf.2.2.1⟩, fun sig h => by have h2 := yf.2.2.2; rw [h] at h2; exact (Option.some.inj h2).symm, C.2.2.2.2.2.1 _ ml, C.2.2.2.2.2.1 _ yf.1.2.2.2, va_Decl.of (C.2.2.2.2.2.1 _ yf.1.1) (C.2.2.2.2.2.1 _ yf.1.2.2.1), hsel, C.2.2.2.2.2.1 _ yf.1.1⟩
theorem Cx.cSU (C : Cx l G RJ4 cc nL ret p s m meth c args) {y : MethodName} {bytes : ByteArray} {maxL d k z n index : Nat} {r : Option FieldType} (hyc : y.cls = RJ5) (hno : y.name ≠ "<init>") (ml : Cond.methodLink RJ4 index y ∈ LW) (yf : YfU y bytes maxL r n) (hR : d + 1 ≤ R.frames ∧ 8 + (maxL + 11) + 64 * d ≤ R.locals) : va_CS R s args RJ4 index y bytes maxL r (wy y bytes maxL r) (rmD d k z) k z n :=
  ⟨⟨rfl, rfl, hR.1, hR.2, pay_in C.2.2.2.2.2.1 (wy_good yf.1.2.2.1), List.mem_cons_self⟩, C.2.2.2.2.2.1 _ ml, C.2.2.2.2.2.1 _ yf.1.2.2.2, by rw [hyc]; exact C.2.2.2.2.2.1 _ sup_J4, C.2.2.2.2.2.1 _ yf.1.1, C.2.2.2.2.2.1 _ yf.1.2.1, C.2.2.2.2.2.1 _ yf.1.2.2.1, hno, fun sig h => by have h2 := yf.2.2.2; rw [h] at h2; exact (Option.some.inj h2).symm⟩
theorem r_ui (C : Cx l G own cc nL ret p s m meth c args) (hw : WH G s w H locs) {y : MethodName} {bytes : ByteArray} {maxL d k z n index : Nat} {As : List Value} {S : Type} {rt : FieldType} {post : Int32 → S → Prop} {Wf : S → va_W} {b : Nat} {fs : List Value} (hM : MI l G y bytes maxL rt d k z (.ref b :: As) w post Wf) (ml : Cond.methodLink own index y ∈ LW) (yf : YfU y bytes maxL (some rt) n) (hsel : (Cond.selects RJ4 y y).before args s = true) (q0 : Nat) (he : w[q0]? = some (b, .inr (1, fs))) (hn : As.length = n) (hst : st = As.reverse ++ .ref b :: rest) (hR : d + 1 ≤ R.frames ∧ 8 + (maxL + 11) + 64 * d ≤ R.locals) (hf : cells + k ≤ R.cells ∧ slots + z ≤ R.slots) (hsz : ls.size = nL) (hrest : (rest.map fun v => v.category).sum ≤ 8) (hdg : decode cc pc = .ok (.invokevirtual index, 3))
    (kk : ∀ (r : Int32) (u : S) (H : Heap) (locs : List Loc), post r u → WH G s (Wf u) H locs → W p l e R s m args below meth c H locs (cells + k) (slots + z) Q (F0 m (pc + 3) ls (.int r :: rest))) : W p l e R s m args below meth c H locs cells slots Q (F0 m pc ls st) :=
  va_calli (va_runU (As := As) (rest := rest) (n := n) ⟨C.1, C.2.1, C.2.2.2.1, C.2.2.2.2.1, C.2.2.2.2.2.1⟩ hM (C.cU ml yf hsel hR) ⟨Inv.blind, va_recv C.K hw.2.2.1 (ci := 1) rfl he, fun U hU hW => ⟨rfl, hw.inv C hU hW⟩⟩ rfl hn hsz hst (lv_room hrest) hdg hf) hw.2.1 (fun q _ h => h) (fun q h => h) (fun r u t H1 locs1 ht hvm hp hB _ _ hS => kk r u H1 locs1 hp ⟨hw.1, hS, ht ▸ hB.2.2.1, hB.2.2.2⟩)
theorem r_sui (C : Cx l G RJ4 cc nL ret p s m meth c args) (hw : WH G s w H locs) {y : MethodName} {bytes : ByteArray} {maxL d k z n index : Nat} {As : List Value} {S : Type} {rt : FieldType} {post : Int32 → S → Prop} {Wf : S → va_W} {b : Nat} {fs : List Value} (hM : MI l G y bytes maxL rt d k z (.ref b :: As) w post Wf) (hyc : y.cls = RJ5) (hno : y.name ≠ "<init>") (ml : Cond.methodLink RJ4 index y ∈ LW) (yf : YfU y bytes maxL (some rt) n) (q0 : Nat) (he : w[q0]? = some (b, .inr (1, fs))) (hn : As.length = n) (hst : st = As.reverse ++ .ref b :: rest) (hR : d + 1 ≤ R.frames ∧ 8 + (maxL + 11) + 64 * d ≤ R.locals) (hf : cells + k ≤ R.cells ∧ slots + z ≤ R.slots) (hsz : ls.size = nL) (hrest : (rest.map fun v => v.category).sum ≤ 8) (hdg : decode cc pc = .ok (.invokespecial index, 3))
    (kk : ∀ (r : Int32) (u : S) (H : Heap) (locs : List Loc), post r u → WH G s (Wf u) H locs → W p l e R s m args below meth c H locs (cells + k) (slots + z) Q (F0 m (pc + 3) ls (.int r :: rest))) : W p l e R s m args below meth c H locs cells slots Q (F0 m pc ls st) :=
  va_calli (va_runSU (As := As) (rest := rest) (n := n) (C.K.1 1 _ rfl).2 ⟨C.1, C.2.1, C.2.2.2.1, C.2.2.2.2.1, C.2.2.2.2.2.1⟩ hM (C.cSU hyc hno ml yf hR) ⟨Inv.blind, va_recv C.K hw.2.2.1 (ci := 1) rfl he, fun U hU hW => ⟨rfl, hw.inv C hU hW⟩⟩ rfl hn hsz hst (lv_room hrest) hdg hf) hw.2.1 (fun q _ h => h) (fun q h => h) (fun r u t H1 locs1 ht hvm hp hB _ _ hS => kk r u H1 locs1 hp ⟨hw.1, hS, ht ▸ hB.2.2.1, hB.2.2.2⟩)
theorem r_uv (C : Cx l G own cc nL ret p s m meth c args) (hw : WH G s w H locs) {y : MethodName} {bytes : ByteArray} {maxL d k z n index : Nat} {As : List Value} {S : Type}  {post : S → Prop} {Wf : S → va_W} {b : Nat} {fs : List Value} (hM : MV l G y bytes maxL  d k z (.ref b :: As) w post Wf) (ml : Cond.methodLink own index y ∈ LW) (yf : YfU y bytes maxL none n) (hsel : (Cond.selects RJ4 y y).before args s = true) (q0 : Nat) (he : w[q0]? = some (b, .inr (1, fs))) (hn : As.length = n) (hst : st = As.reverse ++ .ref b :: rest) (hR : d + 1 ≤ R.frames ∧ 8 + (maxL + 11) + 64 * d ≤ R.locals) (hf : cells + k ≤ R.cells ∧ slots + z ≤ R.slots) (hsz : ls.size = nL) (hrest : (rest.map fun v => v.category).sum ≤ 8) (hdg : decode cc pc = .ok (.invokevirtual index, 3))
    (kk : ∀ (u : S) (H : Heap) (locs : List Loc), post u → WH G s (Wf u) H locs → W p l e R s m args below meth c H locs (cells + k) (slots + z) Q (F0 m (pc + 3) ls (rest))) : W p l e R s m args below meth c H locs cells slots Q (F0 m pc ls st) :=
  va_callv (va_runU (As := As) (rest := rest) (n := n) ⟨C.1, C.2.1, C.2.2.2.1, C.2.2.2.2.1, C.2.2.2.2.2.1⟩ hM (C.cU ml yf hsel hR) ⟨Inv.blind, va_recv C.K hw.2.2.1 (ci := 1) rfl he, fun U hU hW => ⟨rfl, hw.inv C hU hW⟩⟩ rfl hn hsz hst (lv_room hrest) hdg hf) hw.2.1 (fun q _ h => h) (fun q h => h) (fun u t H1 locs1 ht hvm hp hB _ _ hS => kk u H1 locs1 hp ⟨hw.1, hS, ht ▸ hB.2.2.1, hB.2.2.2⟩)
theorem r_suv (C : Cx l G RJ4 cc nL ret p s m meth c args) (hw : WH G s w H locs) {y : MethodName} {bytes : ByteArray} {maxL d k z n index : Nat} {As : List Value} {S : Type}  {post : S → Prop} {Wf : S → va_W} {b : Nat} {fs : List Value} (hM : MV l G y bytes maxL  d k z (.ref b :: As) w post Wf) (hyc : y.cls = RJ5) (hno : y.name ≠ "<init>") (ml : Cond.methodLink RJ4 index y ∈ LW) (yf : YfU y bytes maxL none n) (q0 : Nat) (he : w[q0]? = some (b, .inr (1, fs))) (hn : As.length = n) (hst : st = As.reverse ++ .ref b :: rest) (hR : d + 1 ≤ R.frames ∧ 8 + (maxL + 11) + 64 * d ≤ R.locals) (hf : cells + k ≤ R.cells ∧ slots + z ≤ R.slots) (hsz : ls.size = nL) (hrest : (rest.map fun v => v.category).sum ≤ 8) (hdg : decode cc pc = .ok (.invokespecial index, 3))
    (kk : ∀ (u : S) (H : Heap) (locs : List Loc), post u → WH G s (Wf u) H locs → W p l e R s m args below meth c H locs (cells + k) (slots + z) Q (F0 m (pc + 3) ls (rest))) : W p l e R s m args below meth c H locs cells slots Q (F0 m pc ls st) :=
  va_callv (va_runSU (As := As) (rest := rest) (n := n) (C.K.1 1 _ rfl).2 ⟨C.1, C.2.1, C.2.2.2.1, C.2.2.2.2.1, C.2.2.2.2.2.1⟩ hM (C.cSU hyc hno ml yf hR) ⟨Inv.blind, va_recv C.K hw.2.2.1 (ci := 1) rfl he, fun U hU hW => ⟨rfl, hw.inv C hU hW⟩⟩ rfl hn hsz hst (lv_room hrest) hdg hf) hw.2.1 (fun q _ h => h) (fun q h => h) (fun u t H1 locs1 ht hvm hp hB _ _ hS => kk u H1 locs1 hp ⟨hw.1, hS, ht ▸ hB.2.2.1, hB.2.2.2⟩)
theorem r_ur (C : Cx l G own cc nL ret p s m meth c args) (hw : WH G s w H locs) {y : MethodName} {bytes : ByteArray} {maxL d k z n index : Nat} {As : List Value} {S : Type} {rt : FieldType} {post : S → Prop} {Wf : S → Nat → va_W} {b : Nat} {fs : List Value} (hM : MR l G y bytes maxL rt d k z (.ref b :: As) w post Wf) (ml : Cond.methodLink own index y ∈ LW) (yf : YfU y bytes maxL (some rt) n) (hsel : (Cond.selects RJ4 y y).before args s = true) (q0 : Nat) (he : w[q0]? = some (b, .inr (1, fs))) (hn : As.length = n) (hst : st = As.reverse ++ .ref b :: rest) (hR : d + 1 ≤ R.frames ∧ 8 + (maxL + 11) + 64 * d ≤ R.locals) (hf : cells + k ≤ R.cells ∧ slots + z ≤ R.slots) (hsz : ls.size = nL) (hrest : (rest.map fun v => v.category).sum ≤ 8) (hdg : decode cc pc = .ok (.invokevirtual index, 3))
    (kk : ∀ (u : S) (ra : Nat) (H : Heap) (locs : List Loc), post u → WH G s (Wf u ra) H locs → W p l e R s m args below meth c H locs (cells + k) (slots + z) Q (F0 m (pc + 3) ls (.ref ra :: rest))) : W p l e R s m args below meth c H locs cells slots Q (F0 m pc ls st) :=
  va_callr (va_runU (As := As) (rest := rest) (n := n) ⟨C.1, C.2.1, C.2.2.2.1, C.2.2.2.2.1, C.2.2.2.2.2.1⟩ hM (C.cU ml yf hsel hR) ⟨Inv.blind, va_recv C.K hw.2.2.1 (ci := 1) rfl he, fun U hU hW => ⟨rfl, hw.inv C hU hW⟩⟩ rfl hn hsz hst (lv_room hrest) hdg hf) hw.2.1 (fun q _ h => h) (fun q h => h) (fun u ra t H1 locs1 ht hvm hp hB _ _ hS => kk u ra H1 locs1 hp ⟨hw.1, hS, ht ▸ hB.2.2.1, hB.2.2.2⟩)
theorem r_sur (C : Cx l G RJ4 cc nL ret p s m meth c args) (hw : WH G s w H locs) {y : MethodName} {bytes : ByteArray} {maxL d k z n index : Nat} {As : List Value} {S : Type} {rt : FieldType} {post : S → Prop} {Wf : S → Nat → va_W} {b : Nat} {fs : List Value} (hM : MR l G y bytes maxL rt d k z (.ref b :: As) w post Wf) (hyc : y.cls = RJ5) (hno : y.name ≠ "<init>") (ml : Cond.methodLink RJ4 index y ∈ LW) (yf : YfU y bytes maxL (some rt) n) (q0 : Nat) (he : w[q0]? = some (b, .inr (1, fs))) (hn : As.length = n) (hst : st = As.reverse ++ .ref b :: rest) (hR : d + 1 ≤ R.frames ∧ 8 + (maxL + 11) + 64 * d ≤ R.locals) (hf : cells + k ≤ R.cells ∧ slots + z ≤ R.slots) (hsz : ls.size = nL) (hrest : (rest.map fun v => v.category).sum ≤ 8) (hdg : decode cc pc = .ok (.invokespecial index, 3))
    (kk : ∀ (u : S) (ra : Nat) (H : Heap) (locs : List Loc), post u → WH G s (Wf u ra) H locs → W p l e R s m args below meth c H locs (cells + k) (slots + z) Q (F0 m (pc + 3) ls (.ref ra :: rest))) : W p l e R s m args below meth c H locs cells slots Q (F0 m pc ls st) :=
  va_callr (va_runSU (As := As) (rest := rest) (n := n) (C.K.1 1 _ rfl).2 ⟨C.1, C.2.1, C.2.2.2.1, C.2.2.2.2.1, C.2.2.2.2.2.1⟩ hM (C.cSU hyc hno ml yf hR) ⟨Inv.blind, va_recv C.K hw.2.2.1 (ci := 1) rfl he, fun U hU hW => ⟨rfl, hw.inv C hU hW⟩⟩ rfl hn hsz hst (lv_room hrest) hdg hf) hw.2.1 (fun q _ h => h) (fun q h => h) (fun u ra t H1 locs1 ht hvm hp hB _ _ hS => kk u ra H1 locs1 hp ⟨hw.1, hS, ht ▸ hB.2.2.1, hB.2.2.2⟩)
set_option maxHeartbeats 4000000 in
set_option maxRecDepth 100000 in
theorem SF.digitones {l : Launch} {G : Gx} (hF : SF l G) : ∃ t, va_Z "java/lang/Integer" "DigitOnes" "[B" (.ref t) (gA G) G.2.1 G.2.1.heap ∧ va_T .byte t 100 (fun j => .int (nI (48 + j % 10))) (gA G) G.2.1 G.2.1.heap := by
  obtain ⟨b, hb, hn⟩ := hF.2.2.2.2
  have hs := flat_of_before _ hn
  obtain ⟨t, ht, hT⟩ := va_Tof (args := #[Value.ref b]) (s := G.2.1) (tm := (Jvm.Term.static "java/lang/Integer" "DigitOnes" "[B")) (ty := .byte) (N := 100) (f := fun j => .int (nI (48 + j % 10))) (by decide) (hs _ (List.mem_of_getElem? (i := 46) rfl)) (va_eqt (hs _ (List.mem_of_getElem? (i := 47) rfl))) (fun j hj => by
    match j, hj with
    | 0, _ => exact va_eqt (hs _ (List.mem_of_getElem? (i := 48) rfl))
    | 1, _ => exact va_eqt (hs _ (List.mem_of_getElem? (i := 49) rfl))
    | 2, _ => exact va_eqt (hs _ (List.mem_of_getElem? (i := 50) rfl))
    | 3, _ => exact va_eqt (hs _ (List.mem_of_getElem? (i := 51) rfl))
    | 4, _ => exact va_eqt (hs _ (List.mem_of_getElem? (i := 52) rfl))
    | 5, _ => exact va_eqt (hs _ (List.mem_of_getElem? (i := 53) rfl))
    | 6, _ => exact va_eqt (hs _ (List.mem_of_getElem? (i := 54) rfl))
    | 7, _ => exact va_eqt (hs _ (List.mem_of_getElem? (i := 55) rfl))
    | 8, _ => exact va_eqt (hs _ (List.mem_of_getElem? (i := 56) rfl))
    | 9, _ => exact va_eqt (hs _ (List.mem_of_getElem? (i := 57) rfl))
    | 10, _ => exact va_eqt (hs _ (List.mem_of_getElem? (i := 58) rfl))
    | 11, _ => exact va_eqt (hs _ (List.mem_of_getElem? (i := 59) rfl))
    | 12, _ => exact va_eqt (hs _ (List.mem_of_getElem? (i := 60) rfl))
    | 13, _ => exact va_eqt (hs _ (List.mem_of_getElem? (i := 61) rfl))
    | 14, _ => exact va_eqt (hs _ (List.mem_of_getElem? (i := 62) rfl))
    | 15, _ => exact va_eqt (hs _ (List.mem_of_getElem? (i := 63) rfl))
    | 16, _ => exact va_eqt (hs _ (List.mem_of_getElem? (i := 64) rfl))
    | 17, _ => exact va_eqt (hs _ (List.mem_of_getElem? (i := 65) rfl))
    | 18, _ => exact va_eqt (hs _ (List.mem_of_getElem? (i := 66) rfl))
    | 19, _ => exact va_eqt (hs _ (List.mem_of_getElem? (i := 67) rfl))
    | 20, _ => exact va_eqt (hs _ (List.mem_of_getElem? (i := 68) rfl))
    | 21, _ => exact va_eqt (hs _ (List.mem_of_getElem? (i := 69) rfl))
    | 22, _ => exact va_eqt (hs _ (List.mem_of_getElem? (i := 70) rfl))
    | 23, _ => exact va_eqt (hs _ (List.mem_of_getElem? (i := 71) rfl))
    | 24, _ => exact va_eqt (hs _ (List.mem_of_getElem? (i := 72) rfl))
    | 25, _ => exact va_eqt (hs _ (List.mem_of_getElem? (i := 73) rfl))
    | 26, _ => exact va_eqt (hs _ (List.mem_of_getElem? (i := 74) rfl))
    | 27, _ => exact va_eqt (hs _ (List.mem_of_getElem? (i := 75) rfl))
    | 28, _ => exact va_eqt (hs _ (List.mem_of_getElem? (i := 76) rfl))
    | 29, _ => exact va_eqt (hs _ (List.mem_of_getElem? (i := 77) rfl))
    | 30, _ => exact va_eqt (hs _ (List.mem_of_getElem? (i := 78) rfl))
    | 31, _ => exact va_eqt (hs _ (List.mem_of_getElem? (i := 79) rfl))
    | 32, _ => exact va_eqt (hs _ (List.mem_of_getElem? (i := 80) rfl))
    | 33, _ => exact va_eqt (hs _ (List.mem_of_getElem? (i := 81) rfl))
    | 34, _ => exact va_eqt (hs _ (List.mem_of_getElem? (i := 82) rfl))
    | 35, _ => exact va_eqt (hs _ (List.mem_of_getElem? (i := 83) rfl))
    | 36, _ => exact va_eqt (hs _ (List.mem_of_getElem? (i := 84) rfl))
    | 37, _ => exact va_eqt (hs _ (List.mem_of_getElem? (i := 85) rfl))
    | 38, _ => exact va_eqt (hs _ (List.mem_of_getElem? (i := 86) rfl))
    | 39, _ => exact va_eqt (hs _ (List.mem_of_getElem? (i := 87) rfl))
    | 40, _ => exact va_eqt (hs _ (List.mem_of_getElem? (i := 88) rfl))
    | 41, _ => exact va_eqt (hs _ (List.mem_of_getElem? (i := 89) rfl))
    | 42, _ => exact va_eqt (hs _ (List.mem_of_getElem? (i := 90) rfl))
    | 43, _ => exact va_eqt (hs _ (List.mem_of_getElem? (i := 91) rfl))
    | 44, _ => exact va_eqt (hs _ (List.mem_of_getElem? (i := 92) rfl))
    | 45, _ => exact va_eqt (hs _ (List.mem_of_getElem? (i := 93) rfl))
    | 46, _ => exact va_eqt (hs _ (List.mem_of_getElem? (i := 94) rfl))
    | 47, _ => exact va_eqt (hs _ (List.mem_of_getElem? (i := 95) rfl))
    | 48, _ => exact va_eqt (hs _ (List.mem_of_getElem? (i := 96) rfl))
    | 49, _ => exact va_eqt (hs _ (List.mem_of_getElem? (i := 97) rfl))
    | 50, _ => exact va_eqt (hs _ (List.mem_of_getElem? (i := 98) rfl))
    | 51, _ => exact va_eqt (hs _ (List.mem_of_getElem? (i := 99) rfl))
    | 52, _ => exact va_eqt (hs _ (List.mem_of_getElem? (i := 100) rfl))
    | 53, _ => exact va_eqt (hs _ (List.mem_of_getElem? (i := 101) rfl))
    | 54, _ => exact va_eqt (hs _ (List.mem_of_getElem? (i := 102) rfl))
    | 55, _ => exact va_eqt (hs _ (List.mem_of_getElem? (i := 103) rfl))
    | 56, _ => exact va_eqt (hs _ (List.mem_of_getElem? (i := 104) rfl))
    | 57, _ => exact va_eqt (hs _ (List.mem_of_getElem? (i := 105) rfl))
    | 58, _ => exact va_eqt (hs _ (List.mem_of_getElem? (i := 106) rfl))
    | 59, _ => exact va_eqt (hs _ (List.mem_of_getElem? (i := 107) rfl))
    | 60, _ => exact va_eqt (hs _ (List.mem_of_getElem? (i := 108) rfl))
    | 61, _ => exact va_eqt (hs _ (List.mem_of_getElem? (i := 109) rfl))
    | 62, _ => exact va_eqt (hs _ (List.mem_of_getElem? (i := 110) rfl))
    | 63, _ => exact va_eqt (hs _ (List.mem_of_getElem? (i := 111) rfl))
    | 64, _ => exact va_eqt (hs _ (List.mem_of_getElem? (i := 112) rfl))
    | 65, _ => exact va_eqt (hs _ (List.mem_of_getElem? (i := 113) rfl))
    | 66, _ => exact va_eqt (hs _ (List.mem_of_getElem? (i := 114) rfl))
    | 67, _ => exact va_eqt (hs _ (List.mem_of_getElem? (i := 115) rfl))
    | 68, _ => exact va_eqt (hs _ (List.mem_of_getElem? (i := 116) rfl))
    | 69, _ => exact va_eqt (hs _ (List.mem_of_getElem? (i := 117) rfl))
    | 70, _ => exact va_eqt (hs _ (List.mem_of_getElem? (i := 118) rfl))
    | 71, _ => exact va_eqt (hs _ (List.mem_of_getElem? (i := 119) rfl))
    | 72, _ => exact va_eqt (hs _ (List.mem_of_getElem? (i := 120) rfl))
    | 73, _ => exact va_eqt (hs _ (List.mem_of_getElem? (i := 121) rfl))
    | 74, _ => exact va_eqt (hs _ (List.mem_of_getElem? (i := 122) rfl))
    | 75, _ => exact va_eqt (hs _ (List.mem_of_getElem? (i := 123) rfl))
    | 76, _ => exact va_eqt (hs _ (List.mem_of_getElem? (i := 124) rfl))
    | 77, _ => exact va_eqt (hs _ (List.mem_of_getElem? (i := 125) rfl))
    | 78, _ => exact va_eqt (hs _ (List.mem_of_getElem? (i := 126) rfl))
    | 79, _ => exact va_eqt (hs _ (List.mem_of_getElem? (i := 127) rfl))
    | 80, _ => exact va_eqt (hs _ (List.mem_of_getElem? (i := 128) rfl))
    | 81, _ => exact va_eqt (hs _ (List.mem_of_getElem? (i := 129) rfl))
    | 82, _ => exact va_eqt (hs _ (List.mem_of_getElem? (i := 130) rfl))
    | 83, _ => exact va_eqt (hs _ (List.mem_of_getElem? (i := 131) rfl))
    | 84, _ => exact va_eqt (hs _ (List.mem_of_getElem? (i := 132) rfl))
    | 85, _ => exact va_eqt (hs _ (List.mem_of_getElem? (i := 133) rfl))
    | 86, _ => exact va_eqt (hs _ (List.mem_of_getElem? (i := 134) rfl))
    | 87, _ => exact va_eqt (hs _ (List.mem_of_getElem? (i := 135) rfl))
    | 88, _ => exact va_eqt (hs _ (List.mem_of_getElem? (i := 136) rfl))
    | 89, _ => exact va_eqt (hs _ (List.mem_of_getElem? (i := 137) rfl))
    | 90, _ => exact va_eqt (hs _ (List.mem_of_getElem? (i := 138) rfl))
    | 91, _ => exact va_eqt (hs _ (List.mem_of_getElem? (i := 139) rfl))
    | 92, _ => exact va_eqt (hs _ (List.mem_of_getElem? (i := 140) rfl))
    | 93, _ => exact va_eqt (hs _ (List.mem_of_getElem? (i := 141) rfl))
    | 94, _ => exact va_eqt (hs _ (List.mem_of_getElem? (i := 142) rfl))
    | 95, _ => exact va_eqt (hs _ (List.mem_of_getElem? (i := 143) rfl))
    | 96, _ => exact va_eqt (hs _ (List.mem_of_getElem? (i := 144) rfl))
    | 97, _ => exact va_eqt (hs _ (List.mem_of_getElem? (i := 145) rfl))
    | 98, _ => exact va_eqt (hs _ (List.mem_of_getElem? (i := 146) rfl))
    | 99, _ => exact va_eqt (hs _ (List.mem_of_getElem? (i := 147) rfl))
    | j + 100, hj => exact absurd hj (by omega)) (gA_no G)
  exact ⟨t, va_Zof (hb _ (tb5 _ (List.mem_of_getElem? (i := 174) rfl))) (hb _ (LW_in _ ini_J6)) ht (gA_no G), hT⟩
set_option maxHeartbeats 4000000 in
set_option maxRecDepth 100000 in
theorem SF.digittens {l : Launch} {G : Gx} (hF : SF l G) : ∃ t, va_Z "java/lang/Integer" "DigitTens" "[B" (.ref t) (gA G) G.2.1 G.2.1.heap ∧ va_T .byte t 100 (fun j => .int (nI (48 + j / 10))) (gA G) G.2.1 G.2.1.heap := by
  obtain ⟨b, hb, hn⟩ := hF.2.2.2.2
  have hs := flat_of_before _ hn
  obtain ⟨t, ht, hT⟩ := va_Tof (args := #[Value.ref b]) (s := G.2.1) (tm := (Jvm.Term.static "java/lang/Integer" "DigitTens" "[B")) (ty := .byte) (N := 100) (f := fun j => .int (nI (48 + j / 10))) (by decide) (hs _ (List.mem_of_getElem? (i := 149) rfl)) (va_eqt (hs _ (List.mem_of_getElem? (i := 150) rfl))) (fun j hj => by
    match j, hj with
    | 0, _ => exact va_eqt (hs _ (List.mem_of_getElem? (i := 151) rfl))
    | 1, _ => exact va_eqt (hs _ (List.mem_of_getElem? (i := 152) rfl))
    | 2, _ => exact va_eqt (hs _ (List.mem_of_getElem? (i := 153) rfl))
    | 3, _ => exact va_eqt (hs _ (List.mem_of_getElem? (i := 154) rfl))
    | 4, _ => exact va_eqt (hs _ (List.mem_of_getElem? (i := 155) rfl))
    | 5, _ => exact va_eqt (hs _ (List.mem_of_getElem? (i := 156) rfl))
    | 6, _ => exact va_eqt (hs _ (List.mem_of_getElem? (i := 157) rfl))
    | 7, _ => exact va_eqt (hs _ (List.mem_of_getElem? (i := 158) rfl))
    | 8, _ => exact va_eqt (hs _ (List.mem_of_getElem? (i := 159) rfl))
    | 9, _ => exact va_eqt (hs _ (List.mem_of_getElem? (i := 160) rfl))
    | 10, _ => exact va_eqt (hs _ (List.mem_of_getElem? (i := 161) rfl))
    | 11, _ => exact va_eqt (hs _ (List.mem_of_getElem? (i := 162) rfl))
    | 12, _ => exact va_eqt (hs _ (List.mem_of_getElem? (i := 163) rfl))
    | 13, _ => exact va_eqt (hs _ (List.mem_of_getElem? (i := 164) rfl))
    | 14, _ => exact va_eqt (hs _ (List.mem_of_getElem? (i := 165) rfl))
    | 15, _ => exact va_eqt (hs _ (List.mem_of_getElem? (i := 166) rfl))
    | 16, _ => exact va_eqt (hs _ (List.mem_of_getElem? (i := 167) rfl))
    | 17, _ => exact va_eqt (hs _ (List.mem_of_getElem? (i := 168) rfl))
    | 18, _ => exact va_eqt (hs _ (List.mem_of_getElem? (i := 169) rfl))
    | 19, _ => exact va_eqt (hs _ (List.mem_of_getElem? (i := 170) rfl))
    | 20, _ => exact va_eqt (hs _ (List.mem_of_getElem? (i := 171) rfl))
    | 21, _ => exact va_eqt (hs _ (List.mem_of_getElem? (i := 172) rfl))
    | 22, _ => exact va_eqt (hs _ (List.mem_of_getElem? (i := 173) rfl))
    | 23, _ => exact va_eqt (hs _ (List.mem_of_getElem? (i := 174) rfl))
    | 24, _ => exact va_eqt (hs _ (List.mem_of_getElem? (i := 175) rfl))
    | 25, _ => exact va_eqt (hs _ (List.mem_of_getElem? (i := 176) rfl))
    | 26, _ => exact va_eqt (hs _ (List.mem_of_getElem? (i := 177) rfl))
    | 27, _ => exact va_eqt (hs _ (List.mem_of_getElem? (i := 178) rfl))
    | 28, _ => exact va_eqt (hs _ (List.mem_of_getElem? (i := 179) rfl))
    | 29, _ => exact va_eqt (hs _ (List.mem_of_getElem? (i := 180) rfl))
    | 30, _ => exact va_eqt (hs _ (List.mem_of_getElem? (i := 181) rfl))
    | 31, _ => exact va_eqt (hs _ (List.mem_of_getElem? (i := 182) rfl))
    | 32, _ => exact va_eqt (hs _ (List.mem_of_getElem? (i := 183) rfl))
    | 33, _ => exact va_eqt (hs _ (List.mem_of_getElem? (i := 184) rfl))
    | 34, _ => exact va_eqt (hs _ (List.mem_of_getElem? (i := 185) rfl))
    | 35, _ => exact va_eqt (hs _ (List.mem_of_getElem? (i := 186) rfl))
    | 36, _ => exact va_eqt (hs _ (List.mem_of_getElem? (i := 187) rfl))
    | 37, _ => exact va_eqt (hs _ (List.mem_of_getElem? (i := 188) rfl))
    | 38, _ => exact va_eqt (hs _ (List.mem_of_getElem? (i := 189) rfl))
    | 39, _ => exact va_eqt (hs _ (List.mem_of_getElem? (i := 190) rfl))
    | 40, _ => exact va_eqt (hs _ (List.mem_of_getElem? (i := 191) rfl))
    | 41, _ => exact va_eqt (hs _ (List.mem_of_getElem? (i := 192) rfl))
    | 42, _ => exact va_eqt (hs _ (List.mem_of_getElem? (i := 193) rfl))
    | 43, _ => exact va_eqt (hs _ (List.mem_of_getElem? (i := 194) rfl))
    | 44, _ => exact va_eqt (hs _ (List.mem_of_getElem? (i := 195) rfl))
    | 45, _ => exact va_eqt (hs _ (List.mem_of_getElem? (i := 196) rfl))
    | 46, _ => exact va_eqt (hs _ (List.mem_of_getElem? (i := 197) rfl))
    | 47, _ => exact va_eqt (hs _ (List.mem_of_getElem? (i := 198) rfl))
    | 48, _ => exact va_eqt (hs _ (List.mem_of_getElem? (i := 199) rfl))
    | 49, _ => exact va_eqt (hs _ (List.mem_of_getElem? (i := 200) rfl))
    | 50, _ => exact va_eqt (hs _ (List.mem_of_getElem? (i := 201) rfl))
    | 51, _ => exact va_eqt (hs _ (List.mem_of_getElem? (i := 202) rfl))
    | 52, _ => exact va_eqt (hs _ (List.mem_of_getElem? (i := 203) rfl))
    | 53, _ => exact va_eqt (hs _ (List.mem_of_getElem? (i := 204) rfl))
    | 54, _ => exact va_eqt (hs _ (List.mem_of_getElem? (i := 205) rfl))
    | 55, _ => exact va_eqt (hs _ (List.mem_of_getElem? (i := 206) rfl))
    | 56, _ => exact va_eqt (hs _ (List.mem_of_getElem? (i := 207) rfl))
    | 57, _ => exact va_eqt (hs _ (List.mem_of_getElem? (i := 208) rfl))
    | 58, _ => exact va_eqt (hs _ (List.mem_of_getElem? (i := 209) rfl))
    | 59, _ => exact va_eqt (hs _ (List.mem_of_getElem? (i := 210) rfl))
    | 60, _ => exact va_eqt (hs _ (List.mem_of_getElem? (i := 211) rfl))
    | 61, _ => exact va_eqt (hs _ (List.mem_of_getElem? (i := 212) rfl))
    | 62, _ => exact va_eqt (hs _ (List.mem_of_getElem? (i := 213) rfl))
    | 63, _ => exact va_eqt (hs _ (List.mem_of_getElem? (i := 214) rfl))
    | 64, _ => exact va_eqt (hs _ (List.mem_of_getElem? (i := 215) rfl))
    | 65, _ => exact va_eqt (hs _ (List.mem_of_getElem? (i := 216) rfl))
    | 66, _ => exact va_eqt (hs _ (List.mem_of_getElem? (i := 217) rfl))
    | 67, _ => exact va_eqt (hs _ (List.mem_of_getElem? (i := 218) rfl))
    | 68, _ => exact va_eqt (hs _ (List.mem_of_getElem? (i := 219) rfl))
    | 69, _ => exact va_eqt (hs _ (List.mem_of_getElem? (i := 220) rfl))
    | 70, _ => exact va_eqt (hs _ (List.mem_of_getElem? (i := 221) rfl))
    | 71, _ => exact va_eqt (hs _ (List.mem_of_getElem? (i := 222) rfl))
    | 72, _ => exact va_eqt (hs _ (List.mem_of_getElem? (i := 223) rfl))
    | 73, _ => exact va_eqt (hs _ (List.mem_of_getElem? (i := 224) rfl))
    | 74, _ => exact va_eqt (hs _ (List.mem_of_getElem? (i := 225) rfl))
    | 75, _ => exact va_eqt (hs _ (List.mem_of_getElem? (i := 226) rfl))
    | 76, _ => exact va_eqt (hs _ (List.mem_of_getElem? (i := 227) rfl))
    | 77, _ => exact va_eqt (hs _ (List.mem_of_getElem? (i := 228) rfl))
    | 78, _ => exact va_eqt (hs _ (List.mem_of_getElem? (i := 229) rfl))
    | 79, _ => exact va_eqt (hs _ (List.mem_of_getElem? (i := 230) rfl))
    | 80, _ => exact va_eqt (hs _ (List.mem_of_getElem? (i := 231) rfl))
    | 81, _ => exact va_eqt (hs _ (List.mem_of_getElem? (i := 232) rfl))
    | 82, _ => exact va_eqt (hs _ (List.mem_of_getElem? (i := 233) rfl))
    | 83, _ => exact va_eqt (hs _ (List.mem_of_getElem? (i := 234) rfl))
    | 84, _ => exact va_eqt (hs _ (List.mem_of_getElem? (i := 235) rfl))
    | 85, _ => exact va_eqt (hs _ (List.mem_of_getElem? (i := 236) rfl))
    | 86, _ => exact va_eqt (hs _ (List.mem_of_getElem? (i := 237) rfl))
    | 87, _ => exact va_eqt (hs _ (List.mem_of_getElem? (i := 238) rfl))
    | 88, _ => exact va_eqt (hs _ (List.mem_of_getElem? (i := 239) rfl))
    | 89, _ => exact va_eqt (hs _ (List.mem_of_getElem? (i := 240) rfl))
    | 90, _ => exact va_eqt (hs _ (List.mem_of_getElem? (i := 241) rfl))
    | 91, _ => exact va_eqt (hs _ (List.mem_of_getElem? (i := 242) rfl))
    | 92, _ => exact va_eqt (hs _ (List.mem_of_getElem? (i := 243) rfl))
    | 93, _ => exact va_eqt (hs _ (List.mem_of_getElem? (i := 244) rfl))
    | 94, _ => exact va_eqt (hs _ (List.mem_of_getElem? (i := 245) rfl))
    | 95, _ => exact va_eqt (hs _ (List.mem_of_getElem? (i := 246) rfl))
    | 96, _ => exact va_eqt (hs _ (List.mem_of_getElem? (i := 247) rfl))
    | 97, _ => exact va_eqt (hs _ (List.mem_of_getElem? (i := 248) rfl))
    | 98, _ => exact va_eqt (hs _ (List.mem_of_getElem? (i := 249) rfl))
    | 99, _ => exact va_eqt (hs _ (List.mem_of_getElem? (i := 250) rfl))
    | j + 100, hj => exact absurd hj (by omega)) (gA_no G)
  exact ⟨t, va_Zof (hb _ (tb5 _ (List.mem_of_getElem? (i := 176) rfl))) (hb _ (LW_in _ ini_J6)) ht (gA_no G), hT⟩
theorem r_dig (C : Cx l G own cc nL ret p s m meth c args) (hw : WH G s w H locs) {index t : Nat} {nm : String} (hZ : va_Z "java/lang/Integer" nm "[B" (.ref t) (gA G) G.2.1 G.2.1.heap) (hlink : Cond.fieldLink own index "java/lang/Integer" nm "[B" ∈ LW) (hdg : decode cc pc = .ok (.getstatic index, 3))
    (kk : W p l e R s m args below meth c H locs cells slots Q (F0 m (pc + 3) ls (.ref t :: rest))) : W p l e R s m args below meth c H locs cells slots Q (F0 m pc ls rest) := by
  obtain ⟨hx, hb, hr, hml, hown, hts, -, hW, hF⟩ := id C
  exact va_gets hx hb ((hZ.moved hW.alike).kept (H1 := s.heap) hw.1.2) hw.2.1 hown (hts _ hlink) (fun _ h => h) hdg kk
end UROWS
