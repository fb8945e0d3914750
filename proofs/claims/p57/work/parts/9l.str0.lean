/-! Texts, of the start or made since: rows -/
theorem yf_J5_append_cf1ce : YfU yJ5_append_cf1ce cJ5_append_cf1ce 3 (some (.object "java/lang/AbstractStringBuilder")) 1 := ⟨⟨lwm (tb5 _ (List.mem_of_getElem? (i := 215) rfl)) rfl, lwm (tb1 _ (List.mem_of_getElem? (i := 10) rfl)) rfl, lwm (tb5 _ (List.mem_of_getElem? (i := 216) rfl)) rfl, lwm (tb7 _ (List.mem_of_getElem? (i := 140) rfl)) rfl⟩, by decide +kernel⟩
theorem yf_J5_getValue_6d5f1 : YfU yJ5_getValue_6d5f1 cJ5_getValue_6d5f1 1 (some (.array .byte)) 0 := ⟨⟨lwm (tb6 _ (List.mem_of_getElem? (i := 41) rfl)) rfl, lwm (tb1 _ (List.mem_of_getElem? (i := 10) rfl)) rfl, lwm (tb6 _ (List.mem_of_getElem? (i := 44) rfl)) rfl, lwm (tb6 _ (List.mem_of_getElem? (i := 42) rfl)) rfl⟩, by decide +kernel⟩
theorem yf_J5_inflateIfNeededFor_a7421 : YfU yJ5_inflateIfNeededFor_a7421 cJ5_inflateIfNeededFor_a7421 2 none 1 := ⟨⟨lwm (tb5 _ (List.mem_of_getElem? (i := 239) rfl)) rfl, lwm (tb1 _ (List.mem_of_getElem? (i := 10) rfl)) rfl, lwm (tb6 _ (List.mem_of_getElem? (i := 0) rfl)) rfl, lwm (tb7 _ (List.mem_of_getElem? (i := 143) rfl)) rfl⟩, by decide +kernel⟩
theorem pv_J5_inflateIfNeededFor_a7421 : Cond.privateMethod yJ5_inflateIfNeededFor_a7421 ∈ lw_tbl := tb5 _ (List.mem_of_getElem? (i := 238) rfl)
theorem yf_J5_putStringAt_47b60 : YfU yJ5_putStringAt_47b60 cJ5_putStringAt_47b60 3 none 2 := ⟨⟨lwm (tb5 _ (List.mem_of_getElem? (i := 235) rfl)) rfl, lwm (tb1 _ (List.mem_of_getElem? (i := 10) rfl)) rfl, lwm (tb5 _ (List.mem_of_getElem? (i := 236) rfl)) rfl, lwm (tb7 _ (List.mem_of_getElem? (i := 142) rfl)) rfl⟩, by decide +kernel⟩
theorem pv_J5_putStringAt_47b60 : Cond.privateMethod yJ5_putStringAt_47b60 ∈ lw_tbl := tb5 _ (List.mem_of_getElem? (i := 234) rfl)
theorem sel_gv : Cond.selects RJ4 yJ5_getValue_6d5f1 yJ5_getValue_6d5f1 ∈ LW := lwm (tb6 _ (List.mem_of_getElem? (i := 43) rfl)) rfl
def TxV (G : Gx) (v : Nat) (L : List Int32) (X : va_W) : Prop := va_T .byte v L.length (fun j => .int (L.getD j 0)) (gA G) G.2.1 G.2.1.heap ∨ ∃ (f : Nat → Int32) (q : Nat), X[q]? = some (v, .inl (G.2.2.1 1, L.length, .inl f)) ∧ ∀ j, j < L.length → f j = L.getD j 0
/-- the text of the bytes L stands at a, since the start or in the world X -/
def Txt (G : Gx) (a : Nat) (L : List Int32) (X : va_W) : Prop := StrAt G a L ∨ ∃ (v q : Nat), X[q]? = some (a, .inr (0, [.ref v, .int 0, .int 0, .int 0])) ∧ TxV G v L X
theorem at_app {P X : va_W} {q : Nat} {x : Nat × va_E} (h : X[q]? = some x) : (P ++ X)[P.length + q]? = some x := by
  rw [List.getElem?_append_right (by omega), show P.length + q - P.length = q by omega]
  exact h
theorem TxV.app {G : Gx} {v : Nat} {L : List Int32} {X : va_W} (h : TxV G v L X) (P : va_W) : TxV G v L (P ++ X) := by
  rcases h with h | ⟨f, q, e, g⟩
  · exact Or.inl h
  · exact Or.inr ⟨f, P.length + q, at_app e, g⟩
theorem Txt.app {G : Gx} {a : Nat} {L : List Int32} {X : va_W} (h : Txt G a L X) (P : va_W) : Txt G a L (P ++ X) := by
  rcases h with h | ⟨v, q, e, g⟩
  · exact Or.inl h
  · exact Or.inr ⟨v, P.length + q, at_app e, g.app P⟩
theorem TxV.perm {G : Gx} {v : Nat} {L : List Int32} {X Z : va_W} (h : TxV G v L X) (p : List.Perm X Z) : TxV G v L Z := by
  rcases h with h | ⟨f, q, e, g⟩
  · exact Or.inl h
  · obtain ⟨k, hk⟩ := List.mem_iff_getElem?.mp (p.mem_iff.mp (List.mem_iff_getElem?.mpr ⟨q, e⟩))
    exact Or.inr ⟨f, k, hk, g⟩
theorem Txt.perm {G : Gx} {a : Nat} {L : List Int32} {X Z : va_W} (h : Txt G a L X) (p : List.Perm X Z) : Txt G a L Z := by
  rcases h with h | ⟨v, q, e, g⟩
  · exact Or.inl h
  · obtain ⟨k, hk⟩ := List.mem_iff_getElem?.mp (p.mem_iff.mp (List.mem_iff_getElem?.mpr ⟨q, e⟩))
    exact Or.inr ⟨v, k, hk, g.perm p⟩
def bfit (L : List Int32) : Prop := ∀ j, j < L.length → fits .byte (.int (L.getD j 0)) = true
theorem cp_fit {g f : Nat → Int32} {dp n : Nat} (hg : ∀ j, j < n → fits .byte (.int (g j)) = true) (hf : sb_Fit f) : sb_Fit (va_cpy g f 0 dp n) := fun j => by
  by_cases h : dp ≤ j ∧ j < dp + n
  · rw [pk_cpy_in h.1 (by omega)]
    exact hg _ (by omega)
  · rw [pk_cpy_out (by omega)]
    exact hf j
section TROWS
variable {p : Program} {l : Launch} {e : Env} {R : Room} {s : State} {m : MethodId} {args : Array Value} {below : List Frame} {meth : Method} {c : Code} {H : Heap} {locs : List Loc} {cells slots : Nat} {Q : State → Prop}
variable {G : Gx} {own : String} {cc : ByteArray} {nL : Nat} {ret : Option FieldType} {pc : Nat} {ls : Array Slot} {rest st : List Value} {w X : va_W} {a : Nat} {L : List Int32}
theorem r_tcod (C : Cx l G own cc nL ret p s m meth c args) (hw : WH G s w H locs) (h : Txt G a L w) {index : Nat} (hlink : Cond.fieldLink own index "java/lang/String" "coder" "B" ∈ LW) (hdg : decode cc pc = .ok (.getfield index, 3))
    (kk : W p l e R s m args below meth c H locs cells slots Q (F0 m (pc + 3) ls (.int 0 :: rest))) : W p l e R s m args below meth c H locs cells slots Q (F0 m pc ls (.ref a :: rest)) := by
  rcases h with ⟨v, h1, h2, h3, h4⟩ | ⟨v, q, e1, -⟩
  · exact r_strf C hw h2 hlink hdg kk
  · exact r_get C hw q e1 rfl in_J0 1 (by decide) hlink rfl (v := .int 0) rfl hdg kk
theorem r_tval (C : Cx l G own cc nL ret p s m meth c args) (hw : WH G s w H locs) (h : Txt G a L w) {index : Nat} (hlink : Cond.fieldLink own index "java/lang/String" "value" "[B" ∈ LW) (hdg : decode cc pc = .ok (.getfield index, 3))
    (kk : ∀ v : Nat, TxV G v L w → W p l e R s m args below meth c H locs cells slots Q (F0 m (pc + 3) ls (.ref v :: rest))) : W p l e R s m args below meth c H locs cells slots Q (F0 m pc ls (.ref a :: rest)) := by
  rcases h with ⟨v, h1, h2, h3, h4⟩ | ⟨v, q, e1, hv⟩
  · exact r_strf C hw h3 hlink hdg (kk v (Or.inl h4))
  · exact r_get C hw q e1 rfl in_J0 0 (by decide) hlink rfl (v := .ref v) rfl hdg (kk v hv)
theorem r_tvl (C : Cx l G own cc nL ret p s m meth c args) (hw : WH G s w H locs) {v : Nat} (h : TxV G v L w) (hdg : decode cc pc = .ok (.arraylength, 1))
    (kk : W p l e R s m args below meth c H locs cells slots Q (F0 m (pc + 1) ls (.int (nI L.length) :: rest))) : W p l e R s m args below meth c H locs cells slots Q (F0 m pc ls (.ref v :: rest)) := by
  rcases h with h | ⟨f, q, e1, g⟩
  · exact r_tlen C hw h hdg kk
  · exact r_alen C hw 1 q e1 rfl hdg kk
theorem r_tvb (C : Cx l G own cc nL ret p s m meth c args) (hw : WH G s w H locs) {v i : Nat} (h : TxV G v L w) (hi : i < L.length) (hL : L.length < 2 ^ 31) (hdg : decode cc pc = .ok (.baload, 1))
    (kk : W p l e R s m args below meth c H locs cells slots Q (F0 m (pc + 1) ls (.int (L.getD i 0) :: rest))) : W p l e R s m args below meth c H locs cells slots Q (F0 m pc ls (.int (nI i) :: .ref v :: rest)) := by
  rcases h with h | ⟨f, q, e1, g⟩
  · exact r_tb C hw h hi hL hdg kk
  · refine r_bald C hw q e1 (vp_in_nI hi hL) hdg ?_
    rw [nI_clamp (by omega), g i hi]
    exact kk
theorem Txt.rc (C : Cx l G own cc nL ret p s m meth c args) (hw : WH G s w H locs) (h : Txt G a L w) : ∃ cell : Cell, H[a]? = some cell ∧ cell.vm.isStatics = false ∧ s.vm.findClass "java/lang/String" = some cell.cls := by
  rcases h with ⟨v, h1, h2, h3, h4⟩ | ⟨v, q, e1, -⟩
  · obtain ⟨hx, hb, hr, hml, hown, hts, -, hW, hF⟩ := id C
    obtain ⟨cell, h1, h2, h3, -⟩ := ((h1.moved hW.alike).kept (H1 := s.heap) hw.1.2).kept hw.2.1.2.1
    exact ⟨cell, h1, h2, h3⟩
  · exact va_recv C.K hw.2.2.1 (ci := 0) rfl e1
theorem r_Ti (C : Cx l G own cc nL ret p s m meth c args) (hw : WH G s w H locs) {y : MethodName} {bytes : ByteArray} {maxL d k z n index : Nat} {As : List Value} {S : Type} {rt : FieldType} {post : Int32 → S → Prop} {Wf : S → va_W} (hM : MI l G y bytes maxL rt d k z (.ref a :: As) w post Wf) (ml : Cond.methodLink own index y ∈ LW) (yf : YfV y bytes maxL (some rt) n) (hy : y.cls = "java/lang/String") (ht : Txt G a L w) (hn : As.length = n) (hst : st = As.reverse ++ .ref a :: rest) (hR : d + 1 ≤ R.frames ∧ 8 + (maxL + 11) + 64 * d ≤ R.locals) (hf : cells + k ≤ R.cells ∧ slots + z ≤ R.slots) (hsz : ls.size = nL) (hrest : (rest.map fun v => v.category).sum ≤ 8) (hdg : decode cc pc = .ok (.invokevirtual index, 3))
    (kk : ∀ (r : Int32) (u : S) (H : Heap) (locs : List Loc), post r u → WH G s (Wf u) H locs → W p l e R s m args below meth c H locs (cells + k) (slots + z) Q (F0 m (pc + 3) ls (.int r :: rest))) : W p l e R s m args below meth c H locs cells slots Q (F0 m pc ls st) :=
  va_calli (va_runV (As := As) (rest := rest) (n := n) ⟨C.1, C.2.1, C.2.2.2.1, C.2.2.2.2.1, C.2.2.2.2.2.1⟩ hM (cwV n C.2.2.2.2.2.1 (gi_V ml yf) rfl rfl rfl ⟨rfl, yf.2⟩ hR) ⟨Inv.blind, by rw [hy]; exact ht.rc C hw, fun U hU hW => ⟨rfl, hw.inv C hU hW⟩⟩ rfl hn hsz hst (lv_room hrest) hdg hf) hw.2.1 (fun q _ h => h) (fun q h => h) (fun r u t H1 locs1 ht hvm hp hB _ _ hS => kk r u H1 locs1 hp ⟨hw.1, hS, ht ▸ hB.2.2.1, hB.2.2.2⟩)
theorem r_Tv (C : Cx l G own cc nL ret p s m meth c args) (hw : WH G s w H locs) {y : MethodName} {bytes : ByteArray} {maxL d k z n index : Nat} {As : List Value} {S : Type}  {post : S → Prop} {Wf : S → va_W} (hM : MV l G y bytes maxL  d k z (.ref a :: As) w post Wf) (ml : Cond.methodLink own index y ∈ LW) (yf : YfV y bytes maxL none n) (hy : y.cls = "java/lang/String") (ht : Txt G a L w) (hn : As.length = n) (hst : st = As.reverse ++ .ref a :: rest) (hR : d + 1 ≤ R.frames ∧ 8 + (maxL + 11) + 64 * d ≤ R.locals) (hf : cells + k ≤ R.cells ∧ slots + z ≤ R.slots) (hsz : ls.size = nL) (hrest : (rest.map fun v => v.category).sum ≤ 8) (hdg : decode cc pc = .ok (.invokevirtual index, 3))
    (kk : ∀ (u : S) (H : Heap) (locs : List Loc), post u → WH G s (Wf u) H locs → W p l e R s m args below meth c H locs (cells + k) (slots + z) Q (F0 m (pc + 3) ls (rest))) : W p l e R s m args below meth c H locs cells slots Q (F0 m pc ls st) :=
  va_callv (va_runV (As := As) (rest := rest) (n := n) ⟨C.1, C.2.1, C.2.2.2.1, C.2.2.2.2.1, C.2.2.2.2.2.1⟩ hM (cwV n C.2.2.2.2.2.1 (gi_V ml yf) rfl rfl rfl ⟨rfl, yf.2⟩ hR) ⟨Inv.blind, by rw [hy]; exact ht.rc C hw, fun U hU hW => ⟨rfl, hw.inv C hU hW⟩⟩ rfl hn hsz hst (lv_room hrest) hdg hf) hw.2.1 (fun q _ h => h) (fun q h => h) (fun u t H1 locs1 ht hvm hp hB _ _ hS => kk u H1 locs1 hp ⟨hw.1, hS, ht ▸ hB.2.2.1, hB.2.2.2⟩)
theorem r_copyt (C : Cx l G own cc nL ret p s m meth c args) (hw : WH G s w H locs) {index : Nat} (ml : Cond.methodLink own index arraycopyName ∈ LW) {a0 n0 : Nat} {f : Nat → Int32} (hT : va_T .byte a0 n0 (fun j => .int (f j)) (gA G) G.2.1 G.2.1.heap) (q1 : Nat) {a1 n1 : Nat} {g : Nat → Int32} (he1 : w[q1]? = some (a1, .inl (G.2.2.1 1, n1, .inl g))) {sp dp k : Nat} (hb1 : sp + k ≤ n0) (hb2 : dp + k ≤ n1) (hn0 : n0 < 2 ^ 31) (hn1 : n1 < 2 ^ 31) (hfit : ∀ i, i < k → fits .byte (.int (f (sp + i))) = true) {w' : va_W} (hw' : w.set q1 (a1, .inl (G.2.2.1 1, n1, .inl (va_cpy f g sp dp k))) = w') (hsz : ls.size = nL) (hframes : 1 ≤ R.frames) (hlocals : (rest.map fun v => v.category).sum + (nativeFrameWords "java/lang/System" "arraycopy" 5 + 11) ≤ R.locals) (hdg : decode cc pc = .ok (.invokestatic index, 3))
    (kk : ∀ (H : Heap) (locs : List Loc), WH G s w' H locs → W p l e R s m args below meth c H locs cells slots Q (F0 m (pc + 3) ls rest)) : W p l e R s m args below meth c H locs cells slots Q (F0 m pc ls (.int (nI k) :: .int (nI dp) :: .ref a1 :: .int (nI sp) :: .ref a0 :: rest)) := by
  obtain ⟨hx, hb, hr, hml, hown, hts, -, hW, hF⟩ := id C
  have e1 : (nI sp).toNatClampNeg = sp := nI_clamp (by omega)
  have e2 : (nI dp).toNatClampNeg = dp := nI_clamp (by omega)
  have e3 : (nI k).toNatClampNeg = k := nI_clamp (by omega)
  refine vk_copyt (D := G.1) hx hb (by rw [hml]; exact hsz.symm) hown (hts _ ml) (hts _ acp_n) (hts _ acp_s) (hts _ ini_J10) C.K hw.2.2.1 hw.2.2.2 hw.2.1 ((hT.moved hW.alike).kept (H1 := s.heap) hw.1.2) q1 1 he1 rfl (nI_nneg (by omega)) (nI_nneg (by omega)) (nI_nneg (by omega)) (by rw [e1, e3]; exact hb1) (by rw [e2, e3]; exact hb2) (by rw [e1, e3]; exact hfit) hframes hlocals hdg ?_
  intro H1 locs1 hP hD hS
  rw [e1, e2, e3, hw'] at hP hD
  exact kk H1 locs1 ⟨hw.1, hS, hP, hD⟩
theorem r_tcpy (C : Cx l G own cc nL ret p s m meth c args) {b v cp : Nat} {f : Nat → Int32} {mb nn : Int32} (hw : WH G s (sbW G b v cp f mb nn ++ X) H locs) {index : Nat} (ml : Cond.methodLink own index arraycopyName ∈ LW) {tv : Nat} (hv : TxV G tv L (sbW G b v cp f mb nn ++ X)) (hL : bfit L) (hf : sb_Fit f) {dp : Nat} (hb2 : dp + L.length ≤ cp) (hcp : cp < 2 ^ 31) (hsz : ls.size = nL) (hframes : 1 ≤ R.frames) (hlocals : (rest.map fun v => v.category).sum + (nativeFrameWords "java/lang/System" "arraycopy" 5 + 11) ≤ R.locals) (hdg : decode cc pc = .ok (.invokestatic index, 3))
    (kk : ∀ (f' : Nat → Int32) (H : Heap) (locs : List Loc), sb_Fit f' → (∀ j, j < dp → f' j = f j) → (∀ i, i < L.length → f' (dp + i) = L.getD i 0) → WH G s (sbW G b v cp f' mb nn ++ X) H locs → W p l e R s m args below meth c H locs cells slots Q (F0 m (pc + 3) ls rest)) : W p l e R s m args below meth c H locs cells slots Q (F0 m pc ls (.int (nI L.length) :: .int (nI dp) :: .ref v :: .int 0 :: .ref tv :: rest)) := by
  rcases hv with hT | ⟨g, q, e, hg⟩
  · refine r_copyt C hw ml hT 1 rfl (sp := 0) (dp := dp) (k := L.length) (by omega) hb2 (by omega) hcp (fun i hi => by rw [Nat.zero_add]; exact hL i hi) (w' := sbW G b v cp (va_cpy (fun j => L.getD j 0) f 0 dp L.length) mb nn ++ X) rfl hsz hframes hlocals hdg (fun H locs hw => kk _ H locs (cp_fit hL hf) (fun j hj => pk_cpy_out (by omega)) (fun i hi => ?_) hw)
    rw [pk_cpy_in (by omega) (by omega), show 0 + (dp + i - dp) = i by omega]
  · refine r_copyi C hw ml q 1 1 e rfl (ty := .byte) rfl rfl (sp := 0) (dp := dp) (k := L.length) (by omega) hb2 (by omega) hcp (fun i hi => by rw [Nat.zero_add, hg i hi]; exact hL i hi) (w' := sbW G b v cp (va_cpy g f 0 dp L.length) mb nn ++ X) rfl hsz hframes hlocals hdg (fun H locs hw => kk _ H locs (cp_fit (fun j hj => by rw [hg j hj]; exact hL j hj) hf) (fun j hj => pk_cpy_out (by omega)) (fun i hi => ?_) hw)
    rw [pk_cpy_in (by omega) (by omega), show 0 + (dp + i - dp) = i by omega]
    exact hg i hi
theorem r_sbl (C : Cx l G RJ0 cc nL ret p s m meth c args) {b : Nat} {u : Nat × Nat × (Nat → Int32) × Int32} (hw : WH G s (sbY G b u L ++ X) H locs) (hT : sbT u L) (hsz : ls.size = nL) (hR : 1 + 1 ≤ R.frames ∧ 8 + (1 + 11) + 64 * 1 ≤ R.locals) (hf : cells + 0 ≤ R.cells ∧ slots + 0 ≤ R.slots) (hrest : (rest.map fun v => v.category).sum ≤ 8) (hdg : decode cc pc = .ok (.invokevirtual 549, 3))
    (kk : ∀ (H : Heap) (locs : List Loc), WH G s (sbY G b u L ++ X) H locs → W p l e R s m args below meth c H locs cells slots Q (F0 m (pc + 3) ls (.int (nI L.length) :: rest))) : W p l e R s m args below meth c H locs cells slots Q (F0 m pc ls (.ref b :: rest)) := by
  have hF := C.2.2.2.2.2.2.2.2
  have hcode : Cond.code yJ4_length_8abf5 cJ4_length_8abf5 1 (some .int) ∈ LW := lwm (tb6 _ (List.mem_of_getElem? (i := 50) rfl)) rfl
  have hcode5 : Cond.code yJ5_length_8abf5 cJ5_length_8abf5 1 (some .int) ∈ LW := lwm (tb6 _ (List.mem_of_getElem? (i := 52) rfl)) rfl
  have hinst : Cond.instanceMethod yJ4_length_8abf5 ∈ LW := lwm (tb6 _ (List.mem_of_getElem? (i := 49) rfl)) rfl
  have hinst5 : Cond.instanceMethod yJ5_length_8abf5 ∈ LW := lwm (tb6 _ (List.mem_of_getElem? (i := 46) rfl)) rfl
  have hts := C.2.2.2.2.2.1
  have cw : va_CU R s args RJ0 RJ4 RJ5 549 yJ5_length_8abf5 yJ4_length_8abf5 cJ4_length_8abf5 1 (some .int) (wy yJ4_length_8abf5 cJ4_length_8abf5 1 (some .int)) (rmD 1 0 0) 0 0 0 :=
    ⟨⟨rfl, rfl, hR.1, hR.2, pay_in hts (wy_good hcode), List.mem_cons_self⟩, hts _ hcode, hts _ ini_J4, ⟨by decide, by decide⟩, fun sig h => by
      have h2 : (parseMethodDescriptor "()I").map (fun d => d.parameters.length) = some 0 := by decide +kernel
      rw [show yJ5_length_8abf5.desc = "()I" from rfl] at h
      rw [h] at h2
      exact (Option.some.inj h2).symm, hts _ ml_J0_549, hts _ (lwm (tb6 _ (List.mem_of_getElem? (i := 47) rfl)) rfl), va_Decl.of (hts _ hinst5) (hts _ hcode5), hts _ (lwm (tb6 _ (List.mem_of_getElem? (i := 48) rfl)) rfl), hts _ hinst⟩
  exact va_calli (va_runU (As := []) (rest := rest) (n := 0) ⟨C.1, C.2.1, C.2.2.2.1, C.2.2.2.2.1, C.2.2.2.2.2.1⟩ (s_length hF (X := X) (b := b) hT) cw ⟨Inv.blind, va_recv C.K hw.2.2.1 (q0 := 0) (ci := 1) rfl rfl, fun U hU hW => ⟨rfl, hw.inv C hU hW⟩⟩ rfl rfl hsz rfl (lv_room hrest) hdg hf) hw.2.1 (fun q _ h => h) (fun q h => h) (fun r u t H1 locs1 ht hvm hp hB _ _ hS => by
    have hp : r = nI L.length := hp
    subst hp
    exact kk H1 locs1 ⟨hw.1, hS, ht ▸ hB.2.2.1, hB.2.2.2⟩)
end TROWS
