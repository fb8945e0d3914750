/-! What stands at the start: texts -/
theorem gA_no (G : Gx) : ∀ a : Nat, a < G.2.1.heap.size → ¬ gA G a := fun a h => Nat.not_le.mpr h
theorem SF.comp {l : Launch} {G : Gx} (hF : SF l G) : va_Z "java/lang/String" "COMPACT_STRINGS" "Z" (.int 1) (gA G) G.2.1 G.2.1.heap := by
  obtain ⟨b, hb, hn⟩ := hF.2.2.2.2
  have hs := flat_of_before _ hn
  exact va_Zof (hb (Cond.laysStatic "java/lang/String" "COMPACT_STRINGS" "Z") (by decide +kernel)) (hb (Cond.initialized "java/lang/String") (by decide +kernel)) (va_eqt (hs (Cond.eq (.static "java/lang/String" "COMPACT_STRINGS" "Z") (.int 1)) (by decide +kernel))) (gA_no G)
theorem SF.siof {l : Launch} {G : Gx} (hF : SF l G) : va_Zq "jdk/internal/util/Preconditions" "SIOOBE_FORMATTER" "Ljava/util/function/BiFunction;" (gA G) G.2.1 G.2.1.heap := by
  obtain ⟨b, hb, hn⟩ := hF.2.2.2.2
  have hs := flat_of_before _ hn
  exact va_Zqof (hb (Cond.laysStatic "jdk/internal/util/Preconditions" "SIOOBE_FORMATTER" "Ljava/util/function/BiFunction;") (by decide +kernel)) (hb (Cond.initialized "jdk/internal/util/Preconditions") (by decide +kernel)) (hs (Cond.isRef (.static "jdk/internal/util/Preconditions" "SIOOBE_FORMATTER" "Ljava/util/function/BiFunction;")) (by decide +kernel)) (gA_no G)
/-- the text of the bytes L stands at a, since the start -/
def StrAt (G : Gx) (a : Nat) (L : List Int32) : Prop := ∃ v : Nat, va_O "java/lang/String" a (gA G) G.2.1 G.2.1.heap ∧ va_OF "java/lang/String" "coder" "B" (.int 0) a (gA G) G.2.1 G.2.1.heap ∧ va_OF "java/lang/String" "value" "[B" (.ref v) a (gA G) G.2.1 G.2.1.heap ∧ va_T .byte v L.length (fun j => .int (L.getD j 0)) (gA G) G.2.1 G.2.1.heap
section JROWS
variable {p : Program} {l : Launch} {e : Env} {R : Room} {s : State} {m : MethodId} {args : Array Value} {below : List Frame} {meth : Method} {c : Code} {H : Heap} {locs : List Loc} {cells slots : Nat} {Q : State → Prop}
variable {G : Gx} {own : String} {cc : ByteArray} {nL : Nat} {ret : Option FieldType} {pc : Nat} {ls : Array Slot} {rest st : List Value} {w : va_W}
theorem r_comp (C : Cx l G own cc nL ret p s m meth c args) (hw : WH G s w H locs) {index : Nat} (hlink : Cond.fieldLink own index "java/lang/String" "COMPACT_STRINGS" "Z" ∈ LW) (hdg : decode cc pc = .ok (.getstatic index, 3))
    (kk : W p l e R s m args below meth c H locs cells slots Q (F0 m (pc + 3) ls (.int 1 :: rest))) : W p l e R s m args below meth c H locs cells slots Q (F0 m pc ls rest) := by
  obtain ⟨hx, hb, hr, hml, hown, hts, -, hW, hF⟩ := id C
  have h1 := (hF.comp.moved hW.alike).kept (H1 := s.heap) hw.1.2
  exact va_gets hx hb h1 hw.2.1 hown (hts _ hlink) (fun _ h => h) hdg kk
theorem r_siof (C : Cx l G own cc nL ret p s m meth c args) (hw : WH G s w H locs) {index : Nat} (hlink : Cond.fieldLink own index "jdk/internal/util/Preconditions" "SIOOBE_FORMATTER" "Ljava/util/function/BiFunction;" ∈ LW) (hdg : decode cc pc = .ok (.getstatic index, 3))
    (kk : ∀ v : Value, (v = .null ∨ ∃ t : Nat, v = .ref t) → W p l e R s m args below meth c H locs cells slots Q (F0 m (pc + 3) ls (v :: rest))) : W p l e R s m args below meth c H locs cells slots Q (F0 m pc ls rest) := by
  obtain ⟨hx, hb, hr, hml, hown, hts, -, hW, hF⟩ := id C
  rcases hF.siof with h | ⟨t, h⟩
  · exact va_gets hx hb ((h.moved hW.alike).kept (H1 := s.heap) hw.1.2) hw.2.1 hown (hts _ hlink) (fun _ h => h) hdg (kk _ (Or.inl rfl))
  · exact va_gets hx hb ((h.moved hW.alike).kept (H1 := s.heap) hw.1.2) hw.2.1 hown (hts _ hlink) (fun _ h => h) hdg (kk _ (Or.inr ⟨t, rfl⟩))
theorem r_strf (C : Cx l G own cc nL ret p s m meth c args) (hw : WH G s w H locs) {index a : Nat} {n d : String} {v : Value} (h : va_OF "java/lang/String" n d v a (gA G) G.2.1 G.2.1.heap) (hlink : Cond.fieldLink own index "java/lang/String" n d ∈ LW) (hdg : decode cc pc = .ok (.getfield index, 3))
    (kk : W p l e R s m args below meth c H locs cells slots Q (F0 m (pc + 3) ls (v :: rest))) : W p l e R s m args below meth c H locs cells slots Q (F0 m pc ls (.ref a :: rest)) := by
  obtain ⟨hx, hb, hr, hml, hown, hts, -, hW, hF⟩ := id C
  exact vk_getf hx hb ((h.moved hW.alike).kept (H1 := s.heap) hw.1.2) hw.2.1 hown (hts _ hlink) (fun _ h => h) hdg kk
theorem r_tlen (C : Cx l G own cc nL ret p s m meth c args) (hw : WH G s w H locs) {a n : Nat} {f : Nat → Value} (h : va_T .byte a n f (gA G) G.2.1 G.2.1.heap) (hdg : decode cc pc = .ok (.arraylength, 1))
    (kk : W p l e R s m args below meth c H locs cells slots Q (F0 m (pc + 1) ls (.int (nI n) :: rest))) : W p l e R s m args below meth c H locs cells slots Q (F0 m pc ls (.ref a :: rest)) := by
  obtain ⟨hx, hb, hr, hml, hown, hts, -, hW, hF⟩ := id C
  exact va_tlen hx hb ((h.moved hW.alike).kept (H1 := s.heap) hw.1.2) hw.2.1 rfl hdg kk
theorem r_tb (C : Cx l G own cc nL ret p s m meth c args) (hw : WH G s w H locs) {a n i : Nat} {f : Nat → Int32} (h : va_T .byte a n (fun j => .int (f j)) (gA G) G.2.1 G.2.1.heap) (hi : i < n) (hn : n < 2 ^ 31) (hdg : decode cc pc = .ok (.baload, 1))
    (kk : W p l e R s m args below meth c H locs cells slots Q (F0 m (pc + 1) ls (.int (f i) :: rest))) : W p l e R s m args below meth c H locs cells slots Q (F0 m pc ls (.int (nI i) :: .ref a :: rest)) := by
  obtain ⟨hx, hb, hr, hml, hown, hts, -, hW, hF⟩ := id C
  exact va_tb hx hb ((h.moved hW.alike).kept (H1 := s.heap) hw.1.2) hw.2.1 (vp_in_nI hi hn) (by rw [nI_clamp (by omega)]) hdg kk
theorem r_Vi (C : Cx l G own cc nL ret p s m meth c args) (hw : WH G s w H locs) {y : MethodName} {bytes : ByteArray} {maxL d k z n index : Nat} {As : List Value} {S : Type} {rt : FieldType} {post : Int32 → S → Prop} {Wf : S → va_W} {b : Nat} (hM : MI l G y bytes maxL rt d k z (.ref b :: As) w post Wf) (ml : Cond.methodLink own index y ∈ LW) (yf : YfV y bytes maxL (some rt) n) (ho : va_O y.cls b (gA G) G.2.1 G.2.1.heap) (hn : As.length = n) (hst : st = As.reverse ++ .ref b :: rest) (hR : d + 1 ≤ R.frames ∧ 8 + (maxL + 11) + 64 * d ≤ R.locals) (hf : cells + k ≤ R.cells ∧ slots + z ≤ R.slots) (hsz : ls.size = nL) (hrest : (rest.map fun v => v.category).sum ≤ 8) (hdg : decode cc pc = .ok (.invokevirtual index, 3))
    (kk : ∀ (r : Int32) (u : S) (H : Heap) (locs : List Loc), post r u → WH G s (Wf u) H locs → W p l e R s m args below meth c H locs (cells + k) (slots + z) Q (F0 m (pc + 3) ls (.int r :: rest))) : W p l e R s m args below meth c H locs cells slots Q (F0 m pc ls st) := by
  have hrc : ∃ cell : Cell, H[b]? = some cell ∧ cell.vm.isStatics = false ∧ s.vm.findClass y.cls = some cell.cls := by
    obtain ⟨hx, hb, hr, hml, hown, hts, -, hW, hF⟩ := id C
    obtain ⟨cell, h1, h2, h3, -⟩ := ((ho.moved hW.alike).kept (H1 := s.heap) hw.1.2).kept hw.2.1.2.1
    exact ⟨cell, h1, h2, h3⟩
  exact va_calli (va_runV (As := As) (rest := rest) (n := n) ⟨C.1, C.2.1, C.2.2.2.1, C.2.2.2.2.1, C.2.2.2.2.2.1⟩ hM (cwV n C.2.2.2.2.2.1 (gi_V ml yf) rfl rfl rfl ⟨rfl, yf.2⟩ hR) ⟨Inv.blind, hrc, fun U hU hW => ⟨rfl, hw.inv C hU hW⟩⟩ rfl hn hsz hst (lv_room hrest) hdg hf) hw.2.1 (fun q _ h => h) (fun q h => h) (fun r u t H1 locs1 ht hvm hp hB _ _ hS => kk r u H1 locs1 hp ⟨hw.1, hS, ht ▸ hB.2.2.1, hB.2.2.2⟩)
end JROWS

set_option maxHeartbeats 4000000 in
set_option maxRecDepth 100000 in
theorem j_coder {l : Launch} {G : Gx} (hF : SF l G) {X : va_W} {a : Nat} {L : List Int32} (hs : StrAt G a L) : MI l G yJ0_coder_7d493 cJ0_coder_7d493 1 .byte 0 0 0 [.ref a] X (fun r (_ : Unit) => r = 0) (fun _ => X) := by
  refine mt_of hF (by decide) (Nat.le_of_ble_eq_true rfl) ?_
  intro p e s m below meth c C hin ls hl H locs hw
  have hl : lv_has ls 1 [(0, .ref a)] := hl
  obtain ⟨v, h1, h2, h3, h4⟩ := hs
  refine r_comp C hw fl_J0_38 dJ0_coder_7d493_0 ?_
  refine lv_if_eq (tgt := 13) C.1 C.2.1 dJ0_coder_7d493_3 (by decide) (fun c_3 => absurd c_3 (by decide)) (fun c_3 => ?_)
  refine lv_aload_n C.1 C.2.1 dJ0_coder_7d493_6 rfl (lv_at hl 0 rfl) ?_
  refine r_strf C hw h2 fl_J0_15 dJ0_coder_7d493_7 ?_
  refine lv_goto (tgt := 14) C.1 C.2.1 dJ0_coder_7d493_10 (by decide) ?_
  exact r_iret C hw rfl rfl () (rfl) rfl (Nat.le_of_ble_eq_true rfl) (Nat.le_of_ble_eq_true rfl) dJ0_coder_7d493_14

set_option maxHeartbeats 4000000 in
set_option maxRecDepth 100000 in
theorem j_isLatin1 {l : Launch} {G : Gx} (hF : SF l G) {X : va_W} {a : Nat} {L : List Int32} (hs : StrAt G a L) : MI l G yJ0_isLatin1_aae02 cJ0_isLatin1_aae02 1 .boolean 0 0 0 [.ref a] X (fun r (_ : Unit) => r = 1) (fun _ => X) := by
  refine mt_of hF (by decide) (Nat.le_of_ble_eq_true rfl) ?_
  intro p e s m below meth c C hin ls hl H locs hw
  have hl : lv_has ls 1 [(0, .ref a)] := hl
  obtain ⟨v, h1, h2, h3, h4⟩ := hs
  refine r_comp C hw fl_J0_38 dJ0_isLatin1_aae02_0 ?_
  refine lv_if_eq (tgt := 17) C.1 C.2.1 dJ0_isLatin1_aae02_3 (by decide) (fun c_3 => absurd c_3 (by decide)) (fun c_3 => ?_)
  refine lv_aload_n C.1 C.2.1 dJ0_isLatin1_aae02_6 rfl (lv_at hl 0 rfl) ?_
  refine r_strf C hw h2 fl_J0_15 dJ0_isLatin1_aae02_7 ?_
  refine lv_if_ne (tgt := 17) C.1 C.2.1 dJ0_isLatin1_aae02_10 (by decide) (fun c_10 => absurd (by decide) c_10) (fun c_10 => ?_)
  refine lv_iconst (v := 1) C.1 C.2.1 dJ0_isLatin1_aae02_13 (by decide) ?_
  refine lv_goto (tgt := 18) C.1 C.2.1 dJ0_isLatin1_aae02_14 (by decide) ?_
  exact r_iret C hw rfl rfl () (rfl) rfl (Nat.le_of_ble_eq_true rfl) (Nat.le_of_ble_eq_true rfl) dJ0_isLatin1_aae02_18

set_option maxHeartbeats 4000000 in
set_option maxRecDepth 100000 in
theorem j_length {l : Launch} {G : Gx} (hF : SF l G) {X : va_W} {a : Nat} {L : List Int32} (hL : L.length < 2 ^ 31) (hs : StrAt G a L) : MI l G yJ0_length_8abf5 cJ0_length_8abf5 1 .int 1 0 0 [.ref a] X (fun r (_ : Unit) => r = nI L.length) (fun _ => X) := by
  refine mt_of hF (by decide) (Nat.le_of_ble_eq_true rfl) ?_
  intro p e s m below meth c C hin ls hl H locs hw
  have hl : lv_has ls 1 [(0, .ref a)] := hl
  have hs0 := hs
  obtain ⟨v, h1, h2, h3, h4⟩ := hs
  have hs := hs0
  refine lv_aload_n C.1 C.2.1 dJ0_length_8abf5_0 rfl (lv_at hl 0 rfl) ?_
  refine r_strf C hw h3 fl_J0_9 dJ0_length_8abf5_1 ?_
  refine r_tlen C hw h4 dJ0_length_8abf5_4 ?_
  refine lv_aload_n C.1 C.2.1 dJ0_length_8abf5_5 rfl (lv_at hl 0 rfl) ?_
  refine r_Vi C hw (j_coder hF (X := X) hs) ml_J0_335 yf_J0_coder_7d493 h1 (As := []) rfl rfl ⟨(Nat.le_of_ble_eq_true rfl), (Nat.le_of_ble_eq_true rfl)⟩ ⟨(Nat.le_of_ble_eq_true rfl), (Nat.le_of_ble_eq_true rfl)⟩ hl.1 (Nat.le_of_ble_eq_true rfl) dJ0_length_8abf5_6 (fun r_6 _ H locs hp_6 hw => ?_)
  obtain rfl : r_6 = 0 := hp_6
  replace hw : WH G s (X) H locs := hw
  refine lv_ishr C.1 C.2.1 dJ0_length_8abf5_9 ?_
  exact r_iret C hw rfl rfl () (sc_shr0 hL) rfl (Nat.le_of_ble_eq_true rfl) (Nat.le_of_ble_eq_true rfl) dJ0_length_8abf5_10

