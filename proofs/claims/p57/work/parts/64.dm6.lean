/-! DropMarket: a command -/
theorem ctd_row (G : Gx) (a : Nat → Nat) (S : SV) (K : Nat → Nat → Nat) (F : Nat → Int32) (vb : Nat) (ps : Int32) (X : va_W) : RowW G (fun g => stW G a S ++ (dmO G K F ++ (ctC G (K 5) vb ps g ++ X))) 21 22 (K 5 2) (K 5 3) 3 := ⟨fun _ => rfl, fun _ => rfl, fun _ _ => rfl⟩
def smV (j : Nat) : Int32 := ([1, 2, 3, 4, 5, 6, 0] : List Int32).getD j 0
theorem orV_nI {i : Nat} (h : i < 7) : orV i = nI i := by
  rcases (show i = 0 ∨ i = 1 ∨ i = 2 ∨ i = 3 ∨ i = 4 ∨ i = 5 ∨ i = 6 by omega) with rfl | rfl | rfl | rfl | rfl | rfl | rfl <;> decide
/-- what a command's fault is -/
def cmF (S : SV) (g : Nat → Int32) (vb : Nat) : Nat := match vb with
  | 0 => stF S (g 0) (g 1)
  | 1 => ordF S true (g 0) (g 1) (g 2) true (decide (20 ≤ nO S))
  | 2 => ordF S false (g 0) (g 1) (g 2) true (decide (20 ≤ nO S))
  | 3 => canF S (g 0)
  | 4 => pasF S (g 0)
  | 5 => opnF S
  | _ => cloF S
theorem cmF_6 (S : SV) (g : Nat → Int32) (vb : Nat) : cmF S g vb < 6 := by
  unfold cmF
  split
  · exact stF_6 ..
  · exact ordF_6 ..
  · exact ordF_6 ..
  · exact canF_6 ..
  · exact pasF_6 ..
  · exact opnF_6 ..
  · exact cloF_6 ..
set_option maxHeartbeats 4000000 in
set_option maxRecDepth 100000 in
theorem e_ordinal {l : Launch} {G : Gx} (hF : SF l G) {X : va_W} {i : Nat} (hi : i < 7) : MI l G yJx29ce0_ordinal_8abf5 cJx29ce0_ordinal_8abf5 1 .int 0 0 0 [.ref (G.2.2.2.2 i)] X (fun r (_ : Unit) => r = orV i) (fun _ => X) := by
  refine mt_of hF (by decide) (Nat.le_of_ble_eq_true rfl) ?_
  intro p e s m below meth c C hin ls hl H locs hw
  have hl : lv_has ls 1 [(0, .ref (G.2.2.2.2 i))] := hl
  refine lv_aload_n C.1 C.2.1 dJx29ce0_ordinal_8abf5_0 rfl (lv_at hl 0 rfl) ?_
  refine r_of C hw (C.2.2.2.2.2.2.2.2.vfl (i := i) hi (q := flV.getD 0 default) (by decide)) fl_Jx29ce0_7 rfl dJx29ce0_ordinal_8abf5_1 ?_
  exact r_iret C hw rfl rfl () rfl rfl (Nat.le_of_ble_eq_true rfl) (Nat.le_of_ble_eq_true rfl) dJx29ce0_ordinal_8abf5_4
section ORD
variable {p : Program} {l : Launch} {e : Env} {R : Room} {s : State} {m : MethodId} {args : Array Value} {below : List Frame} {meth : Method} {c : Code} {H : Heap} {locs : List Loc} {cells slots : Nat} {Q : State → Prop}
variable {G : Gx} {own : String} {cc : ByteArray} {nL : Nat} {ret : Option FieldType} {pc : Nat} {ls : Array Slot} {rest st : List Value} {w : va_W}
theorem r_ord (C : Cx l G RX11 cc nL ret p s m meth c args) (hw : WH G s w H locs) {i : Nat} (hi : i < 7) (hsz : ls.size = nL) (hR : 0 + 1 ≤ R.frames ∧ 8 + (1 + 11) + 64 * 0 ≤ R.locals) (hf : cells + 0 ≤ R.cells ∧ slots + 0 ≤ R.slots) (hrest : (rest.map fun v => v.category).sum ≤ 8) (hdg : decode cc pc = .ok (.invokevirtual 432, 3))
    (kk : ∀ (H : Heap) (locs : List Loc), WH G s w H locs → W p l e R s m args below meth c H locs cells slots Q (F0 m (pc + 3) ls (.int (orV i) :: rest))) : W p l e R s m args below meth c H locs cells slots Q (F0 m pc ls (.ref (G.2.2.2.2 i) :: rest)) := by
  have hF := C.2.2.2.2.2.2.2.2
  have hrc : ∃ cell : Cell, H[G.2.2.2.2 i]? = some cell ∧ cell.vm.isStatics = false ∧ s.vm.findClass "DropMarket$Verb" = some cell.cls := by
    obtain ⟨cell, h1, h2, h3, -⟩ := (((hF.2.2.2.1.1 i hi).2.1.moved C.2.2.2.2.2.2.2.1.alike).kept (H1 := s.heap) hw.1.2).kept hw.2.1.2.1
    exact ⟨cell, h1, h2, h3⟩
  have hcode : Cond.code yJx29ce0_ordinal_8abf5 cJx29ce0_ordinal_8abf5 1 (some .int) ∈ LW := lwm (tb7 _ (List.mem_of_getElem? (i := 115) rfl)) rfl
  have hinst : Cond.instanceMethod yJx29ce0_ordinal_8abf5 ∈ LW := lwm (tb7 _ (List.mem_of_getElem? (i := 114) rfl)) rfl
  have hts := C.2.2.2.2.2.1
  have cw : va_CU R s args RX11 "DropMarket$Verb" "java/lang/Enum" 432 ⟨"DropMarket$Verb", "ordinal", "()I"⟩ yJx29ce0_ordinal_8abf5 cJx29ce0_ordinal_8abf5 1 (some .int) (wy yJx29ce0_ordinal_8abf5 cJx29ce0_ordinal_8abf5 1 (some .int)) (rmD 0 0 0) 0 0 0 :=
    ⟨⟨rfl, rfl, hR.1, hR.2, pay_in hts (wy_good hcode), List.mem_cons_self⟩, hts _ hcode, hts _ ini_Jx29ce0, ⟨by decide, by decide⟩, fun sig h => by
      have h2 : (parseMethodDescriptor "()I").map (fun d => d.parameters.length) = some 0 := by decide +kernel
      rw [show (⟨"DropMarket$Verb", "ordinal", "()I"⟩ : MethodName).desc = "()I" from rfl] at h
      rw [h] at h2
      exact (Option.some.inj h2).symm, hts _ ml_X11_432, hts _ (lwm (tb7 _ (List.mem_of_getElem? (i := 111) rfl)) rfl), va_Decl.of (hts _ hinst) (hts _ hcode), hts _ (lwm (tb7 _ (List.mem_of_getElem? (i := 113) rfl)) rfl), hts _ hinst⟩
  exact va_calli (va_runU (As := []) (rest := rest) (n := 0) ⟨C.1, C.2.1, C.2.2.2.1, C.2.2.2.2.1, C.2.2.2.2.2.1⟩ (e_ordinal hF (X := w) hi) cw ⟨Inv.blind, hrc, fun U hU hW => ⟨rfl, hw.inv C hU hW⟩⟩ rfl rfl hsz rfl (lv_room hrest) hdg hf) hw.2.1 (fun q _ h => h) (fun q h => h) (fun r u t H1 locs1 ht hvm hp hB _ _ hS => by
    have hp : r = orV i := hp
    rw [hp]
    exact kk H1 locs1 ⟨hw.1, hS, ht ▸ hB.2.2.1, hB.2.2.2⟩)
end ORD
set_option maxHeartbeats 4000000 in
set_option maxRecDepth 100000 in
theorem k11_commandFault {l : Launch} {G : Gx} (hF : SF l G) {K : Nat → Nat → Nat} {S : SV} {F : Nat → Int32} {vb p0 : Nat} {g : Nat → Int32} {X : va_W} (hvb : vb < 7) (ok : okS S) : ME l G yX11_commandFault cX11_commandFault 4 (.object "DropMarket$Fault") 5 0 0 [.ref (K 7 0)] (stW G (K 0) S ++ (dmO G K F ++ (ctC G (K 5) vb (nI p0) g ++ X))) G.2.2.2.1 (fun o (_ : Unit) => o = some (cmF S g vb)) (fun _ : Unit => stW G (K 0) S ++ (dmO G K F ++ (ctC G (K 5) vb (nI p0) g ++ X))) := by
  refine mt_of hF (by decide) (Nat.le_of_ble_eq_true rfl) ?_
  intro p e s m below meth c C hin ls hl H locs hw
  have hl : lv_has ls 4 [(0, .ref (K 7 0))] := hl
  obtain ⟨tm, hzm, htm⟩ := hF.smap
  refine lv_aload_n C.1 C.2.1 dX11_commandFault_0 rfl (lv_at hl 0 rfl) ?_
  refine r_get C hw 19 rfl rfl in_X11 5 (by decide) fl_X11_39 rfl (v := .ref (K 5 0)) rfl dX11_commandFault_1 ?_
  refine r_get C hw 20 rfl rfl in_X2 1 (by decide) fl_X11_419 rfl (v := .ref (K 5 2)) rfl dX11_commandFault_4 ?_
  refine lv_iconst (v := 0) C.1 C.2.1 dX11_commandFault_7 (by decide) ?_
  refine r_toe (show _ = nI 0 from by decide) ?_
  refine r_vi C hw (k7_get hF (ctd_row G (K 0) S K F vb (nI p0) X) (by decide) (f := g) rfl (nI 0)) ml_X11_134 yf_X7_get 21 rfl rfl (As := [.int (nI 0)]) rfl rfl ⟨(Nat.le_of_ble_eq_true rfl), (Nat.le_of_ble_eq_true rfl)⟩ ⟨(Nat.le_of_ble_eq_true rfl), (Nat.le_of_ble_eq_true rfl)⟩ hl.1 (Nat.le_of_ble_eq_true rfl) dX11_commandFault_8 (fun r_8 _ H locs hp_8 hw => ?_)
  obtain rfl : r_8 = g 0 := by rw [hp_8]; exact rget_nI (k := 0) (by decide) (by decide)
  replace hw : WH G s (stW G (K 0) S ++ (dmO G K F ++ (ctC G (K 5) vb (nI p0) g ++ X))) H locs := hw
  refine lv_istore_n (lv' := [(1, .int (g 0)), (0, .ref (K 7 0))]) C.1 C.2.1 dX11_commandFault_11 rfl hl (by decide) rfl (fun ls hl => ?_)
  refine lv_aload_n C.1 C.2.1 dX11_commandFault_12 rfl (lv_at hl 1 rfl) ?_
  refine r_get C hw 19 rfl rfl in_X11 5 (by decide) fl_X11_39 rfl (v := .ref (K 5 0)) rfl dX11_commandFault_13 ?_
  refine r_get C hw 20 rfl rfl in_X2 1 (by decide) fl_X11_419 rfl (v := .ref (K 5 2)) rfl dX11_commandFault_16 ?_
  refine lv_iconst (v := 1) C.1 C.2.1 dX11_commandFault_19 (by decide) ?_
  refine r_toe (show _ = nI 1 from by decide) ?_
  refine r_vi C hw (k7_get hF (ctd_row G (K 0) S K F vb (nI p0) X) (by decide) (f := g) rfl (nI 1)) ml_X11_134 yf_X7_get 21 rfl rfl (As := [.int (nI 1)]) rfl rfl ⟨(Nat.le_of_ble_eq_true rfl), (Nat.le_of_ble_eq_true rfl)⟩ ⟨(Nat.le_of_ble_eq_true rfl), (Nat.le_of_ble_eq_true rfl)⟩ hl.1 (Nat.le_of_ble_eq_true rfl) dX11_commandFault_20 (fun r_20 _ H locs hp_20 hw => ?_)
  obtain rfl : r_20 = g 1 := by rw [hp_20]; exact rget_nI (k := 1) (by decide) (by decide)
  replace hw : WH G s (stW G (K 0) S ++ (dmO G K F ++ (ctC G (K 5) vb (nI p0) g ++ X))) H locs := hw
  refine lv_istore_n (lv' := [(2, .int (g 1)), (1, .int (g 0)), (0, .ref (K 7 0))]) C.1 C.2.1 dX11_commandFault_23 rfl hl (by decide) rfl (fun ls hl => ?_)
  refine lv_aload_n C.1 C.2.1 dX11_commandFault_24 rfl (lv_at hl 2 rfl) ?_
  refine r_get C hw 19 rfl rfl in_X11 5 (by decide) fl_X11_39 rfl (v := .ref (K 5 0)) rfl dX11_commandFault_25 ?_
  refine r_get C hw 20 rfl rfl in_X2 1 (by decide) fl_X11_419 rfl (v := .ref (K 5 2)) rfl dX11_commandFault_28 ?_
  refine lv_iconst (v := 2) C.1 C.2.1 dX11_commandFault_31 (by decide) ?_
  refine r_toe (show _ = nI 2 from by decide) ?_
  refine r_vi C hw (k7_get hF (ctd_row G (K 0) S K F vb (nI p0) X) (by decide) (f := g) rfl (nI 2)) ml_X11_134 yf_X7_get 21 rfl rfl (As := [.int (nI 2)]) rfl rfl ⟨(Nat.le_of_ble_eq_true rfl), (Nat.le_of_ble_eq_true rfl)⟩ ⟨(Nat.le_of_ble_eq_true rfl), (Nat.le_of_ble_eq_true rfl)⟩ hl.1 (Nat.le_of_ble_eq_true rfl) dX11_commandFault_32 (fun r_32 _ H locs hp_32 hw => ?_)
  obtain rfl : r_32 = g 2 := by rw [hp_32]; exact rget_nI (k := 2) (by decide) (by decide)
  replace hw : WH G s (stW G (K 0) S ++ (dmO G K F ++ (ctC G (K 5) vb (nI p0) g ++ X))) H locs := hw
  refine lv_istore_n (lv' := [(3, .int (g 2)), (2, .int (g 1)), (1, .int (g 0)), (0, .ref (K 7 0))]) C.1 C.2.1 dX11_commandFault_35 rfl hl (by decide) rfl (fun ls hl => ?_)
  refine r_gst C hw hzm fl_X11_422 dX11_commandFault_36 ?_
  refine lv_aload_n C.1 C.2.1 dX11_commandFault_39 rfl (lv_at hl 3 rfl) ?_
  refine r_get C hw 19 rfl rfl in_X11 5 (by decide) fl_X11_39 rfl (v := .ref (K 5 0)) rfl dX11_commandFault_40 ?_
  refine r_get C hw 20 rfl rfl in_X2 2 (by decide) fl_X11_428 rfl (v := .ref (G.2.2.2.2 vb)) rfl dX11_commandFault_43 ?_
  refine r_ord C hw hvb hl.1 ⟨Nat.le_of_ble_eq_true rfl, Nat.le_of_ble_eq_true rfl⟩ ⟨Nat.le_of_ble_eq_true rfl, Nat.le_of_ble_eq_true rfl⟩ (Nat.le_of_ble_eq_true rfl) dX11_commandFault_46 (fun H locs hw => ?_)
  refine r_toe (show _ = nI vb from orV_nI hvb) ?_
  refine r_ti C hw htm (i := vb) hvb (by decide) dX11_commandFault_49 ?_
  rcases (show vb = 0 ∨ vb = 1 ∨ vb = 2 ∨ vb = 3 ∨ vb = 4 ∨ vb = 5 ∨ vb = 6 by omega) with hk | hk | hk | hk | hk | hk | hk
  · refine r_toe (show smV vb = 1 by rw [hk]; rfl) ?_
    refine lv_tableIn (tgt := 88) C.1 C.2.1 dX11_commandFault_50 (by decide) (by decide) (off := 38) (by decide) (by decide) ?_
    refine lv_aload_n C.1 C.2.1 dX11_commandFault_88 rfl (lv_at hl 3 rfl) ?_
    refine r_get C hw 19 rfl rfl in_X11 0 (by decide) fl_X11_10 rfl (v := .ref (K 0 0)) rfl dX11_commandFault_89 ?_
    refine lv_iload_n C.1 C.2.1 dX11_commandFault_92 rfl (lv_at hl 2 rfl) ?_
    refine lv_iload_n C.1 C.2.1 dX11_commandFault_93 rfl (lv_at hl 1 rfl) ?_
    refine r_ve C hw (k9_stallFault hF (a := (K 0)) (S := S) (X := (dmO G K F ++ (ctC G (K 5) vb (nI p0) g ++ X))) ok (g 0) (g 1)) ml_X11_61 yf_X9_stallFault 0 rfl rfl (As := [.int (g 0), .int (g 1)]) rfl rfl ⟨(Nat.le_of_ble_eq_true rfl), (Nat.le_of_ble_eq_true rfl)⟩ ⟨(Nat.le_of_ble_eq_true rfl), (Nat.le_of_ble_eq_true rfl)⟩ hl.1 (Nat.le_of_ble_eq_true rfl) dX11_commandFault_94 (fun o_94 _ H locs hp_94 hw => ?_)
    have hp_94 : o_94 = some (stF S (g 0) (g 1)) := hp_94
    rw [hp_94]
    replace hw : WH G s (stW G (K 0) S ++ (dmO G K F ++ (ctC G (K 5) vb (nI p0) g ++ X))) H locs := hw
    exact r_eret C hw (v := some (stF S (g 0) (g 1))) (ad := G.2.2.2.1) rfl (Or.inl ⟨_, rfl⟩) () (by rw [hk]; rfl) rfl (Nat.le_of_ble_eq_true rfl) (Nat.le_of_ble_eq_true rfl) dX11_commandFault_97
  · refine r_toe (show smV vb = 2 by rw [hk]; rfl) ?_
    refine lv_tableIn (tgt := 98) C.1 C.2.1 dX11_commandFault_50 (by decide) (by decide) (off := 48) (by decide) (by decide) ?_
    refine lv_aload_n C.1 C.2.1 dX11_commandFault_98 rfl (lv_at hl 3 rfl) ?_
    refine r_get C hw 19 rfl rfl in_X11 0 (by decide) fl_X11_10 rfl (v := .ref (K 0 0)) rfl dX11_commandFault_99 ?_
    refine lv_iconst (v := 1) C.1 C.2.1 dX11_commandFault_102 (by decide) ?_
    refine lv_iload_n C.1 C.2.1 dX11_commandFault_103 rfl (lv_at hl 2 rfl) ?_
    refine lv_iload_n C.1 C.2.1 dX11_commandFault_104 rfl (lv_at hl 1 rfl) ?_
    refine lv_iload_n C.1 C.2.1 dX11_commandFault_105 rfl (lv_at hl 0 rfl) ?_
    refine lv_iconst (v := 1) C.1 C.2.1 dX11_commandFault_106 (by decide) ?_
    refine lv_aload_n C.1 C.2.1 dX11_commandFault_107 rfl (lv_at hl 3 rfl) ?_
    refine r_get C hw 19 rfl rfl in_X11 0 (by decide) fl_X11_10 rfl (v := .ref (K 0 0)) rfl dX11_commandFault_108 ?_
    refine r_get C hw 0 rfl rfl in_X9 1 (by decide) fl_X11_161 rfl (v := .ref (K 0 6)) rfl dX11_commandFault_111 ?_
    refine r_vi C hw (k1_isFull hF (a := (K 0)) (S := S) (X := (dmO G K F ++ (ctC G (K 5) vb (nI p0) g ++ X))) ok.1 ok.2.1) ml_X11_362 yf_X1_isFull 6 rfl rfl (As := []) rfl rfl ⟨(Nat.le_of_ble_eq_true rfl), (Nat.le_of_ble_eq_true rfl)⟩ ⟨(Nat.le_of_ble_eq_true rfl), (Nat.le_of_ble_eq_true rfl)⟩ hl.1 (Nat.le_of_ble_eq_true rfl) dX11_commandFault_114 (fun r_114 _ H locs hp_114 hw => ?_)
    obtain rfl : r_114 = bI (decide (20 ≤ nO S)) := hp_114
    replace hw : WH G s (stW G (K 0) S ++ (dmO G K F ++ (ctC G (K 5) vb (nI p0) g ++ X))) H locs := hw
    refine r_ve C hw (k9_orderFault hF (a := (K 0)) (S := S) (X := (dmO G K F ++ (ctC G (K 5) vb (nI p0) g ++ X))) ok true (g 0) (g 1) (g 2) true (decide (20 ≤ nO S))) ml_X11_363 yf_X9_orderFault 0 rfl rfl (As := [.int 1, .int (g 0), .int (g 1), .int (g 2), .int 1, .int (bI (decide (20 ≤ nO S)))]) rfl rfl ⟨(Nat.le_of_ble_eq_true rfl), (Nat.le_of_ble_eq_true rfl)⟩ ⟨(Nat.le_of_ble_eq_true rfl), (Nat.le_of_ble_eq_true rfl)⟩ hl.1 (Nat.le_of_ble_eq_true rfl) dX11_commandFault_117 (fun o_117 _ H locs hp_117 hw => ?_)
    have hp_117 : o_117 = some (ordF S true (g 0) (g 1) (g 2) true (decide (20 ≤ nO S))) := hp_117
    rw [hp_117]
    replace hw : WH G s (stW G (K 0) S ++ (dmO G K F ++ (ctC G (K 5) vb (nI p0) g ++ X))) H locs := hw
    exact r_eret C hw (v := some (ordF S true (g 0) (g 1) (g 2) true (decide (20 ≤ nO S)))) (ad := G.2.2.2.1) rfl (Or.inl ⟨_, rfl⟩) () (by rw [hk]; rfl) rfl (Nat.le_of_ble_eq_true rfl) (Nat.le_of_ble_eq_true rfl) dX11_commandFault_120
  · refine r_toe (show smV vb = 3 by rw [hk]; rfl) ?_
    refine lv_tableIn (tgt := 121) C.1 C.2.1 dX11_commandFault_50 (by decide) (by decide) (off := 71) (by decide) (by decide) ?_
    refine lv_aload_n C.1 C.2.1 dX11_commandFault_121 rfl (lv_at hl 3 rfl) ?_
    refine r_get C hw 19 rfl rfl in_X11 0 (by decide) fl_X11_10 rfl (v := .ref (K 0 0)) rfl dX11_commandFault_122 ?_
    refine lv_iconst (v := 0) C.1 C.2.1 dX11_commandFault_125 (by decide) ?_
    refine lv_iload_n C.1 C.2.1 dX11_commandFault_126 rfl (lv_at hl 2 rfl) ?_
    refine lv_iload_n C.1 C.2.1 dX11_commandFault_127 rfl (lv_at hl 1 rfl) ?_
    refine lv_iload_n C.1 C.2.1 dX11_commandFault_128 rfl (lv_at hl 0 rfl) ?_
    refine lv_iconst (v := 1) C.1 C.2.1 dX11_commandFault_129 (by decide) ?_
    refine lv_aload_n C.1 C.2.1 dX11_commandFault_130 rfl (lv_at hl 3 rfl) ?_
    refine r_get C hw 19 rfl rfl in_X11 0 (by decide) fl_X11_10 rfl (v := .ref (K 0 0)) rfl dX11_commandFault_131 ?_
    refine r_get C hw 0 rfl rfl in_X9 1 (by decide) fl_X11_161 rfl (v := .ref (K 0 6)) rfl dX11_commandFault_134 ?_
    refine r_vi C hw (k1_isFull hF (a := (K 0)) (S := S) (X := (dmO G K F ++ (ctC G (K 5) vb (nI p0) g ++ X))) ok.1 ok.2.1) ml_X11_362 yf_X1_isFull 6 rfl rfl (As := []) rfl rfl ⟨(Nat.le_of_ble_eq_true rfl), (Nat.le_of_ble_eq_true rfl)⟩ ⟨(Nat.le_of_ble_eq_true rfl), (Nat.le_of_ble_eq_true rfl)⟩ hl.1 (Nat.le_of_ble_eq_true rfl) dX11_commandFault_137 (fun r_137 _ H locs hp_137 hw => ?_)
    obtain rfl : r_137 = bI (decide (20 ≤ nO S)) := hp_137
    replace hw : WH G s (stW G (K 0) S ++ (dmO G K F ++ (ctC G (K 5) vb (nI p0) g ++ X))) H locs := hw
    refine r_ve C hw (k9_orderFault hF (a := (K 0)) (S := S) (X := (dmO G K F ++ (ctC G (K 5) vb (nI p0) g ++ X))) ok false (g 0) (g 1) (g 2) true (decide (20 ≤ nO S))) ml_X11_363 yf_X9_orderFault 0 rfl rfl (As := [.int 0, .int (g 0), .int (g 1), .int (g 2), .int 1, .int (bI (decide (20 ≤ nO S)))]) rfl rfl ⟨(Nat.le_of_ble_eq_true rfl), (Nat.le_of_ble_eq_true rfl)⟩ ⟨(Nat.le_of_ble_eq_true rfl), (Nat.le_of_ble_eq_true rfl)⟩ hl.1 (Nat.le_of_ble_eq_true rfl) dX11_commandFault_140 (fun o_140 _ H locs hp_140 hw => ?_)
    have hp_140 : o_140 = some (ordF S false (g 0) (g 1) (g 2) true (decide (20 ≤ nO S))) := hp_140
    rw [hp_140]
    replace hw : WH G s (stW G (K 0) S ++ (dmO G K F ++ (ctC G (K 5) vb (nI p0) g ++ X))) H locs := hw
    exact r_eret C hw (v := some (ordF S false (g 0) (g 1) (g 2) true (decide (20 ≤ nO S)))) (ad := G.2.2.2.1) rfl (Or.inl ⟨_, rfl⟩) () (by rw [hk]; rfl) rfl (Nat.le_of_ble_eq_true rfl) (Nat.le_of_ble_eq_true rfl) dX11_commandFault_143
  · refine r_toe (show smV vb = 4 by rw [hk]; rfl) ?_
    refine lv_tableIn (tgt := 144) C.1 C.2.1 dX11_commandFault_50 (by decide) (by decide) (off := 94) (by decide) (by decide) ?_
    refine lv_aload_n C.1 C.2.1 dX11_commandFault_144 rfl (lv_at hl 3 rfl) ?_
    refine r_get C hw 19 rfl rfl in_X11 0 (by decide) fl_X11_10 rfl (v := .ref (K 0 0)) rfl dX11_commandFault_145 ?_
    refine lv_iload_n C.1 C.2.1 dX11_commandFault_148 rfl (lv_at hl 2 rfl) ?_
    refine r_ve C hw (k9_cancelFault hF (a := (K 0)) (S := S) (X := (dmO G K F ++ (ctC G (K 5) vb (nI p0) g ++ X))) ok (g 0)) ml_X11_95 yf_X9_cancelFault 0 rfl rfl (As := [.int (g 0)]) rfl rfl ⟨(Nat.le_of_ble_eq_true rfl), (Nat.le_of_ble_eq_true rfl)⟩ ⟨(Nat.le_of_ble_eq_true rfl), (Nat.le_of_ble_eq_true rfl)⟩ hl.1 (Nat.le_of_ble_eq_true rfl) dX11_commandFault_149 (fun o_149 _ H locs hp_149 hw => ?_)
    have hp_149 : o_149 = some (canF S (g 0)) := hp_149
    rw [hp_149]
    replace hw : WH G s (stW G (K 0) S ++ (dmO G K F ++ (ctC G (K 5) vb (nI p0) g ++ X))) H locs := hw
    exact r_eret C hw (v := some (canF S (g 0))) (ad := G.2.2.2.1) rfl (Or.inl ⟨_, rfl⟩) () (by rw [hk]; rfl) rfl (Nat.le_of_ble_eq_true rfl) (Nat.le_of_ble_eq_true rfl) dX11_commandFault_152
  · refine r_toe (show smV vb = 5 by rw [hk]; rfl) ?_
    refine lv_tableIn (tgt := 153) C.1 C.2.1 dX11_commandFault_50 (by decide) (by decide) (off := 103) (by decide) (by decide) ?_
    refine lv_aload_n C.1 C.2.1 dX11_commandFault_153 rfl (lv_at hl 3 rfl) ?_
    refine r_get C hw 19 rfl rfl in_X11 0 (by decide) fl_X11_10 rfl (v := .ref (K 0 0)) rfl dX11_commandFault_154 ?_
    refine lv_iload_n C.1 C.2.1 dX11_commandFault_157 rfl (lv_at hl 2 rfl) ?_
    refine r_ve C hw (k9_passFault hF (a := (K 0)) (S := S) (X := (dmO G K F ++ (ctC G (K 5) vb (nI p0) g ++ X))) ok (g 0)) ml_X11_103 yf_X9_passFault 0 rfl rfl (As := [.int (g 0)]) rfl rfl ⟨(Nat.le_of_ble_eq_true rfl), (Nat.le_of_ble_eq_true rfl)⟩ ⟨(Nat.le_of_ble_eq_true rfl), (Nat.le_of_ble_eq_true rfl)⟩ hl.1 (Nat.le_of_ble_eq_true rfl) dX11_commandFault_158 (fun o_158 _ H locs hp_158 hw => ?_)
    have hp_158 : o_158 = some (pasF S (g 0)) := hp_158
    rw [hp_158]
    replace hw : WH G s (stW G (K 0) S ++ (dmO G K F ++ (ctC G (K 5) vb (nI p0) g ++ X))) H locs := hw
    exact r_eret C hw (v := some (pasF S (g 0))) (ad := G.2.2.2.1) rfl (Or.inl ⟨_, rfl⟩) () (by rw [hk]; rfl) rfl (Nat.le_of_ble_eq_true rfl) (Nat.le_of_ble_eq_true rfl) dX11_commandFault_161
  · refine r_toe (show smV vb = 6 by rw [hk]; rfl) ?_
    refine lv_tableIn (tgt := 162) C.1 C.2.1 dX11_commandFault_50 (by decide) (by decide) (off := 112) (by decide) (by decide) ?_
    refine lv_aload_n C.1 C.2.1 dX11_commandFault_162 rfl (lv_at hl 3 rfl) ?_
    refine r_get C hw 19 rfl rfl in_X11 0 (by decide) fl_X11_10 rfl (v := .ref (K 0 0)) rfl dX11_commandFault_163 ?_
    refine r_ve C hw (k9_openFault hF (a := (K 0)) (S := S) (X := (dmO G K F ++ (ctC G (K 5) vb (nI p0) g ++ X))) ok) ml_X11_109 yf_X9_openFault 0 rfl rfl (As := []) rfl rfl ⟨(Nat.le_of_ble_eq_true rfl), (Nat.le_of_ble_eq_true rfl)⟩ ⟨(Nat.le_of_ble_eq_true rfl), (Nat.le_of_ble_eq_true rfl)⟩ hl.1 (Nat.le_of_ble_eq_true rfl) dX11_commandFault_166 (fun o_166 _ H locs hp_166 hw => ?_)
    have hp_166 : o_166 = some (opnF S) := hp_166
    rw [hp_166]
    replace hw : WH G s (stW G (K 0) S ++ (dmO G K F ++ (ctC G (K 5) vb (nI p0) g ++ X))) H locs := hw
    exact r_eret C hw (v := some (opnF S)) (ad := G.2.2.2.1) rfl (Or.inl ⟨_, rfl⟩) () (by rw [hk]; rfl) rfl (Nat.le_of_ble_eq_true rfl) (Nat.le_of_ble_eq_true rfl) dX11_commandFault_169
  · refine r_toe (show smV vb = 0 by rw [hk]; rfl) ?_
    refine lv_tableOut (tgt := 170) C.1 C.2.1 dX11_commandFault_50 (Or.inl (by decide)) (by decide) ?_
    refine lv_aload_n C.1 C.2.1 dX11_commandFault_170 rfl (lv_at hl 3 rfl) ?_
    refine r_get C hw 19 rfl rfl in_X11 0 (by decide) fl_X11_10 rfl (v := .ref (K 0 0)) rfl dX11_commandFault_171 ?_
    refine r_ve C hw (k9_closeFault hF (a := (K 0)) (S := S) (X := (dmO G K F ++ (ctC G (K 5) vb (nI p0) g ++ X))) ok) ml_X11_117 yf_X9_closeFault 0 rfl rfl (As := []) rfl rfl ⟨(Nat.le_of_ble_eq_true rfl), (Nat.le_of_ble_eq_true rfl)⟩ ⟨(Nat.le_of_ble_eq_true rfl), (Nat.le_of_ble_eq_true rfl)⟩ hl.1 (Nat.le_of_ble_eq_true rfl) dX11_commandFault_174 (fun o_174 _ H locs hp_174 hw => ?_)
    have hp_174 : o_174 = some (cloF S) := hp_174
    rw [hp_174]
    replace hw : WH G s (stW G (K 0) S ++ (dmO G K F ++ (ctC G (K 5) vb (nI p0) g ++ X))) H locs := hw
    exact r_eret C hw (v := some (cloF S)) (ad := G.2.2.2.1) rfl (Or.inl ⟨_, rfl⟩) () (by rw [hk]; rfl) rfl (Nat.le_of_ble_eq_true rfl) (Nat.le_of_ble_eq_true rfl) dX11_commandFault_177

/-- what a command that can be done does -/
def cmS (S : SV) (g : Nat → Int32) (vb : Nat) : SV := match vb with
  | 0 => opS S (nT S) (g 0) (g 1)
  | 1 => plS S true (g 0) (g 1) (g 2) 0
  | 2 => plS S false (g 0) (g 1) (g 2) 0
  | 3 => match slotF S (g 0) (nO S) with
    | some j => rmS S (nO S) j
    | none => S
  | 4 => (lpS S (g 0)).1
  | 5 => sI S 2 1
  | _ => epS S
set_option maxHeartbeats 4000000 in
set_option maxRecDepth 100000 in
theorem k11_runCommand {l : Launch} {G : Gx} (hF : SF l G) {K : Nat → Nat → Nat} {S : SV} {F : Nat → Int32} {vb p0 : Nat} {g : Nat → Int32} {X : va_W} (hvb : vb < 7) (ok : okS S) (hc0 : cmF S g vb = 0) : MV l G yX11_runCommand cX11_runCommand 4 5 1 3 [.ref (K 7 0)] (stW G (K 0) S ++ (dmO G K F ++ (ctC G (K 5) vb (nI p0) g ++ X))) (fun _ : Unit => True) (fun _ : Unit => stW G (K 0) (cmS S g vb) ++ (dmO G K F ++ (ctC G (K 5) vb (nI p0) g ++ X))) := by
  refine mt_of hF (by decide) (Nat.le_of_ble_eq_true rfl) ?_
  intro p e s m below meth c C hin ls hl H locs hw
  have hl : lv_has ls 4 [(0, .ref (K 7 0))] := hl
  obtain ⟨tm, hzm, htm⟩ := hF.smap
  refine lv_aload_n C.1 C.2.1 dX11_runCommand_0 rfl (lv_at hl 0 rfl) ?_
  refine r_get C hw 19 rfl rfl in_X11 5 (by decide) fl_X11_39 rfl (v := .ref (K 5 0)) rfl dX11_runCommand_1 ?_
  refine r_get C hw 20 rfl rfl in_X2 1 (by decide) fl_X11_419 rfl (v := .ref (K 5 2)) rfl dX11_runCommand_4 ?_
  refine lv_iconst (v := 0) C.1 C.2.1 dX11_runCommand_7 (by decide) ?_
  refine r_toe (show _ = nI 0 from by decide) ?_
  refine r_vi C hw (k7_get hF (ctd_row G (K 0) S K F vb (nI p0) X) (by decide) (f := g) rfl (nI 0)) ml_X11_134 yf_X7_get 21 rfl rfl (As := [.int (nI 0)]) rfl rfl ⟨(Nat.le_of_ble_eq_true rfl), (Nat.le_of_ble_eq_true rfl)⟩ ⟨(Nat.le_of_ble_eq_true rfl), (Nat.le_of_ble_eq_true rfl)⟩ hl.1 (Nat.le_of_ble_eq_true rfl) dX11_runCommand_8 (fun r_8 _ H locs hp_8 hw => ?_)
  obtain rfl : r_8 = g 0 := by rw [hp_8]; exact rget_nI (k := 0) (by decide) (by decide)
  replace hw : WH G s (stW G (K 0) S ++ (dmO G K F ++ (ctC G (K 5) vb (nI p0) g ++ X))) H locs := hw
  refine lv_istore_n (lv' := [(1, .int (g 0)), (0, .ref (K 7 0))]) C.1 C.2.1 dX11_runCommand_11 rfl hl (by decide) rfl (fun ls hl => ?_)
  refine lv_aload_n C.1 C.2.1 dX11_runCommand_12 rfl (lv_at hl 1 rfl) ?_
  refine r_get C hw 19 rfl rfl in_X11 5 (by decide) fl_X11_39 rfl (v := .ref (K 5 0)) rfl dX11_runCommand_13 ?_
  refine r_get C hw 20 rfl rfl in_X2 1 (by decide) fl_X11_419 rfl (v := .ref (K 5 2)) rfl dX11_runCommand_16 ?_
  refine lv_iconst (v := 1) C.1 C.2.1 dX11_runCommand_19 (by decide) ?_
  refine r_toe (show _ = nI 1 from by decide) ?_
  refine r_vi C hw (k7_get hF (ctd_row G (K 0) S K F vb (nI p0) X) (by decide) (f := g) rfl (nI 1)) ml_X11_134 yf_X7_get 21 rfl rfl (As := [.int (nI 1)]) rfl rfl ⟨(Nat.le_of_ble_eq_true rfl), (Nat.le_of_ble_eq_true rfl)⟩ ⟨(Nat.le_of_ble_eq_true rfl), (Nat.le_of_ble_eq_true rfl)⟩ hl.1 (Nat.le_of_ble_eq_true rfl) dX11_runCommand_20 (fun r_20 _ H locs hp_20 hw => ?_)
  obtain rfl : r_20 = g 1 := by rw [hp_20]; exact rget_nI (k := 1) (by decide) (by decide)
  replace hw : WH G s (stW G (K 0) S ++ (dmO G K F ++ (ctC G (K 5) vb (nI p0) g ++ X))) H locs := hw
  refine lv_istore_n (lv' := [(2, .int (g 1)), (1, .int (g 0)), (0, .ref (K 7 0))]) C.1 C.2.1 dX11_runCommand_23 rfl hl (by decide) rfl (fun ls hl => ?_)
  refine lv_aload_n C.1 C.2.1 dX11_runCommand_24 rfl (lv_at hl 2 rfl) ?_
  refine r_get C hw 19 rfl rfl in_X11 5 (by decide) fl_X11_39 rfl (v := .ref (K 5 0)) rfl dX11_runCommand_25 ?_
  refine r_get C hw 20 rfl rfl in_X2 1 (by decide) fl_X11_419 rfl (v := .ref (K 5 2)) rfl dX11_runCommand_28 ?_
  refine lv_iconst (v := 2) C.1 C.2.1 dX11_runCommand_31 (by decide) ?_
  refine r_toe (show _ = nI 2 from by decide) ?_
  refine r_vi C hw (k7_get hF (ctd_row G (K 0) S K F vb (nI p0) X) (by decide) (f := g) rfl (nI 2)) ml_X11_134 yf_X7_get 21 rfl rfl (As := [.int (nI 2)]) rfl rfl ⟨(Nat.le_of_ble_eq_true rfl), (Nat.le_of_ble_eq_true rfl)⟩ ⟨(Nat.le_of_ble_eq_true rfl), (Nat.le_of_ble_eq_true rfl)⟩ hl.1 (Nat.le_of_ble_eq_true rfl) dX11_runCommand_32 (fun r_32 _ H locs hp_32 hw => ?_)
  obtain rfl : r_32 = g 2 := by rw [hp_32]; exact rget_nI (k := 2) (by decide) (by decide)
  replace hw : WH G s (stW G (K 0) S ++ (dmO G K F ++ (ctC G (K 5) vb (nI p0) g ++ X))) H locs := hw
  refine lv_istore_n (lv' := [(3, .int (g 2)), (2, .int (g 1)), (1, .int (g 0)), (0, .ref (K 7 0))]) C.1 C.2.1 dX11_runCommand_35 rfl hl (by decide) rfl (fun ls hl => ?_)
  refine r_gst C hw hzm fl_X11_422 dX11_runCommand_36 ?_
  refine lv_aload_n C.1 C.2.1 dX11_runCommand_39 rfl (lv_at hl 3 rfl) ?_
  refine r_get C hw 19 rfl rfl in_X11 5 (by decide) fl_X11_39 rfl (v := .ref (K 5 0)) rfl dX11_runCommand_40 ?_
  refine r_get C hw 20 rfl rfl in_X2 2 (by decide) fl_X11_428 rfl (v := .ref (G.2.2.2.2 vb)) rfl dX11_runCommand_43 ?_
  refine r_ord C hw hvb hl.1 ⟨Nat.le_of_ble_eq_true rfl, Nat.le_of_ble_eq_true rfl⟩ ⟨Nat.le_of_ble_eq_true rfl, Nat.le_of_ble_eq_true rfl⟩ (Nat.le_of_ble_eq_true rfl) dX11_runCommand_46 (fun H locs hw => ?_)
  refine r_toe (show _ = nI vb from orV_nI hvb) ?_
  refine r_ti C hw htm (i := vb) hvb (by decide) dX11_runCommand_49 ?_
  rcases (show vb = 0 ∨ vb = 1 ∨ vb = 2 ∨ vb = 3 ∨ vb = 4 ∨ vb = 5 ∨ vb = 6 by omega) with hk | hk | hk | hk | hk | hk | hk
  · refine r_toe (show smV vb = 1 by rw [hk]; rfl) ?_
    refine lv_tableIn (tgt := 88) C.1 C.2.1 dX11_runCommand_50 (by decide) (by decide) (off := 38) (by decide) (by decide) ?_
    refine lv_aload_n C.1 C.2.1 dX11_runCommand_88 rfl (lv_at hl 3 rfl) ?_
    refine r_get C hw 19 rfl rfl in_X11 0 (by decide) fl_X11_10 rfl (v := .ref (K 0 0)) rfl dX11_runCommand_89 ?_
    refine r_get C hw 0 rfl rfl in_X9 0 (by decide) fl_X11_73 rfl (v := .ref (K 0 1)) rfl dX11_runCommand_92 ?_
    refine lv_iload_n C.1 C.2.1 dX11_runCommand_95 rfl (lv_at hl 2 rfl) ?_
    refine lv_iload_n C.1 C.2.1 dX11_runCommand_96 rfl (lv_at hl 1 rfl) ?_
    refine r_vi C hw (k8_open hF (a := (K 0)) (S := S) (X := (dmO G K F ++ (ctC G (K 5) vb (nI p0) g ++ X))) ok.2.2.1 (stF_0 (show stF S (g 0) (g 1) = 0 from by rw [hk] at hc0; exact hc0)) (g 0) (g 1)) ml_X11_77 yf_X8_open 1 rfl rfl (As := [.int (g 0), .int (g 1)]) rfl rfl ⟨(Nat.le_of_ble_eq_true rfl), (Nat.le_of_ble_eq_true rfl)⟩ ⟨(Nat.le_of_ble_eq_true rfl), (Nat.le_of_ble_eq_true rfl)⟩ hl.1 (Nat.le_of_ble_eq_true rfl) dX11_runCommand_97 (fun r_97 _ H locs hp_97 hw => ?_)
    obtain rfl : r_97 = nI (nT S) := hp_97
    replace hw : WH G s (stW G (K 0) (opS S (nT S) (g 0) (g 1)) ++ (dmO G K F ++ (ctC G (K 5) vb (nI p0) g ++ X))) H locs := hw
    refine lv_pop C.1 C.2.1 dX11_runCommand_100 rfl ?_
    refine lv_goto (tgt := 179) C.1 C.2.1 dX11_runCommand_101 (by decide) ?_
    have e9 : cmS S g vb = (opS S (nT S) (g 0) (g 1)) := by rw [hk]; rfl
    rw [← e9] at hw
    exact r_vret C hw rfl () trivial rfl (Nat.le_of_ble_eq_true rfl) (Nat.le_of_ble_eq_true rfl) dX11_runCommand_179
  · refine r_toe (show smV vb = 2 by rw [hk]; rfl) ?_
    refine lv_tableIn (tgt := 104) C.1 C.2.1 dX11_runCommand_50 (by decide) (by decide) (off := 54) (by decide) (by decide) ?_
    refine lv_aload_n C.1 C.2.1 dX11_runCommand_104 rfl (lv_at hl 3 rfl) ?_
    refine r_get C hw 19 rfl rfl in_X11 0 (by decide) fl_X11_10 rfl (v := .ref (K 0 0)) rfl dX11_runCommand_105 ?_
    refine lv_iconst (v := 1) C.1 C.2.1 dX11_runCommand_108 (by decide) ?_
    refine lv_iload_n C.1 C.2.1 dX11_runCommand_109 rfl (lv_at hl 2 rfl) ?_
    refine lv_iload_n C.1 C.2.1 dX11_runCommand_110 rfl (lv_at hl 1 rfl) ?_
    refine lv_iload_n C.1 C.2.1 dX11_runCommand_111 rfl (lv_at hl 0 rfl) ?_
    refine lv_iconst (v := 0) C.1 C.2.1 dX11_runCommand_112 (by decide) ?_
    refine r_vi C hw (k9_place hF (a := (K 0)) (S := S) (X := (dmO G K F ++ (ctC G (K 5) vb (nI p0) g ++ X))) ok (by have h9 := of_decide_eq_false (ordF_0 (show ordF S true (g 0) (g 1) (g 2) true (decide (20 ≤ nO S)) = 0 from by rw [hk] at hc0; exact hc0)); omega) true (g 0) (g 1) (g 2) 0) ml_X11_367 yf_X9_place 0 rfl rfl (As := [.int 1, .int (g 0), .int (g 1), .int (g 2), .int 0]) rfl rfl ⟨(Nat.le_of_ble_eq_true rfl), (Nat.le_of_ble_eq_true rfl)⟩ ⟨(Nat.le_of_ble_eq_true rfl), (Nat.le_of_ble_eq_true rfl)⟩ hl.1 (Nat.le_of_ble_eq_true rfl) dX11_runCommand_113 (fun r_113 _ H locs hp_113 hw => ?_)
    obtain rfl : r_113 = S.1 4 := hp_113
    replace hw : WH G s (stW G (K 0) (plS S true (g 0) (g 1) (g 2) 0) ++ (dmO G K F ++ (ctC G (K 5) vb (nI p0) g ++ X))) H locs := hw
    refine lv_pop C.1 C.2.1 dX11_runCommand_116 rfl ?_
    refine lv_goto (tgt := 179) C.1 C.2.1 dX11_runCommand_117 (by decide) ?_
    have e9 : cmS S g vb = (plS S true (g 0) (g 1) (g 2) 0) := by rw [hk]; rfl
    rw [← e9] at hw
    exact r_vret C hw rfl () trivial rfl (Nat.le_of_ble_eq_true rfl) (Nat.le_of_ble_eq_true rfl) dX11_runCommand_179
  · refine r_toe (show smV vb = 3 by rw [hk]; rfl) ?_
    refine lv_tableIn (tgt := 120) C.1 C.2.1 dX11_runCommand_50 (by decide) (by decide) (off := 70) (by decide) (by decide) ?_
    refine lv_aload_n C.1 C.2.1 dX11_runCommand_120 rfl (lv_at hl 3 rfl) ?_
    refine r_get C hw 19 rfl rfl in_X11 0 (by decide) fl_X11_10 rfl (v := .ref (K 0 0)) rfl dX11_runCommand_121 ?_
    refine lv_iconst (v := 0) C.1 C.2.1 dX11_runCommand_124 (by decide) ?_
    refine lv_iload_n C.1 C.2.1 dX11_runCommand_125 rfl (lv_at hl 2 rfl) ?_
    refine lv_iload_n C.1 C.2.1 dX11_runCommand_126 rfl (lv_at hl 1 rfl) ?_
    refine lv_iload_n C.1 C.2.1 dX11_runCommand_127 rfl (lv_at hl 0 rfl) ?_
    refine lv_iconst (v := 0) C.1 C.2.1 dX11_runCommand_128 (by decide) ?_
    refine r_vi C hw (k9_place hF (a := (K 0)) (S := S) (X := (dmO G K F ++ (ctC G (K 5) vb (nI p0) g ++ X))) ok (by have h9 := of_decide_eq_false (ordF_0 (show ordF S false (g 0) (g 1) (g 2) true (decide (20 ≤ nO S)) = 0 from by rw [hk] at hc0; exact hc0)); omega) false (g 0) (g 1) (g 2) 0) ml_X11_367 yf_X9_place 0 rfl rfl (As := [.int 0, .int (g 0), .int (g 1), .int (g 2), .int 0]) rfl rfl ⟨(Nat.le_of_ble_eq_true rfl), (Nat.le_of_ble_eq_true rfl)⟩ ⟨(Nat.le_of_ble_eq_true rfl), (Nat.le_of_ble_eq_true rfl)⟩ hl.1 (Nat.le_of_ble_eq_true rfl) dX11_runCommand_129 (fun r_129 _ H locs hp_129 hw => ?_)
    obtain rfl : r_129 = S.1 4 := hp_129
    replace hw : WH G s (stW G (K 0) (plS S false (g 0) (g 1) (g 2) 0) ++ (dmO G K F ++ (ctC G (K 5) vb (nI p0) g ++ X))) H locs := hw
    refine lv_pop C.1 C.2.1 dX11_runCommand_132 rfl ?_
    refine lv_goto (tgt := 179) C.1 C.2.1 dX11_runCommand_133 (by decide) ?_
    have e9 : cmS S g vb = (plS S false (g 0) (g 1) (g 2) 0) := by rw [hk]; rfl
    rw [← e9] at hw
    exact r_vret C hw rfl () trivial rfl (Nat.le_of_ble_eq_true rfl) (Nat.le_of_ble_eq_true rfl) dX11_runCommand_179
  · refine r_toe (show smV vb = 4 by rw [hk]; rfl) ?_
    refine lv_tableIn (tgt := 136) C.1 C.2.1 dX11_runCommand_50 (by decide) (by decide) (off := 86) (by decide) (by decide) ?_
    refine lv_aload_n C.1 C.2.1 dX11_runCommand_136 rfl (lv_at hl 3 rfl) ?_
    refine r_get C hw 19 rfl rfl in_X11 0 (by decide) fl_X11_10 rfl (v := .ref (K 0 0)) rfl dX11_runCommand_137 ?_
    refine lv_iload_n C.1 C.2.1 dX11_runCommand_140 rfl (lv_at hl 2 rfl) ?_
    obtain ⟨j, hj⟩ := canF_0 (show canF S (g 0) = 0 from by rw [hk] at hc0; exact hc0)
    refine r_vi C hw (k9_withdraw hF (a := (K 0)) (S := S) (X := (dmO G K F ++ (ctC G (K 5) vb (nI p0) g ++ X))) ok hj) ml_X11_99 yf_X9_withdraw 0 rfl rfl (As := [.int (g 0)]) rfl rfl ⟨(Nat.le_of_ble_eq_true rfl), (Nat.le_of_ble_eq_true rfl)⟩ ⟨(Nat.le_of_ble_eq_true rfl), (Nat.le_of_ble_eq_true rfl)⟩ hl.1 (Nat.le_of_ble_eq_true rfl) dX11_runCommand_141 (fun r_141 _ H locs hp_141 hw => ?_)
    obtain rfl : r_141 = S.2.1 6 j := hp_141
    replace hw : WH G s (stW G (K 0) (rmS S (nO S) j) ++ (dmO G K F ++ (ctC G (K 5) vb (nI p0) g ++ X))) H locs := hw
    refine lv_pop C.1 C.2.1 dX11_runCommand_144 rfl ?_
    refine lv_goto (tgt := 179) C.1 C.2.1 dX11_runCommand_145 (by decide) ?_
    have e9 : cmS S g vb = (rmS S (nO S) j) := by rw [hk]; show (match slotF S (g 0) (nO S) with | some j => rmS S (nO S) j | none => S) = _; rw [hj]
    rw [← e9] at hw
    exact r_vret C hw rfl () trivial rfl (Nat.le_of_ble_eq_true rfl) (Nat.le_of_ble_eq_true rfl) dX11_runCommand_179
  · refine r_toe (show smV vb = 5 by rw [hk]; rfl) ?_
    refine lv_tableIn (tgt := 148) C.1 C.2.1 dX11_runCommand_50 (by decide) (by decide) (off := 98) (by decide) (by decide) ?_
    refine lv_aload_n C.1 C.2.1 dX11_runCommand_148 rfl (lv_at hl 3 rfl) ?_
    refine r_get C hw 19 rfl rfl in_X11 0 (by decide) fl_X11_10 rfl (v := .ref (K 0 0)) rfl dX11_runCommand_149 ?_
    refine lv_iload_n C.1 C.2.1 dX11_runCommand_152 rfl (lv_at hl 2 rfl) ?_
    refine r_vi C hw (k9_letPass hF (a := (K 0)) (S := S) (X := (dmO G K F ++ (ctC G (K 5) vb (nI p0) g ++ X))) ok (g 0)) ml_X11_106 yf_X9_letPass 0 rfl rfl (As := [.int (g 0)]) rfl rfl ⟨(Nat.le_of_ble_eq_true rfl), (Nat.le_of_ble_eq_true rfl)⟩ ⟨(Nat.le_of_ble_eq_true rfl), (Nat.le_of_ble_eq_true rfl)⟩ hl.1 (Nat.le_of_ble_eq_true rfl) dX11_runCommand_153 (fun r_153 _ H locs hp_153 hw => ?_)
    obtain rfl : r_153 = (lpS S (g 0)).2 := hp_153
    replace hw : WH G s (stW G (K 0) ((lpS S (g 0)).1) ++ (dmO G K F ++ (ctC G (K 5) vb (nI p0) g ++ X))) H locs := hw
    refine lv_pop C.1 C.2.1 dX11_runCommand_156 rfl ?_
    refine lv_goto (tgt := 179) C.1 C.2.1 dX11_runCommand_157 (by decide) ?_
    have e9 : cmS S g vb = ((lpS S (g 0)).1) := by rw [hk]; rfl
    rw [← e9] at hw
    exact r_vret C hw rfl () trivial rfl (Nat.le_of_ble_eq_true rfl) (Nat.le_of_ble_eq_true rfl) dX11_runCommand_179
  · refine r_toe (show smV vb = 6 by rw [hk]; rfl) ?_
    refine lv_tableIn (tgt := 160) C.1 C.2.1 dX11_runCommand_50 (by decide) (by decide) (off := 110) (by decide) (by decide) ?_
    refine lv_aload_n C.1 C.2.1 dX11_runCommand_160 rfl (lv_at hl 3 rfl) ?_
    refine r_get C hw 19 rfl rfl in_X11 0 (by decide) fl_X11_10 rfl (v := .ref (K 0 0)) rfl dX11_runCommand_161 ?_
    refine r_vi C hw (k9_startPool hF (a := (K 0)) (S := S) (X := (dmO G K F ++ (ctC G (K 5) vb (nI p0) g ++ X)))) ml_X11_113 yf_X9_startPool 0 rfl rfl (As := []) rfl rfl ⟨(Nat.le_of_ble_eq_true rfl), (Nat.le_of_ble_eq_true rfl)⟩ ⟨(Nat.le_of_ble_eq_true rfl), (Nat.le_of_ble_eq_true rfl)⟩ hl.1 (Nat.le_of_ble_eq_true rfl) dX11_runCommand_164 (fun r_164 _ H locs hp_164 hw => ?_)
    obtain rfl : r_164 = S.1 1 := hp_164
    replace hw : WH G s (stW G (K 0) (sI S 2 1) ++ (dmO G K F ++ (ctC G (K 5) vb (nI p0) g ++ X))) H locs := hw
    refine lv_pop C.1 C.2.1 dX11_runCommand_167 rfl ?_
    refine lv_goto (tgt := 179) C.1 C.2.1 dX11_runCommand_168 (by decide) ?_
    have e9 : cmS S g vb = (sI S 2 1) := by rw [hk]; rfl
    rw [← e9] at hw
    exact r_vret C hw rfl () trivial rfl (Nat.le_of_ble_eq_true rfl) (Nat.le_of_ble_eq_true rfl) dX11_runCommand_179
  · refine r_toe (show smV vb = 0 by rw [hk]; rfl) ?_
    refine lv_tableOut (tgt := 171) C.1 C.2.1 dX11_runCommand_50 (Or.inl (by decide)) (by decide) ?_
    refine lv_aload_n C.1 C.2.1 dX11_runCommand_171 rfl (lv_at hl 3 rfl) ?_
    refine r_get C hw 19 rfl rfl in_X11 0 (by decide) fl_X11_10 rfl (v := .ref (K 0 0)) rfl dX11_runCommand_172 ?_
    refine r_vi C hw (k9_endPool hF (a := (K 0)) (S := S) (X := (dmO G K F ++ (ctC G (K 5) vb (nI p0) g ++ X))) ok) ml_X11_120 yf_X9_endPool 0 rfl rfl (As := []) rfl rfl ⟨(Nat.le_of_ble_eq_true rfl), (Nat.le_of_ble_eq_true rfl)⟩ ⟨(Nat.le_of_ble_eq_true rfl), (Nat.le_of_ble_eq_true rfl)⟩ hl.1 (Nat.le_of_ble_eq_true rfl) dX11_runCommand_175 (fun r_175 _ H locs hp_175 hw => ?_)
    obtain rfl : r_175 = (poolS S (nO S)).2.1 := hp_175
    replace hw : WH G s (stW G (K 0) (epS S) ++ (dmO G K F ++ (ctC G (K 5) vb (nI p0) g ++ X))) H locs := hw
    refine lv_pop C.1 C.2.1 dX11_runCommand_178 rfl ?_
    have e9 : cmS S g vb = (epS S) := by rw [hk]; rfl
    rw [← e9] at hw
    exact r_vret C hw rfl () trivial rfl (Nat.le_of_ble_eq_true rfl) (Nat.le_of_ble_eq_true rfl) dX11_runCommand_179

