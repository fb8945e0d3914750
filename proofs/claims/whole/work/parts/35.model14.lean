/-! The model: its own texts -/
section LDC
variable {p : Program} {l : Launch} {e : Env} {R : Room} {s : State} {m : MethodId} {args : Array Value} {below : List Frame} {meth : Method} {c : Code} {H : Heap} {locs : List Loc} {cells slots : Nat} {Q : State → Prop}
variable {G : Gx} {own : String} {cc : ByteArray} {nL : Nat} {ret : Option FieldType} {pc : Nat} {ls : Array Slot} {rest st : List Value} {w : va_W}
theorem r_ldcS (C : Cx l G own cc nL ret p s m meth c args) {index q : Nat} {tx : String} (h : vk_R own index tx q G.2.1) (hdg : decode cc pc = .ok (.ldc index, 2))
    (kk : W p l e R s m args below meth c H locs cells slots Q (F0 m (pc + 2) ls (.ref q :: rest))) : W p l e R s m args below meth c H locs cells slots Q (F0 m pc ls rest) := by
  obtain ⟨hx, hb, hr, hml, hown, hts, -, hW, hF⟩ := id C
  exact va_ldcS hx hb hown (h.warm hW) hdg kk
end LDC
theorem lit_of {G : Gx} {own tx : String} {k b : Nat} {L : List Int32} (hL : L.length < 2 ^ 31) (h1 : (Cond.stringRef own k tx).before #[Value.ref b] G.2.1 = true) (h2 : (Cond.exactly (.string own k) "java/lang/String").before #[Value.ref b] G.2.1 = true) (h3 : (Cond.eq (.field (.string own k) "java/lang/String" "coder" "B") (.int 0)).before #[Value.ref b] G.2.1 = true)
    (h4 : (Cond.arrayOf (.field (.string own k) "java/lang/String" "value" "[B") .byte).before #[Value.ref b] G.2.1 = true) (h5 : (Cond.eq (.length (.field (.string own k) "java/lang/String" "value" "[B")) (.int (Int32.ofNat L.length))).before #[Value.ref b] G.2.1 = true)
    (h6 : ∀ j : Nat, j < L.length → (Cond.eq (.elem (.field (.string own k) "java/lang/String" "value" "[B") (.int (Int32.ofNat j))) (.int (L.getD j 0))).before #[Value.ref b] G.2.1 = true) : ∃ a, vk_R own k tx a G.2.1 ∧ StrAt G a L := by
  obtain ⟨adK, adV, hS, hE⟩ := vk_Sof (args := #[Value.ref b]) (s := G.2.1) (N := 1) (tm := fun _ => .string own k) (len := [L.length]) (byt := [L]) (A := gA G)
    (fun i hi => by have q := Nat.lt_one_iff.mp hi; subst q; exact hL) (fun i hi => h2) (fun i hi => h3) (fun i hi => h4) (fun i hi => by have q := Nat.lt_one_iff.mp hi; subst q; exact h5) (fun i hi j hj => by have q := Nat.lt_one_iff.mp hi; subst q; exact h6 j hj) (fun i j hi hj hij => absurd (by omega : i = j) hij) (gA_no G)
  obtain ⟨g1, g2, g3, g4⟩ := hS.1 0 (by omega)
  exact ⟨adK 0, vk_R.of h1 (hE 0 (by omega)), adV 0, g1, g2, g3, g4⟩

set_option maxHeartbeats 4000000 in
set_option maxRecDepth 100000 in
theorem k12_behind {l : Launch} {G : Gx} (hF : SF l G) {mo : Nat → Nat} {U : MV_} {X : va_W} {t : Nat} (ht1 : U.1 5 = nI t) {n : Nat} (hn1 : U.1 4 = nI n) (hn : n ≤ 60) (ht : t ≤ n) {k : Nat} (hk : k < 2) : MI l G yX12_behind cX12_behind 2 .int 0 0 0 [.ref (mo 0), .int (nI k)] (moW G mo U ++ X) (fun r _ => r = beC U n t k) (fun _ : Unit => moW G mo (U) ++ X) := by
  refine mt_of hF (by decide) (Nat.le_of_ble_eq_true rfl) ?_
  intro p e s m below meth c C hin ls hl H locs hw
  have hl : lv_has ls 2 [(0, .ref (mo 0)), (1, .int (nI k))] := hl
  refine lv_aload_n C.1 C.2.1 dX12_behind_0 rfl (lv_at hl 0 rfl) ?_
  refine r_get C hw 0 rfl rfl in_X12 11 (by decide) fl_X12_185 rfl (v := .int (U.1 5)) rfl dX12_behind_1 ?_
  refine r_toe (show _ = nI t from ht1) ?_
  refine lv_iload_n C.1 C.2.1 dX12_behind_4 rfl (lv_at hl 1 rfl) ?_
  refine lv_iadd C.1 C.2.1 dX12_behind_5 ?_
  refine r_toe (nI_add t k) ?_
  refine lv_aload_n C.1 C.2.1 dX12_behind_6 rfl (lv_at hl 0 rfl) ?_
  refine r_get C hw 0 rfl rfl in_X12 10 (by decide) fl_X12_182 rfl (v := .int (U.1 4)) rfl dX12_behind_7 ?_
  refine r_toe (show _ = nI n from hn1) ?_
  refine lv_icmp_ge (tgt := 27) C.1 C.2.1 dX12_behind_10 (by decide) (fun c_10 => ?_) (fun c_10 => ?_)
  · have hz : ¬ t + k < n := by rw [nI_leI (by omega) (by omega)] at c_10; omega
    refine lv_iconst (v := -1) C.1 C.2.1 dX12_behind_27 (by decide) ?_
    exact r_iret C hw rfl rfl () (by rw [beC, if_neg hz]) rfl (Nat.le_of_ble_eq_true rfl) (Nat.le_of_ble_eq_true rfl) dX12_behind_28
  · have hz : t + k < n := by rw [nI_leI (by omega) (by omega)] at c_10; omega
    refine lv_aload_n C.1 C.2.1 dX12_behind_13 rfl (lv_at hl 0 rfl) ?_
    refine r_get C hw 0 rfl rfl in_X12 9 (by decide) fl_X12_26 rfl (v := .ref (mo 6)) rfl dX12_behind_14 ?_
    refine lv_aload_n C.1 C.2.1 dX12_behind_17 rfl (lv_at hl 0 rfl) ?_
    refine r_get C hw 0 rfl rfl in_X12 11 (by decide) fl_X12_185 rfl (v := .int (U.1 5)) rfl dX12_behind_18 ?_
    refine r_toe (show _ = nI t from ht1) ?_
    refine lv_iload_n C.1 C.2.1 dX12_behind_21 rfl (lv_at hl 1 rfl) ?_
    refine lv_iadd C.1 C.2.1 dX12_behind_22 ?_
    refine r_toe (nI_add t k) ?_
    refine r_cald C hw 6 rfl (vp_in_nI (n := (t + k)) (by omega) (by decide)) dX12_behind_23 ?_
    refine r_toe (show _ = (U.2 5) (t + k) from congrArg (U.2 5) (nI_clamp (n := (t + k)) (by omega))) ?_
    refine lv_goto (tgt := 28) C.1 C.2.1 dX12_behind_24 (by decide) ?_
    exact r_iret C hw rfl rfl () (by rw [beC, if_pos hz]) rfl (Nat.le_of_ble_eq_true rfl) (Nat.le_of_ble_eq_true rfl) dX12_behind_28

