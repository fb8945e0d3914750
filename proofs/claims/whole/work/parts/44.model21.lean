/-! The model: means; its constructor -/
section NEWA
variable {p : Program} {l : Launch} {e : Env} {R : Room} {s : State} {m : MethodId} {args : Array Value} {below : List Frame} {meth : Method} {c : Code} {H : Heap} {locs : List Loc} {cells slots : Nat} {Q : State → Prop}
variable {G : Gx} {own : String} {cc : ByteArray} {nL : Nat} {ret : Option FieldType} {pc : Nat} {ls : Array Slot} {rest st : List Value} {w : va_W}
theorem ra_eq {G : Gx} {s : State} {t0 : Nat} {ty : FieldType} {cA : ClassId} (h1 : va_RA s (G.2.2.1 t0) ty) (h2 : va_RA s cA ty) : cA = G.2.2.1 t0 := by
  cases ty
  case object C =>
    obtain ⟨_, _, -, -, -, e1⟩ := h1
    obtain ⟨_, _, -, -, -, e2⟩ := h2
    exact Option.some.inj (e2.symm.trans e1)
  all_goals exact Option.some.inj (h2.symm.trans h1)
theorem r_newa (C : Cx l G own cc nL ret p s m meth c args) (hw : WH G s w H locs) {atype : ArrayType} {ty : FieldType} (t0 : Nat) (hty : newarray.typeOf atype = ty) (ht : (gT G)[t0]? = some (G.2.2.1 t0, ty)) (hac : Cond.arrayClass (newarray.typeOf atype) ∈ LW) {n : Nat} (hdf : defaultValue ty = .int 0) (hn : n < 2 ^ 31) {w' : Nat → va_W} (hp : ∀ q, List.Perm (w ++ [(q, .inl (G.2.2.1 t0, n, .inl (fun _ => 0)))]) (w' q)) (hbytes : n * componentBytes ty ≤ 536870912) (hcells : cells + 1 ≤ R.cells) (hslots : slots + n ≤ R.slots) (hdg : decode cc pc = .ok (.newarray atype, 2))
    (kk : ∀ (q : Nat) (H : Heap) (locs : List Loc), WH G s (w' q) H locs → W p l e R s m args below meth c H locs (cells + 1) (slots + n) Q (F0 m (pc + 2) ls (.ref q :: rest))) : W p l e R s m args below meth c H locs cells slots Q (F0 m pc ls (.int (nI n) :: rest)) := by
  obtain ⟨hx, hb, hr, hml, hown, hts, -, -, -⟩ := id C
  refine va_newa (D := G.1) (a0 := (n, .inl (fun _ => 0))) hx hb (hts _ hac) hty C.K hw.2.2.1 hw.2.2.2 hw.2.1 (fun q h => Nat.le_trans hw.1.1 h) (fun cA => ?_) (nI_pos hn) (nI_clamp hn) hbytes hcells hslots hdg (fun q cA H1 hK hP hD hS => ?_)
  · show arrV cA n (fun _ => .int 0) = _
    rw [hdf]
  · have e1 : va_RA s (G.2.2.1 t0) ty := ((C.K).2 t0 _ ht).2
    have e2 : va_RA s cA ty := (hK.2 (gT G).length (cA, ty) (by rw [List.getElem?_append_right (Nat.le_refl _), Nat.sub_self]; rfl)).2
    rw [ra_eq e1 e2] at hP hD
    exact kk q H1 _ (WH.perm ⟨hw.1, hS, hP, hD⟩ (hp q))
end NEWA
def bsF (f : Nat → Int32) (n : Nat) : Int32 := fr (fun p a => a + oF f p 2) n 0
theorem bsF_s (f : Nat → Int32) (n : Nat) : bsF f (n + 1) = bsF f n + oF f n 2 := by unfold bsF; exact fr_s _ _ _

set_option maxHeartbeats 4000000 in
set_option maxRecDepth 100000 in
theorem k12_meanPrice {l : Launch} {G : Gx} (hF : SF l G) {mo : Nat → Nat} {U : MV_} {X : va_W} (hd : ¬ U.2 0 6 ≤ 0 → U.2 0 7 ≠ 0) : MD_ l G yX12_meanPrice cX12_meanPrice 1 1 0 0 [.ref (mo 0)] (moW G mo U ++ X) (fun r _ => r = (if laB (U.2 0) = true then FP.ddiv (FP.i2d (U.2 0 8)) (FP.i2d (U.2 0 7)) else FP.dconst0)) (fun _ : Unit => moW G mo (mI U 2 (bI (!laB (U.2 0)))) ++ X) := by
  refine mt_of hF (by decide) (Nat.le_of_ble_eq_true rfl) ?_
  intro p e s m below meth c C hin ls hl H locs hw
  have hl : lv_has ls 1 [(0, .ref (mo 0))] := hl
  refine lv_aload_n C.1 C.2.1 dX12_meanPrice_0 rfl (lv_at hl 0 rfl) ?_
  refine lv_aload_n C.1 C.2.1 dX12_meanPrice_1 rfl (lv_at hl 0 rfl) ?_
  refine r_get C hw 0 rfl rfl in_X12 0 (by decide) fl_X12_9 rfl (v := .ref (mo 1)) rfl dX12_meanPrice_2 ?_
  refine lv_bipush (v := 6) C.1 C.2.1 dX12_meanPrice_5 (by decide) ?_
  refine r_iald C hw 1 rfl (vp_in_nI (n := 6) (by omega) (by decide)) dX12_meanPrice_7 ?_
  refine r_toe (show _ = (U.2 0) 6 from congrArg (U.2 0) (nI_clamp (n := 6) (by omega))) ?_
  refine lv_if_le (tgt := 15) C.1 C.2.1 dX12_meanPrice_8 (by decide) (fun c_8 => ?_) (fun c_8 => ?_)
  · refine lv_iconst (v := 0) C.1 C.2.1 dX12_meanPrice_15 (by decide) ?_
    refine r_vi C hw (k12_isThere hF (mo := mo) (U := U) (X := X) false) ml_X12_142 yf_X12_isThere 0 rfl rfl (As := [.int 0]) rfl rfl ⟨Nat.le_of_ble_eq_true rfl, Nat.le_of_ble_eq_true rfl⟩ ⟨Nat.le_of_ble_eq_true rfl, Nat.le_of_ble_eq_true rfl⟩ hl.1 (Nat.le_of_ble_eq_true rfl) dX12_meanPrice_16 (fun r_16 _ H locs hp_16 hw => ?_)
    obtain rfl : r_16 = bI false := hp_16
    replace hw : WH G s (moW G mo (mI U 2 (bI (!false))) ++ X) H locs := hw
    refine lv_if_eq (tgt := 42) C.1 C.2.1 dX12_meanPrice_19 (by decide) (fun c_19 => ?_) (fun c_19 => absurd (by decide) c_19)
    refine lv_dconst0 C.1 C.2.1 dX12_meanPrice_42 ?_
    have hz : laB (U.2 0) = false := by simp [laB, c_8]
    exact r_dret C hw rfl () (by rw [hz]; rfl) (by rw [hz] <;> rfl) (Nat.le_of_ble_eq_true rfl) (Nat.le_of_ble_eq_true rfl) dX12_meanPrice_43
  · refine lv_iconst (v := 1) C.1 C.2.1 dX12_meanPrice_11 (by decide) ?_
    refine lv_goto (tgt := 16) C.1 C.2.1 dX12_meanPrice_12 (by decide) ?_
    refine r_vi C hw (k12_isThere hF (mo := mo) (U := U) (X := X) true) ml_X12_142 yf_X12_isThere 0 rfl rfl (As := [.int 1]) rfl rfl ⟨Nat.le_of_ble_eq_true rfl, Nat.le_of_ble_eq_true rfl⟩ ⟨Nat.le_of_ble_eq_true rfl, Nat.le_of_ble_eq_true rfl⟩ hl.1 (Nat.le_of_ble_eq_true rfl) dX12_meanPrice_16 (fun r_16 _ H locs hp_16 hw => ?_)
    obtain rfl : r_16 = bI true := hp_16
    replace hw : WH G s (moW G mo (mI U 2 (bI (!true))) ++ X) H locs := hw
    refine lv_if_eq (tgt := 42) C.1 C.2.1 dX12_meanPrice_19 (by decide) (fun c_19 => absurd c_19 (by decide)) (fun c_19 => ?_)
    refine lv_aload_n C.1 C.2.1 dX12_meanPrice_22 rfl (lv_at hl 0 rfl) ?_
    refine r_get C hw 0 rfl rfl in_X12 0 (by decide) fl_X12_9 rfl (v := .ref (mo 1)) rfl dX12_meanPrice_23 ?_
    refine lv_bipush (v := 8) C.1 C.2.1 dX12_meanPrice_26 (by decide) ?_
    refine r_iald C hw 1 rfl (vp_in_nI (n := 8) (by omega) (by decide)) dX12_meanPrice_28 ?_
    refine r_toe (show _ = (U.2 0) 8 from congrArg (U.2 0) (nI_clamp (n := 8) (by omega))) ?_
    refine lv_i2d C.1 C.2.1 dX12_meanPrice_29 ?_
    refine lv_aload_n C.1 C.2.1 dX12_meanPrice_30 rfl (lv_at hl 0 rfl) ?_
    refine r_get C hw 0 rfl rfl in_X12 0 (by decide) fl_X12_9 rfl (v := .ref (mo 1)) rfl dX12_meanPrice_31 ?_
    refine lv_bipush (v := 7) C.1 C.2.1 dX12_meanPrice_34 (by decide) ?_
    refine r_iald C hw 1 rfl (vp_in_nI (n := 7) (by omega) (by decide)) dX12_meanPrice_36 ?_
    refine r_toe (show _ = (U.2 0) 7 from congrArg (U.2 0) (nI_clamp (n := 7) (by omega))) ?_
    refine lv_i2d C.1 C.2.1 dX12_meanPrice_37 ?_
    refine lv_ddiv C.1 C.2.1 dX12_meanPrice_38 (fp_ddiv _ _ (hd c_8)) ?_
    refine lv_goto (tgt := 43) C.1 C.2.1 dX12_meanPrice_39 (by decide) ?_
    have hz : laB (U.2 0) = true := by simp [laB, c_8]
    exact r_dret C hw rfl () (by rw [hz]; rfl) (by rw [hz] <;> rfl) (Nat.le_of_ble_eq_true rfl) (Nat.le_of_ble_eq_true rfl) dX12_meanPrice_43

theorem by_contra_pos {n : Nat} (h : n = 0 → False) : 0 < n := Nat.pos_of_ne_zero h

set_option maxHeartbeats 4000000 in
set_option maxRecDepth 100000 in
theorem k12_buyingShare {l : Launch} {G : Gx} (hF : SF l G) {mo : Nat → Nat} {U : MV_} {X : va_W} (hok : okF (U.2 0)) {a : Nat} (ha : a < 21) (hbs : bsF (U.2 0) (nF (U.2 0)) = nI a) : MF_ l G yX12_buyingShare cX12_buyingShare 3 1 0 0 [.ref (mo 0)] (moW G mo U ++ X) (fun r _ => r = (if decide (0 < nF (U.2 0)) = true then FP.fdiv (FP.i2f (nI a)) (FP.i2f (nI (nF (U.2 0)))) else FP.fconst0)) (fun _ : Unit => moW G mo (mI U 2 (bI (!decide (0 < nF (U.2 0))))) ++ X) := by
  refine mt_of hF (by decide) (Nat.le_of_ble_eq_true rfl) ?_
  intro p e s m below meth c C hin ls hl H locs hw
  have hl : lv_has ls 3 [(0, .ref (mo 0))] := hl
  refine lv_iconst (v := 0) C.1 C.2.1 dX12_buyingShare_0 (by decide) ?_
  refine lv_istore_n (lv' := [(1, .int 0), (0, .ref (mo 0))]) C.1 C.2.1 dX12_buyingShare_1 rfl hl (by decide) rfl (fun ls hl => ?_)
  refine lv_iconst (v := 0) C.1 C.2.1 dX12_buyingShare_2 (by decide) ?_
  refine lv_istore_n (lv' := [(2, .int 0), (1, .int 0), (0, .ref (mo 0))]) C.1 C.2.1 dX12_buyingShare_3 rfl hl (by decide) rfl (fun ls hl => ?_)
  refine w_loop (σ := Nat × Int32) G (fun u ⟨k, x⟩ => k ≤ (nF (U.2 0)) ∧ (nF (U.2 0)) < k + u ∧ x = bsF (U.2 0) k) (fun ⟨k, x⟩ => moW G mo U ++ X) (fun ⟨k, x⟩ => 0) (fun ⟨k, x⟩ => 0) (fun ⟨k, x⟩ => [(0, .ref (mo 0)), (1, .int x), (2, .int (nI k))]) 3 ?_ ?_ ((nF (U.2 0)) + 1) (0, 0) (⟨Nat.zero_le _, by omega, rfl⟩) hw (lv_sub hl [2, 1, 0] rfl)
  · rintro n4 ⟨k, x⟩ ⟨h1, h2, h3⟩ ih4 H locs hw ls hl
    replace hw : WH G s (moW G mo U ++ X) H locs := hw
    replace hl : lv_has ls 3 [(0, .ref (mo 0)), (1, .int x), (2, .int (nI k))] := hl
    have hn20 := hok.2.1
    refine lv_iload_n C.1 C.2.1 dX12_buyingShare_4 rfl (lv_at hl 2 rfl) ?_
    refine lv_aload_n C.1 C.2.1 dX12_buyingShare_5 rfl (lv_at hl 0 rfl) ?_
    refine r_get C hw 0 rfl rfl in_X12 0 (by decide) fl_X12_9 rfl (v := .ref (mo 1)) rfl dX12_buyingShare_6 ?_
    refine lv_iconst (v := 1) C.1 C.2.1 dX12_buyingShare_9 (by decide) ?_
    refine r_iald C hw 1 rfl (vp_in_nI (n := 1) (by omega) (by decide)) dX12_buyingShare_10 ?_
    refine r_toe (show _ = (U.2 0) 1 from congrArg (U.2 0) (nI_clamp (n := 1) (by omega))) ?_
    refine r_toe (show _ = nI (nF (U.2 0)) from hok.1) ?_
    refine lv_icmp_ge (tgt := 29) C.1 C.2.1 dX12_buyingShare_11 (by decide) (fun c_11 => ?_) (fun c_11 => ?_)
    · have hkn : k = nF (U.2 0) := le_T h1 (by omega) c_11
      have hxa : x = nI a := by rw [h3, hkn]; exact hbs
      refine lv_aload_n C.1 C.2.1 dX12_buyingShare_29 rfl (lv_at hl 0 rfl) ?_
      refine lv_aload_n C.1 C.2.1 dX12_buyingShare_30 rfl (lv_at hl 0 rfl) ?_
      refine r_get C hw 0 rfl rfl in_X12 0 (by decide) fl_X12_9 rfl (v := .ref (mo 1)) rfl dX12_buyingShare_31 ?_
      refine lv_iconst (v := 1) C.1 C.2.1 dX12_buyingShare_34 (by decide) ?_
      refine r_iald C hw 1 rfl (vp_in_nI (n := 1) (by omega) (by decide)) dX12_buyingShare_35 ?_
      refine r_toe (show _ = (U.2 0) 1 from congrArg (U.2 0) (nI_clamp (n := 1) (by omega))) ?_
      refine r_toe (show _ = nI (nF (U.2 0)) from hok.1) ?_
      refine lv_if_le (tgt := 43) C.1 C.2.1 dX12_buyingShare_36 (by decide) (fun c_36 => ?_) (fun c_36 => ?_)
      · have hzz : ¬ 0 < nF (U.2 0) := fun q => nI_nle q (by omega) c_36
        refine lv_iconst (v := 0) C.1 C.2.1 dX12_buyingShare_43 (by decide) ?_
        refine r_vi C hw (k12_isThere hF (mo := mo) (U := U) (X := X) false) ml_X12_142 yf_X12_isThere 0 rfl rfl (As := [.int 0]) rfl rfl ⟨Nat.le_of_ble_eq_true rfl, Nat.le_of_ble_eq_true rfl⟩ ⟨Nat.le_of_ble_eq_true rfl, Nat.le_of_ble_eq_true rfl⟩ hl.1 (Nat.le_of_ble_eq_true rfl) dX12_buyingShare_44 (fun r_44 _ H locs hp_44 hw => ?_)
        obtain rfl : r_44 = bI false := hp_44
        replace hw : WH G s (moW G mo (mI U 2 (bI (!false))) ++ X) H locs := hw
        refine lv_if_eq (tgt := 63) C.1 C.2.1 dX12_buyingShare_47 (by decide) (fun c_47 => ?_) (fun c_47 => absurd (by decide) c_47)
        refine lv_fconst0 C.1 C.2.1 dX12_buyingShare_63 ?_
        have hz : decide (0 < nF (U.2 0)) = false := by simp [hzz]
        exact r_fret C hw rfl () (by rw [hz]; rfl) (by rw [hz] <;> rfl) (Nat.le_of_ble_eq_true rfl) (Nat.le_of_ble_eq_true rfl) dX12_buyingShare_64
      · have hzz : 0 < nF (U.2 0) := by_contra_pos (fun q => c_36 (by rw [q]; exact Int32.le_refl 0))
        refine lv_iconst (v := 1) C.1 C.2.1 dX12_buyingShare_39 (by decide) ?_
        refine lv_goto (tgt := 44) C.1 C.2.1 dX12_buyingShare_40 (by decide) ?_
        refine r_vi C hw (k12_isThere hF (mo := mo) (U := U) (X := X) true) ml_X12_142 yf_X12_isThere 0 rfl rfl (As := [.int 1]) rfl rfl ⟨Nat.le_of_ble_eq_true rfl, Nat.le_of_ble_eq_true rfl⟩ ⟨Nat.le_of_ble_eq_true rfl, Nat.le_of_ble_eq_true rfl⟩ hl.1 (Nat.le_of_ble_eq_true rfl) dX12_buyingShare_44 (fun r_44 _ H locs hp_44 hw => ?_)
        obtain rfl : r_44 = bI true := hp_44
        replace hw : WH G s (moW G mo (mI U 2 (bI (!true))) ++ X) H locs := hw
        refine lv_if_eq (tgt := 63) C.1 C.2.1 dX12_buyingShare_47 (by decide) (fun c_47 => absurd c_47 (by decide)) (fun c_47 => ?_)
        refine lv_iload_n C.1 C.2.1 dX12_buyingShare_50 rfl (lv_at hl 1 rfl) ?_
        refine r_toe (show _ = nI a from hxa) ?_
        refine lv_i2f C.1 C.2.1 dX12_buyingShare_51 ?_
        refine lv_aload_n C.1 C.2.1 dX12_buyingShare_52 rfl (lv_at hl 0 rfl) ?_
        refine r_get C hw 0 rfl rfl in_X12 0 (by decide) fl_X12_9 rfl (v := .ref (mo 1)) rfl dX12_buyingShare_53 ?_
        refine lv_iconst (v := 1) C.1 C.2.1 dX12_buyingShare_56 (by decide) ?_
        refine r_iald C hw 1 rfl (vp_in_nI (n := 1) (by omega) (by decide)) dX12_buyingShare_57 ?_
        refine r_toe (show _ = (U.2 0) 1 from congrArg (U.2 0) (nI_clamp (n := 1) (by omega))) ?_
        refine r_toe (show _ = nI (nF (U.2 0)) from hok.1) ?_
        refine lv_i2f C.1 C.2.1 dX12_buyingShare_58 ?_
        refine lv_fdiv C.1 C.2.1 dX12_buyingShare_59 ((fp_fdiv a (nF (U.2 0)) ha (by omega) hzz).1) ?_
        refine lv_goto (tgt := 64) C.1 C.2.1 dX12_buyingShare_60 (by decide) ?_
        have hz : decide (0 < nF (U.2 0)) = true := by simp [hzz]
        exact r_fret C hw rfl () (by rw [hz]; rfl) (by rw [hz] <;> rfl) (Nat.le_of_ble_eq_true rfl) (Nat.le_of_ble_eq_true rfl) dX12_buyingShare_64
    · have hk := le_F h1 (by omega) c_11
      refine lv_iload_n C.1 C.2.1 dX12_buyingShare_14 rfl (lv_at hl 1 rfl) ?_
      refine lv_aload_n C.1 C.2.1 dX12_buyingShare_15 rfl (lv_at hl 0 rfl) ?_
      refine lv_iload_n C.1 C.2.1 dX12_buyingShare_16 rfl (lv_at hl 2 rfl) ?_
      refine lv_iconst (v := 2) C.1 C.2.1 dX12_buyingShare_17 (by decide) ?_
      refine r_vi C hw (k12_of hF (mo := mo) (U := U) (X := X) (i := k) (k := 2) (by omega) (by omega)) ml_X12_55 yf_X12_of 0 rfl rfl (As := [.int (nI k), .int 2]) rfl rfl ⟨Nat.le_of_ble_eq_true rfl, Nat.le_of_ble_eq_true rfl⟩ ⟨Nat.le_of_ble_eq_true rfl, Nat.le_of_ble_eq_true rfl⟩ hl.1 (Nat.le_of_ble_eq_true rfl) dX12_buyingShare_18 (fun r_18 _ H locs hp_18 hw => ?_)
      obtain rfl : r_18 = oF (U.2 0) k 2 := hp_18
      replace hw : WH G s (moW G mo U ++ X) H locs := hw
      refine lv_iadd C.1 C.2.1 dX12_buyingShare_21 ?_
      refine lv_istore_n (lv' := [(1, .int (x + (oF (U.2 0) k 2))), (0, .ref (mo 0)), (2, .int (nI k))]) C.1 C.2.1 dX12_buyingShare_22 rfl hl (by decide) rfl (fun ls hl => ?_)
      refine lv_iinc (v := nI (k + 1)) (lv' := [(2, .int (nI (k + 1))), (1, .int (x + (oF (U.2 0) k 2))), (0, .ref (mo 0))]) C.1 C.2.1 dX12_buyingShare_23 hl (k := 2) rfl (inc_nI k) (by decide) rfl (fun ls hl => ?_)
      refine lv_goto (tgt := 4) C.1 C.2.1 dX12_buyingShare_26 (by decide) ?_
      exact ih4 (k + 1, x + oF (U.2 0) k 2) (⟨by omega, by omega, by rw [bsF_s, ← h3]⟩) _ _ hw _ (lv_sub hl [2, 1, 0] rfl)
  · rintro ⟨k, x⟩ ⟨h1, h2, h3⟩; omega

/-- a new model -/
def mo0 : MV_ := (fun k => if k = 7 ∨ k = 8 then -1 else 0, fun _ _ => 0)

set_option maxHeartbeats 4000000 in
set_option maxRecDepth 100000 in
theorem k12_init {l : Launch} {G : Gx} (hF : SF l G) {X : va_W} {q : Nat} : MV l G yX12_init cX12_init 1 1 8 1957 [.ref q] ((q, .inr (13, [.null, .null, .null, .int 0, .null, .int 0, .int 0, .null, .int 0, .null, .int 0, .int 0, .int 0, .int 0, .int 0, .null, .int 0])) :: X) (fun a : Nat → Nat => a 0 = q) (fun a => moW G a mo0 ++ X) := by
  refine mt_of hF (by decide) (Nat.le_of_ble_eq_true rfl) ?_
  intro p e s m below meth c C hin ls hl H locs hw
  have hl : lv_has ls 1 [(0, .ref q)] := hl
  refine lv_aload_n C.1 C.2.1 dX12_init_0 rfl (lv_at hl 0 rfl) ?_
  refine r_objInit C ml_X12_3 obj_i1 obj_i2 hl.1 dX12_init_1 (Nat.le_of_ble_eq_true rfl) (Nat.le_of_ble_eq_true rfl) ?_
  refine lv_aload_n C.1 C.2.1 dX12_init_4 rfl (lv_at hl 0 rfl) ?_
  refine lv_sipush (v := 147) C.1 C.2.1 dX12_init_5 (by decide) ?_
  refine r_newa C hw (atype := .int) 0 rfl rfl ac_int (n := 147) rfl (by decide) (w' := fun z => (q, .inr (13, [.null, .null, .null, .int 0, .null, .int 0, .int 0, .null, .int 0, .null, .int 0, .int 0, .int 0, .int 0, .int 0, .null, .int 0])) :: ((z, .inl (G.2.2.1 0, 147, .inl (fun _ => 0))) :: X)) (fun z => (List.perm_append_singleton _ _).cons _) (Nat.le_of_ble_eq_true rfl) (Nat.le_of_ble_eq_true rfl) (Nat.le_of_ble_eq_true rfl) dX12_init_8 (fun q_8 H locs hw => ?_)
  replace hw : WH G s ((q, .inr (13, [.null, .null, .null, .int 0, .null, .int 0, .int 0, .null, .int 0, .null, .int 0, .int 0, .int 0, .int 0, .int 0, .null, .int 0])) :: ((q_8, .inl (G.2.2.1 0, 147, .inl (fun _ => 0))) :: X)) H locs := hw
  refine r_putF C hw 0 rfl rfl in_X12 tyX12 tyX12_ok nmX12 0 (by decide) fl_X12_9 rfl rfl hin rfl rfl rfl (Nat.le_of_ble_eq_true rfl) (w' := (q, .inr (13, [.ref q_8, .null, .null, .int 0, .null, .int 0, .int 0, .null, .int 0, .null, .int 0, .int 0, .int 0, .int 0, .int 0, .null, .int 0])) :: ((q_8, .inl (G.2.2.1 0, 147, .inl (fun _ => 0))) :: X)) rfl dX12_init_10 (fun H locs hw => ?_)
  refine lv_aload_n C.1 C.2.1 dX12_init_13 rfl (lv_at hl 0 rfl) ?_
  refine lv_sipush (v := 147) C.1 C.2.1 dX12_init_14 (by decide) ?_
  refine r_newa C hw (atype := .int) 0 rfl rfl ac_int (n := 147) rfl (by decide) (w' := fun z => (q, .inr (13, [.ref q_8, .null, .null, .int 0, .null, .int 0, .int 0, .null, .int 0, .null, .int 0, .int 0, .int 0, .int 0, .int 0, .null, .int 0])) :: ((z, .inl (G.2.2.1 0, 147, .inl (fun _ => 0))) :: ((q_8, .inl (G.2.2.1 0, 147, .inl (fun _ => 0))) :: X))) (fun z => (List.perm_append_singleton _ _).cons _) (Nat.le_of_ble_eq_true rfl) (Nat.le_of_ble_eq_true rfl) (Nat.le_of_ble_eq_true rfl) dX12_init_17 (fun q_17 H locs hw => ?_)
  replace hw : WH G s ((q, .inr (13, [.ref q_8, .null, .null, .int 0, .null, .int 0, .int 0, .null, .int 0, .null, .int 0, .int 0, .int 0, .int 0, .int 0, .null, .int 0])) :: ((q_17, .inl (G.2.2.1 0, 147, .inl (fun _ => 0))) :: ((q_8, .inl (G.2.2.1 0, 147, .inl (fun _ => 0))) :: X))) H locs := hw
  refine r_putF C hw 0 rfl rfl in_X12 tyX12 tyX12_ok nmX12 1 (by decide) fl_X12_13 rfl rfl hin rfl rfl rfl (Nat.le_of_ble_eq_true rfl) (w' := (q, .inr (13, [.ref q_8, .ref q_17, .null, .int 0, .null, .int 0, .int 0, .null, .int 0, .null, .int 0, .int 0, .int 0, .int 0, .int 0, .null, .int 0])) :: ((q_17, .inl (G.2.2.1 0, 147, .inl (fun _ => 0))) :: ((q_8, .inl (G.2.2.1 0, 147, .inl (fun _ => 0))) :: X))) rfl dX12_init_19 (fun H locs hw => ?_)
  refine lv_aload_n C.1 C.2.1 dX12_init_22 rfl (lv_at hl 0 rfl) ?_
  refine lv_sipush (v := 147) C.1 C.2.1 dX12_init_23 (by decide) ?_
  refine r_newa C hw (atype := .int) 0 rfl rfl ac_int (n := 147) rfl (by decide) (w' := fun z => (q, .inr (13, [.ref q_8, .ref q_17, .null, .int 0, .null, .int 0, .int 0, .null, .int 0, .null, .int 0, .int 0, .int 0, .int 0, .int 0, .null, .int 0])) :: ((z, .inl (G.2.2.1 0, 147, .inl (fun _ => 0))) :: ((q_17, .inl (G.2.2.1 0, 147, .inl (fun _ => 0))) :: ((q_8, .inl (G.2.2.1 0, 147, .inl (fun _ => 0))) :: X)))) (fun z => (List.perm_append_singleton _ _).cons _) (Nat.le_of_ble_eq_true rfl) (Nat.le_of_ble_eq_true rfl) (Nat.le_of_ble_eq_true rfl) dX12_init_26 (fun q_26 H locs hw => ?_)
  replace hw : WH G s ((q, .inr (13, [.ref q_8, .ref q_17, .null, .int 0, .null, .int 0, .int 0, .null, .int 0, .null, .int 0, .int 0, .int 0, .int 0, .int 0, .null, .int 0])) :: ((q_26, .inl (G.2.2.1 0, 147, .inl (fun _ => 0))) :: ((q_17, .inl (G.2.2.1 0, 147, .inl (fun _ => 0))) :: ((q_8, .inl (G.2.2.1 0, 147, .inl (fun _ => 0))) :: X)))) H locs := hw
  refine r_putF C hw 0 rfl rfl in_X12 tyX12 tyX12_ok nmX12 2 (by decide) fl_X12_16 rfl rfl hin rfl rfl rfl (Nat.le_of_ble_eq_true rfl) (w' := (q, .inr (13, [.ref q_8, .ref q_17, .ref q_26, .int 0, .null, .int 0, .int 0, .null, .int 0, .null, .int 0, .int 0, .int 0, .int 0, .int 0, .null, .int 0])) :: ((q_26, .inl (G.2.2.1 0, 147, .inl (fun _ => 0))) :: ((q_17, .inl (G.2.2.1 0, 147, .inl (fun _ => 0))) :: ((q_8, .inl (G.2.2.1 0, 147, .inl (fun _ => 0))) :: X)))) rfl dX12_init_28 (fun H locs hw => ?_)
  refine lv_aload_n C.1 C.2.1 dX12_init_31 rfl (lv_at hl 0 rfl) ?_
  refine lv_sipush (v := 1176) C.1 C.2.1 dX12_init_32 (by decide) ?_
  refine r_newa C hw (atype := .int) 0 rfl rfl ac_int (n := 1176) rfl (by decide) (w' := fun z => (q, .inr (13, [.ref q_8, .ref q_17, .ref q_26, .int 0, .null, .int 0, .int 0, .null, .int 0, .null, .int 0, .int 0, .int 0, .int 0, .int 0, .null, .int 0])) :: ((z, .inl (G.2.2.1 0, 1176, .inl (fun _ => 0))) :: ((q_26, .inl (G.2.2.1 0, 147, .inl (fun _ => 0))) :: ((q_17, .inl (G.2.2.1 0, 147, .inl (fun _ => 0))) :: ((q_8, .inl (G.2.2.1 0, 147, .inl (fun _ => 0))) :: X))))) (fun z => (List.perm_append_singleton _ _).cons _) (Nat.le_of_ble_eq_true rfl) (Nat.le_of_ble_eq_true rfl) (Nat.le_of_ble_eq_true rfl) dX12_init_35 (fun q_35 H locs hw => ?_)
  replace hw : WH G s ((q, .inr (13, [.ref q_8, .ref q_17, .ref q_26, .int 0, .null, .int 0, .int 0, .null, .int 0, .null, .int 0, .int 0, .int 0, .int 0, .int 0, .null, .int 0])) :: ((q_35, .inl (G.2.2.1 0, 1176, .inl (fun _ => 0))) :: ((q_26, .inl (G.2.2.1 0, 147, .inl (fun _ => 0))) :: ((q_17, .inl (G.2.2.1 0, 147, .inl (fun _ => 0))) :: ((q_8, .inl (G.2.2.1 0, 147, .inl (fun _ => 0))) :: X))))) H locs := hw
  refine r_putF C hw 0 rfl rfl in_X12 tyX12 tyX12_ok nmX12 4 (by decide) fl_X12_19 rfl rfl hin rfl rfl rfl (Nat.le_of_ble_eq_true rfl) (w' := (q, .inr (13, [.ref q_8, .ref q_17, .ref q_26, .int 0, .ref q_35, .int 0, .int 0, .null, .int 0, .null, .int 0, .int 0, .int 0, .int 0, .int 0, .null, .int 0])) :: ((q_35, .inl (G.2.2.1 0, 1176, .inl (fun _ => 0))) :: ((q_26, .inl (G.2.2.1 0, 147, .inl (fun _ => 0))) :: ((q_17, .inl (G.2.2.1 0, 147, .inl (fun _ => 0))) :: ((q_8, .inl (G.2.2.1 0, 147, .inl (fun _ => 0))) :: X))))) rfl dX12_init_37 (fun H locs hw => ?_)
  refine lv_aload_n C.1 C.2.1 dX12_init_40 rfl (lv_at hl 0 rfl) ?_
  refine lv_bipush (v := 40) C.1 C.2.1 dX12_init_41 (by decide) ?_
  refine r_newa C hw (atype := .char) 2 rfl rfl ac_char (n := 40) rfl (by decide) (w' := fun z => (q, .inr (13, [.ref q_8, .ref q_17, .ref q_26, .int 0, .ref q_35, .int 0, .int 0, .null, .int 0, .null, .int 0, .int 0, .int 0, .int 0, .int 0, .null, .int 0])) :: ((z, .inl (G.2.2.1 2, 40, .inl (fun _ => 0))) :: ((q_35, .inl (G.2.2.1 0, 1176, .inl (fun _ => 0))) :: ((q_26, .inl (G.2.2.1 0, 147, .inl (fun _ => 0))) :: ((q_17, .inl (G.2.2.1 0, 147, .inl (fun _ => 0))) :: ((q_8, .inl (G.2.2.1 0, 147, .inl (fun _ => 0))) :: X)))))) (fun z => (List.perm_append_singleton _ _).cons _) (Nat.le_of_ble_eq_true rfl) (Nat.le_of_ble_eq_true rfl) (Nat.le_of_ble_eq_true rfl) dX12_init_43 (fun q_43 H locs hw => ?_)
  replace hw : WH G s ((q, .inr (13, [.ref q_8, .ref q_17, .ref q_26, .int 0, .ref q_35, .int 0, .int 0, .null, .int 0, .null, .int 0, .int 0, .int 0, .int 0, .int 0, .null, .int 0])) :: ((q_43, .inl (G.2.2.1 2, 40, .inl (fun _ => 0))) :: ((q_35, .inl (G.2.2.1 0, 1176, .inl (fun _ => 0))) :: ((q_26, .inl (G.2.2.1 0, 147, .inl (fun _ => 0))) :: ((q_17, .inl (G.2.2.1 0, 147, .inl (fun _ => 0))) :: ((q_8, .inl (G.2.2.1 0, 147, .inl (fun _ => 0))) :: X)))))) H locs := hw
  refine r_putF C hw 0 rfl rfl in_X12 tyX12 tyX12_ok nmX12 7 (by decide) fl_X12_22 rfl rfl hin rfl rfl rfl (Nat.le_of_ble_eq_true rfl) (w' := (q, .inr (13, [.ref q_8, .ref q_17, .ref q_26, .int 0, .ref q_35, .int 0, .int 0, .ref q_43, .int 0, .null, .int 0, .int 0, .int 0, .int 0, .int 0, .null, .int 0])) :: ((q_43, .inl (G.2.2.1 2, 40, .inl (fun _ => 0))) :: ((q_35, .inl (G.2.2.1 0, 1176, .inl (fun _ => 0))) :: ((q_26, .inl (G.2.2.1 0, 147, .inl (fun _ => 0))) :: ((q_17, .inl (G.2.2.1 0, 147, .inl (fun _ => 0))) :: ((q_8, .inl (G.2.2.1 0, 147, .inl (fun _ => 0))) :: X)))))) rfl dX12_init_45 (fun H locs hw => ?_)
  refine lv_aload_n C.1 C.2.1 dX12_init_48 rfl (lv_at hl 0 rfl) ?_
  refine lv_bipush (v := 60) C.1 C.2.1 dX12_init_49 (by decide) ?_
  refine r_newa C hw (atype := .char) 2 rfl rfl ac_char (n := 60) rfl (by decide) (w' := fun z => (q, .inr (13, [.ref q_8, .ref q_17, .ref q_26, .int 0, .ref q_35, .int 0, .int 0, .ref q_43, .int 0, .null, .int 0, .int 0, .int 0, .int 0, .int 0, .null, .int 0])) :: ((z, .inl (G.2.2.1 2, 60, .inl (fun _ => 0))) :: ((q_43, .inl (G.2.2.1 2, 40, .inl (fun _ => 0))) :: ((q_35, .inl (G.2.2.1 0, 1176, .inl (fun _ => 0))) :: ((q_26, .inl (G.2.2.1 0, 147, .inl (fun _ => 0))) :: ((q_17, .inl (G.2.2.1 0, 147, .inl (fun _ => 0))) :: ((q_8, .inl (G.2.2.1 0, 147, .inl (fun _ => 0))) :: X))))))) (fun z => (List.perm_append_singleton _ _).cons _) (Nat.le_of_ble_eq_true rfl) (Nat.le_of_ble_eq_true rfl) (Nat.le_of_ble_eq_true rfl) dX12_init_51 (fun q_51 H locs hw => ?_)
  replace hw : WH G s ((q, .inr (13, [.ref q_8, .ref q_17, .ref q_26, .int 0, .ref q_35, .int 0, .int 0, .ref q_43, .int 0, .null, .int 0, .int 0, .int 0, .int 0, .int 0, .null, .int 0])) :: ((q_51, .inl (G.2.2.1 2, 60, .inl (fun _ => 0))) :: ((q_43, .inl (G.2.2.1 2, 40, .inl (fun _ => 0))) :: ((q_35, .inl (G.2.2.1 0, 1176, .inl (fun _ => 0))) :: ((q_26, .inl (G.2.2.1 0, 147, .inl (fun _ => 0))) :: ((q_17, .inl (G.2.2.1 0, 147, .inl (fun _ => 0))) :: ((q_8, .inl (G.2.2.1 0, 147, .inl (fun _ => 0))) :: X))))))) H locs := hw
  refine r_putF C hw 0 rfl rfl in_X12 tyX12 tyX12_ok nmX12 9 (by decide) fl_X12_26 rfl rfl hin rfl rfl rfl (Nat.le_of_ble_eq_true rfl) (w' := (q, .inr (13, [.ref q_8, .ref q_17, .ref q_26, .int 0, .ref q_35, .int 0, .int 0, .ref q_43, .int 0, .ref q_51, .int 0, .int 0, .int 0, .int 0, .int 0, .null, .int 0])) :: ((q_51, .inl (G.2.2.1 2, 60, .inl (fun _ => 0))) :: ((q_43, .inl (G.2.2.1 2, 40, .inl (fun _ => 0))) :: ((q_35, .inl (G.2.2.1 0, 1176, .inl (fun _ => 0))) :: ((q_26, .inl (G.2.2.1 0, 147, .inl (fun _ => 0))) :: ((q_17, .inl (G.2.2.1 0, 147, .inl (fun _ => 0))) :: ((q_8, .inl (G.2.2.1 0, 147, .inl (fun _ => 0))) :: X))))))) rfl dX12_init_53 (fun H locs hw => ?_)
  refine lv_aload_n C.1 C.2.1 dX12_init_56 rfl (lv_at hl 0 rfl) ?_
  refine lv_iconst (v := -1) C.1 C.2.1 dX12_init_57 (by decide) ?_
  refine r_put C hw 0 rfl rfl in_X12 tyX12 tyX12_ok nmX12 13 (by decide) fl_X12_29 rfl rfl rfl rfl (Nat.le_of_ble_eq_true rfl) (w' := (q, .inr (13, [.ref q_8, .ref q_17, .ref q_26, .int 0, .ref q_35, .int 0, .int 0, .ref q_43, .int 0, .ref q_51, .int 0, .int 0, .int 0, .int (-1), .int 0, .null, .int 0])) :: ((q_51, .inl (G.2.2.1 2, 60, .inl (fun _ => 0))) :: ((q_43, .inl (G.2.2.1 2, 40, .inl (fun _ => 0))) :: ((q_35, .inl (G.2.2.1 0, 1176, .inl (fun _ => 0))) :: ((q_26, .inl (G.2.2.1 0, 147, .inl (fun _ => 0))) :: ((q_17, .inl (G.2.2.1 0, 147, .inl (fun _ => 0))) :: ((q_8, .inl (G.2.2.1 0, 147, .inl (fun _ => 0))) :: X))))))) rfl dX12_init_58 (fun H locs hw => ?_)
  refine lv_aload_n C.1 C.2.1 dX12_init_61 rfl (lv_at hl 0 rfl) ?_
  refine lv_iconst (v := -1) C.1 C.2.1 dX12_init_62 (by decide) ?_
  refine r_put C hw 0 rfl rfl in_X12 tyX12 tyX12_ok nmX12 14 (by decide) fl_X12_33 rfl rfl rfl rfl (Nat.le_of_ble_eq_true rfl) (w' := (q, .inr (13, [.ref q_8, .ref q_17, .ref q_26, .int 0, .ref q_35, .int 0, .int 0, .ref q_43, .int 0, .ref q_51, .int 0, .int 0, .int 0, .int (-1), .int (-1), .null, .int 0])) :: ((q_51, .inl (G.2.2.1 2, 60, .inl (fun _ => 0))) :: ((q_43, .inl (G.2.2.1 2, 40, .inl (fun _ => 0))) :: ((q_35, .inl (G.2.2.1 0, 1176, .inl (fun _ => 0))) :: ((q_26, .inl (G.2.2.1 0, 147, .inl (fun _ => 0))) :: ((q_17, .inl (G.2.2.1 0, 147, .inl (fun _ => 0))) :: ((q_8, .inl (G.2.2.1 0, 147, .inl (fun _ => 0))) :: X))))))) rfl dX12_init_63 (fun H locs hw => ?_)
  refine lv_aload_n C.1 C.2.1 dX12_init_66 rfl (lv_at hl 0 rfl) ?_
  refine lv_sipush (v := 240) C.1 C.2.1 dX12_init_67 (by decide) ?_
  refine r_newa C hw (atype := .int) 0 rfl rfl ac_int (n := 240) rfl (by decide) (w' := fun z => (q, .inr (13, [.ref q_8, .ref q_17, .ref q_26, .int 0, .ref q_35, .int 0, .int 0, .ref q_43, .int 0, .ref q_51, .int 0, .int 0, .int 0, .int (-1), .int (-1), .null, .int 0])) :: ((z, .inl (G.2.2.1 0, 240, .inl (fun _ => 0))) :: ((q_51, .inl (G.2.2.1 2, 60, .inl (fun _ => 0))) :: ((q_43, .inl (G.2.2.1 2, 40, .inl (fun _ => 0))) :: ((q_35, .inl (G.2.2.1 0, 1176, .inl (fun _ => 0))) :: ((q_26, .inl (G.2.2.1 0, 147, .inl (fun _ => 0))) :: ((q_17, .inl (G.2.2.1 0, 147, .inl (fun _ => 0))) :: ((q_8, .inl (G.2.2.1 0, 147, .inl (fun _ => 0))) :: X)))))))) (fun z => (List.perm_append_singleton _ _).cons _) (Nat.le_of_ble_eq_true rfl) (Nat.le_of_ble_eq_true rfl) (Nat.le_of_ble_eq_true rfl) dX12_init_70 (fun q_70 H locs hw => ?_)
  replace hw : WH G s ((q, .inr (13, [.ref q_8, .ref q_17, .ref q_26, .int 0, .ref q_35, .int 0, .int 0, .ref q_43, .int 0, .ref q_51, .int 0, .int 0, .int 0, .int (-1), .int (-1), .null, .int 0])) :: ((q_70, .inl (G.2.2.1 0, 240, .inl (fun _ => 0))) :: ((q_51, .inl (G.2.2.1 2, 60, .inl (fun _ => 0))) :: ((q_43, .inl (G.2.2.1 2, 40, .inl (fun _ => 0))) :: ((q_35, .inl (G.2.2.1 0, 1176, .inl (fun _ => 0))) :: ((q_26, .inl (G.2.2.1 0, 147, .inl (fun _ => 0))) :: ((q_17, .inl (G.2.2.1 0, 147, .inl (fun _ => 0))) :: ((q_8, .inl (G.2.2.1 0, 147, .inl (fun _ => 0))) :: X)))))))) H locs := hw
  refine r_putF C hw 0 rfl rfl in_X12 tyX12 tyX12_ok nmX12 15 (by decide) fl_X12_36 rfl rfl hin rfl rfl rfl (Nat.le_of_ble_eq_true rfl) (w' := (q, .inr (13, [.ref q_8, .ref q_17, .ref q_26, .int 0, .ref q_35, .int 0, .int 0, .ref q_43, .int 0, .ref q_51, .int 0, .int 0, .int 0, .int (-1), .int (-1), .ref q_70, .int 0])) :: ((q_70, .inl (G.2.2.1 0, 240, .inl (fun _ => 0))) :: ((q_51, .inl (G.2.2.1 2, 60, .inl (fun _ => 0))) :: ((q_43, .inl (G.2.2.1 2, 40, .inl (fun _ => 0))) :: ((q_35, .inl (G.2.2.1 0, 1176, .inl (fun _ => 0))) :: ((q_26, .inl (G.2.2.1 0, 147, .inl (fun _ => 0))) :: ((q_17, .inl (G.2.2.1 0, 147, .inl (fun _ => 0))) :: ((q_8, .inl (G.2.2.1 0, 147, .inl (fun _ => 0))) :: X)))))))) rfl dX12_init_72 (fun H locs hw => ?_)
  have hw2 : WH G s (moW G (fun k => match k with | 0 => q | 1 => q_8 | 2 => q_17 | 3 => q_26 | 4 => q_35 | 5 => q_43 | 6 => q_51 | _ => q_70) mo0 ++ X) H locs := hw.perm (((List.reverse_perm [(q_8, .inl (G.2.2.1 0, 147, .inl (fun _ => 0))), (q_17, .inl (G.2.2.1 0, 147, .inl (fun _ => 0))), (q_26, .inl (G.2.2.1 0, 147, .inl (fun _ => 0))), (q_35, .inl (G.2.2.1 0, 1176, .inl (fun _ => 0))), (q_43, .inl (G.2.2.1 2, 40, .inl (fun _ => 0))), (q_51, .inl (G.2.2.1 2, 60, .inl (fun _ => 0))), (q_70, .inl (G.2.2.1 0, 240, .inl (fun _ => 0)))]).append_right X).cons _)
  exact r_vret C hw2 rfl (fun k => match k with | 0 => q | 1 => q_8 | 2 => q_17 | 3 => q_26 | 4 => q_35 | 5 => q_43 | 6 => q_51 | _ => q_70) rfl rfl (Nat.le_of_ble_eq_true rfl) (Nat.le_of_ble_eq_true rfl) dX12_init_75

