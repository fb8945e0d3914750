/-! The model's parser -/
def skR (U : MV_) (n : Nat) : List Int32 → Nat → Bool → Nat × Bool
  | [], t, w => (t, w)
  | c :: L, t, w => if w = true then (t, w) else if beC U n t 0 = c &&& 255 then skR U n L (t + 1) false else (t, true)
theorem skR_w {U : MV_} {n : Nat} {t : Nat} : ∀ {L : List Int32}, skR U n L t true = (t, true)
  | [] => rfl
  | c :: L => if_pos rfl
theorem and255 (c : Int32) : ¬ c &&& 255 = -1 := fun e => by
  obtain ⟨j, hj, e2⟩ := pk_andE c (m := 255) 8 (by decide)
  rw [e] at e2
  exact nI_ne1 (k := j) (by omega) e2.symm
theorem be_lt {U : MV_} {n t : Nat} {c : Int32} (h : beC U n t 0 = c &&& 255) : t < n := by
  unfold beC at h
  split at h
  · omega
  · exact absurd h.symm (and255 c)

set_option maxHeartbeats 4000000 in
set_option maxRecDepth 100000 in
theorem k12_skip {l : Launch} {G : Gx} (hF : SF l G) {mo : Nat → Nat} {U : MV_} {X : va_W} {n : Nat} (hn1 : U.1 4 = nI n) (hn : n ≤ 60) {a : Nat} {L : List Int32} (hL : L.length < 2 ^ 31) (hs : StrAt G a L) {t0 : Nat} (ht : t0 ≤ n) (w0 : Bool) : MV l G yX12_skip cX12_skip 3 5 0 0 [.ref (mo 0), .ref a] (moW G mo (mI (mI U 5 (nI t0)) 6 (bI w0)) ++ X) (fun _ => True) (fun _ : Unit => moW G mo (mI (mI U 5 (nI (skR U n L t0 w0).1)) 6 (bI (skR U n L t0 w0).2)) ++ X) := by
  refine mt_of hF (by decide) (Nat.le_of_ble_eq_true rfl) ?_
  intro p e s m below meth c C hin ls hl H locs hw
  have hl : lv_has ls 3 [(0, .ref (mo 0)), (1, .ref a)] := hl
  have ho := hs.choose_spec.1
  refine lv_iconst (v := 0) C.1 C.2.1 dX12_skip_0 (by decide) ?_
  refine lv_istore_n (lv' := [(2, .int 0), (0, .ref (mo 0)), (1, .ref a)]) C.1 C.2.1 dX12_skip_1 rfl hl (by decide) rfl (fun ls hl => ?_)
  refine w_loop (σ := Nat × Nat × Bool) G (fun u ⟨k, t, w⟩ => k ≤ L.length ∧ L.length < k + u ∧ t ≤ n ∧ skR U n L t0 w0 = skR U n (L.drop k) t w) (fun ⟨k, t, w⟩ => moW G mo (mI (mI U 5 (nI t)) 6 (bI w)) ++ X) (fun ⟨k, t, w⟩ => 0) (fun ⟨k, t, w⟩ => 0) (fun ⟨k, t, w⟩ => [(0, .ref (mo 0)), (1, .ref a), (2, .int (nI k))]) 3 ?_ ?_ (L.length + 1) (0, t0, w0) (⟨Nat.zero_le _, by omega, ht, rfl⟩) hw (lv_sub hl [1, 2, 0] rfl)
  · rintro n2 ⟨k, t, w⟩ ⟨h1, h2, h3, h4⟩ ih2 H locs hw ls hl
    replace hw : WH G s (moW G mo (mI (mI U 5 (nI t)) 6 (bI w)) ++ X) H locs := hw
    replace hl : lv_has ls 3 [(0, .ref (mo 0)), (1, .ref a), (2, .int (nI k))] := hl
    refine lv_iload_n C.1 C.2.1 dX12_skip_2 rfl (lv_at hl 2 rfl) ?_
    refine lv_aload_n C.1 C.2.1 dX12_skip_3 rfl (lv_at hl 1 rfl) ?_
    refine r_Vi C hw (j_length hF (X := (moW G mo (mI (mI U 5 (nI t)) 6 (bI w)) ++ X)) hL hs) ml_X12_188 yf_J0_length_8abf5 ho (As := []) rfl rfl ⟨(Nat.le_of_ble_eq_true rfl), (Nat.le_of_ble_eq_true rfl)⟩ ⟨(Nat.le_of_ble_eq_true rfl), (Nat.le_of_ble_eq_true rfl)⟩ hl.1 (Nat.le_of_ble_eq_true rfl) dX12_skip_4 (fun r_4 _ H locs hp_4 hw => ?_)
    obtain rfl : r_4 = nI L.length := hp_4
    replace hw : WH G s (moW G mo (mI (mI U 5 (nI t)) 6 (bI w)) ++ X) H locs := hw
    refine lv_icmp_ge (tgt := 66) C.1 C.2.1 dX12_skip_7 (by decide) (fun c_7 => ?_) (fun c_7 => ?_)
    · have hz : k = L.length := by rw [nI_leI (by omega) (by omega)] at c_7; omega
      exact r_vret C hw rfl () (trivial) (by rw [h4, hz, List.drop_length]; rfl) (Nat.le_of_ble_eq_true rfl) (Nat.le_of_ble_eq_true rfl) dX12_skip_66
    · have hk : k < L.length := by rw [nI_leI (by omega) (by omega)] at c_7; omega
      refine lv_aload_n C.1 C.2.1 dX12_skip_10 rfl (lv_at hl 0 rfl) ?_
      refine r_get C hw 0 rfl rfl in_X12 12 (by decide) fl_X12_192 rfl (v := .int (bI w)) rfl dX12_skip_11 ?_
      refine lv_if_ne (tgt := 66) C.1 C.2.1 dX12_skip_14 (by decide) (fun c_14 => ?_) (fun c_14 => ?_)
      · obtain rfl : w = true := bI_ne0.mp c_14
        replace hw : WH G s (moW G mo (mI (mI U 5 (nI t)) 6 (bI true)) ++ X) H locs := hw
        exact r_vret C hw rfl () (trivial) (by rw [h4, skR_w]) (Nat.le_of_ble_eq_true rfl) (Nat.le_of_ble_eq_true rfl) dX12_skip_66
      · obtain rfl : w = false := bI_eq0.mp c_14
        replace hw : WH G s (moW G mo (mI (mI U 5 (nI t)) 6 (bI false)) ++ X) H locs := hw
        have hdr : L.drop k = L.getD k 0 :: L.drop (k + 1) := by rw [List.drop_eq_getElem_cons hk, List.getD_eq_getElem?_getD, List.getElem?_eq_getElem hk]; rfl
        refine lv_aload_n C.1 C.2.1 dX12_skip_17 rfl (lv_at hl 0 rfl) ?_
        refine lv_aload_n C.1 C.2.1 dX12_skip_18 rfl (lv_at hl 0 rfl) ?_
        refine lv_iconst (v := 0) C.1 C.2.1 dX12_skip_19 (by decide) ?_
        refine r_vi C hw (k12_behind hF (mo := mo) (U := (mI (mI U 5 (nI t)) 6 (bI false))) (X := X) (t := t) rfl (n := n) hn1 hn (by omega) (k := 0) (by omega)) ml_X12_196 yf_X12_behind 0 rfl rfl (As := [.int 0]) rfl rfl ⟨Nat.le_of_ble_eq_true rfl, Nat.le_of_ble_eq_true rfl⟩ ⟨Nat.le_of_ble_eq_true rfl, Nat.le_of_ble_eq_true rfl⟩ hl.1 (Nat.le_of_ble_eq_true rfl) dX12_skip_20 (fun r_20 _ H locs hp_20 hw => ?_)
        obtain rfl : r_20 = beC U n t 0 := hp_20
        replace hw : WH G s (moW G mo (mI (mI U 5 (nI t)) 6 (bI false)) ++ X) H locs := hw
        refine lv_aload_n C.1 C.2.1 dX12_skip_23 rfl (lv_at hl 1 rfl) ?_
        refine lv_iload_n C.1 C.2.1 dX12_skip_24 rfl (lv_at hl 2 rfl) ?_
        refine r_Vi C hw (j_charAt hF (X := (moW G mo (mI (mI U 5 (nI t)) 6 (bI false)) ++ X)) (i := k) (by omega) hL hs) ml_X12_199 yf_J0_charAt_5068e ho (As := [.int (nI k)]) rfl rfl ⟨(Nat.le_of_ble_eq_true rfl), (Nat.le_of_ble_eq_true rfl)⟩ ⟨(Nat.le_of_ble_eq_true rfl), (Nat.le_of_ble_eq_true rfl)⟩ hl.1 (Nat.le_of_ble_eq_true rfl) dX12_skip_25 (fun r_25 _ H locs hp_25 hw => ?_)
        obtain rfl : r_25 = L.getD k 0 &&& 255 := hp_25
        replace hw : WH G s (moW G mo (mI (mI U 5 (nI t)) 6 (bI false)) ++ X) H locs := hw
        refine lv_icmp_eq (tgt := 35) C.1 C.2.1 dX12_skip_28 (by decide) (fun c_28 => ?_) (fun c_28 => ?_)
        · have hlt := be_lt c_28
          refine lv_iconst (v := 0) C.1 C.2.1 dX12_skip_35 (by decide) ?_
          refine r_put C hw 0 rfl rfl in_X12 tyX12 tyX12_ok nmX12 12 (by decide) fl_X12_192 rfl rfl rfl rfl (Nat.le_of_ble_eq_true rfl) (w' := moW G mo (mI (mI U 5 (nI t)) 6 0) ++ X) rfl dX12_skip_36 (fun H locs hw => ?_)
          refine lv_aload_n C.1 C.2.1 dX12_skip_39 rfl (lv_at hl 0 rfl) ?_
          refine lv_dup C.1 C.2.1 dX12_skip_40 rfl ?_
          refine r_get C hw 0 rfl rfl in_X12 11 (by decide) fl_X12_185 rfl (v := .int (nI t)) rfl dX12_skip_41 ?_
          refine lv_aload_n C.1 C.2.1 dX12_skip_44 rfl (lv_at hl 0 rfl) ?_
          refine r_get C hw 0 rfl rfl in_X12 12 (by decide) fl_X12_192 rfl (v := .int 0) rfl dX12_skip_45 ?_
          refine lv_if_eq (tgt := 55) C.1 C.2.1 dX12_skip_48 (by decide) (fun c_48 => ?_) (fun c_48 => absurd (by decide) c_48)
          refine lv_iconst (v := 1) C.1 C.2.1 dX12_skip_55 (by decide) ?_
          refine lv_iadd C.1 C.2.1 dX12_skip_56 ?_
          refine r_toe (show _ = nI (t + 1) from nI_1 t) ?_
          refine r_put C hw 0 rfl rfl in_X12 tyX12 tyX12_ok nmX12 11 (by decide) fl_X12_185 rfl rfl rfl rfl (Nat.le_of_ble_eq_true rfl) (w' := moW G mo (mI (mI U 5 (nI (t + 1))) 6 0) ++ X) rfl dX12_skip_57 (fun H locs hw => ?_)
          refine lv_iinc (v := nI (k + 1)) (lv' := [(2, .int (nI (k + 1))), (0, .ref (mo 0)), (1, .ref a)]) C.1 C.2.1 dX12_skip_60 hl (k := 2) rfl (inc_nI k) (by decide) rfl (fun ls hl => ?_)
          refine lv_goto (tgt := 2) C.1 C.2.1 dX12_skip_63 (by decide) ?_
          exact ih2 (k + 1, t + 1, false) (⟨by omega, by omega, hlt, by rw [h4, hdr, skR, if_neg (by decide), if_pos c_28]⟩) _ _ hw _ (lv_sub hl [1, 2, 0] rfl)
        · refine lv_iconst (v := 1) C.1 C.2.1 dX12_skip_31 (by decide) ?_
          refine lv_goto (tgt := 36) C.1 C.2.1 dX12_skip_32 (by decide) ?_
          refine r_put C hw 0 rfl rfl in_X12 tyX12 tyX12_ok nmX12 12 (by decide) fl_X12_192 rfl rfl rfl rfl (Nat.le_of_ble_eq_true rfl) (w' := moW G mo (mI (mI U 5 (nI t)) 6 1) ++ X) rfl dX12_skip_36 (fun H locs hw => ?_)
          refine lv_aload_n C.1 C.2.1 dX12_skip_39 rfl (lv_at hl 0 rfl) ?_
          refine lv_dup C.1 C.2.1 dX12_skip_40 rfl ?_
          refine r_get C hw 0 rfl rfl in_X12 11 (by decide) fl_X12_185 rfl (v := .int (nI t)) rfl dX12_skip_41 ?_
          refine lv_aload_n C.1 C.2.1 dX12_skip_44 rfl (lv_at hl 0 rfl) ?_
          refine r_get C hw 0 rfl rfl in_X12 12 (by decide) fl_X12_192 rfl (v := .int 1) rfl dX12_skip_45 ?_
          refine lv_if_eq (tgt := 55) C.1 C.2.1 dX12_skip_48 (by decide) (fun c_48 => absurd c_48 (by decide)) (fun c_48 => ?_)
          refine lv_iconst (v := 0) C.1 C.2.1 dX12_skip_51 (by decide) ?_
          refine lv_goto (tgt := 56) C.1 C.2.1 dX12_skip_52 (by decide) ?_
          refine lv_iadd C.1 C.2.1 dX12_skip_56 ?_
          refine r_toe (show _ = nI t from Int32.add_zero _) ?_
          refine r_put C hw 0 rfl rfl in_X12 tyX12 tyX12_ok nmX12 11 (by decide) fl_X12_185 rfl rfl rfl rfl (Nat.le_of_ble_eq_true rfl) (w' := moW G mo (mI (mI U 5 (nI t)) 6 1) ++ X) rfl dX12_skip_57 (fun H locs hw => ?_)
          refine lv_iinc (v := nI (k + 1)) (lv' := [(2, .int (nI (k + 1))), (0, .ref (mo 0)), (1, .ref a)]) C.1 C.2.1 dX12_skip_60 hl (k := 2) rfl (inc_nI k) (by decide) rfl (fun ls hl => ?_)
          refine lv_goto (tgt := 2) C.1 C.2.1 dX12_skip_63 (by decide) ?_
          exact ih2 (k + 1, t, true) (⟨by omega, by omega, h3, by rw [h4, hdr, skR, if_neg (by decide), if_neg c_28, skR_w]⟩) _ _ hw _ (lv_sub hl [1, 2, 0] rfl)
  · rintro ⟨k, t, w⟩ ⟨h1, h2, h3, h4⟩; omega

