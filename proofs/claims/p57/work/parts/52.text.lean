/-! CommandText -/
def ctC (G : Gx) (t : Nat → Nat) (vb : Nat) (ps : Int32) (g : Nat → Int32) : va_W := [(t 0, .inr (5, [.ref (t 1), .ref (t 2), .ref (G.2.2.2.2 vb), .int ps])), (t 2, .inr (9, [.ref (t 3)])), (t 3, .inl (G.2.2.1 0, 3, .inl g))]
theorem ct_row (G : Gx) (t : Nat → Nat) (u : Nat × Nat × (Nat → Int32) × Int32) (L : List Int32) (vb : Nat) (ps : Int32) (X : va_W) : RowW G (fun g => sbY G (t 1) u L ++ (ctC G t vb ps g ++ X)) 3 4 (t 2) (t 3) 3 := ⟨fun _ => rfl, fun _ => rfl, fun _ _ => rfl⟩
def orV (i : Nat) : Int32 := ([0, 1, 2, 3, 4, 5, 6] : List Int32).getD i 0
def dgV (i : Nat) : Int32 := ([0, 1, 1, 0, 0, 0, 0] : List Int32).getD i 0
def nmbV (i : Nat) : Int32 := ([2, 2, 2, 1, 1, 0, 0] : List Int32).getD i 0
/-- the sign c stands at i -/
def stB (L : List Int32) (i : Nat) (ch : Int32) : Bool := decide (i < L.length) && decide (L.getD i 0 = ch)
def dgB (L : List Int32) (i : Nat) : Bool := decide (i < L.length) && inR (L.getD i 0) 48 57
def dgA (L : List Int32) (i : Nat) : Int32 := if dgB L i = true then L.getD i 0 - 48 else -1
theorem dgA_ne {L : List Int32} {i : Nat} (hch : chL L) : dgA L i = -1 ↔ dgB L i = false := by
  unfold dgA
  by_cases h : dgB L i = true
  · rw [if_pos h]
    refine ⟨fun e => ?_, fun e => absurd (h.symm.trans e) (by decide)⟩
    unfold dgB inR at h
    simp only [Bool.and_eq_true, decide_eq_true_eq, Bool.not_eq_true', decide_eq_false_iff_not] at h
    obtain ⟨k, hk, he⟩ := hch i h.1
    rw [he] at e h
    have h48 : 48 ≤ k := by
      rcases Nat.lt_or_ge k 48 with q | q
      · exact absurd (nI_lt (b := 48) q (by decide)) h.2.1
      · exact q
    rw [show (48 : Int32) = nI 48 from rfl, pk_sub h48] at e
    exact absurd e (nI_ne1 (by omega))
  · rw [if_neg h]
    exact ⟨fun _ => by simpa using h, fun _ => rfl⟩

set_option maxHeartbeats 4000000 in
set_option maxRecDepth 100000 in
theorem k2_isFull {l : Launch} {G : Gx} (hF : SF l G) {X : va_W} {t : Nat → Nat} {u : Nat × Nat × (Nat → Int32) × Int32} {L : List Int32} (hT : sbT u L) (hch : chL L) (hL : L.length ≤ 60) {vb : Nat} {p0 : Nat} {g : Nat → Int32} : MI l G yX2_isFull cX2_isFull 1 .boolean 2 0 0 [.ref (t 0)] (sbY G (t 1) u L ++ (ctC G t vb (nI p0) g ++ X)) (fun r _ => r = bI (decide (60 ≤ L.length))) (fun _ : Unit => sbY G (t 1) u L ++ (ctC G t vb (nI p0) g ++ X)) := by
  refine mt_of hF (by decide) (Nat.le_of_ble_eq_true rfl) ?_
  intro p e s m below meth c C hin ls hl H locs hw
  have hl : lv_has ls 1 [(0, .ref (t 0))] := hl
  refine lv_aload_n C.1 C.2.1 dX2_isFull_0 rfl (lv_at hl 0 rfl) ?_
  refine r_get C hw 2 rfl rfl in_X2 0 (by decide) fl_X2_12 rfl (v := .ref (t 1)) rfl dX2_isFull_1 ?_
  refine r_vi C hw (s_length hF (X := (ctC G t vb (nI p0) g ++ X)) hT) ml_X2_40 yf_J4_length_8abf5 0 rfl rfl (As := []) rfl rfl ⟨(Nat.le_of_ble_eq_true rfl), (Nat.le_of_ble_eq_true rfl)⟩ ⟨(Nat.le_of_ble_eq_true rfl), (Nat.le_of_ble_eq_true rfl)⟩ hl.1 (Nat.le_of_ble_eq_true rfl) dX2_isFull_4 (fun r_4 u_4 H locs hp_4 hw => ?_)
  obtain rfl : r_4 = nI L.length := hp_4
  replace hw : WH G s (sbY G (t 1) u L ++ (ctC G t vb (nI p0) g ++ X)) H locs := hw
  refine lv_bipush (v := 60) C.1 C.2.1 dX2_isFull_7 (by decide) ?_
  refine lv_icmp_lt (tgt := 16) C.1 C.2.1 dX2_isFull_9 (by decide) (fun c_9 => ?_) (fun c_9 => ?_)
  · have hz : ¬ 60 ≤ L.length := by have := (nI_ltI (a := L.length) (b := 60) (by omega) (by decide)).mp c_9; omega
    refine lv_iconst (v := 0) C.1 C.2.1 dX2_isFull_16 (by decide) ?_
    exact r_iret C hw rfl rfl () (by simp [bI, hz]) rfl (Nat.le_of_ble_eq_true rfl) (Nat.le_of_ble_eq_true rfl) dX2_isFull_17
  · have hz : 60 ≤ L.length := by have := mt (nI_ltI (a := L.length) (b := 60) (by omega) (by decide)).mpr c_9; omega
    refine lv_iconst (v := 1) C.1 C.2.1 dX2_isFull_12 (by decide) ?_
    refine lv_goto (tgt := 17) C.1 C.2.1 dX2_isFull_13 (by decide) ?_
    exact r_iret C hw rfl rfl () (by simp [bI, hz]) rfl (Nat.le_of_ble_eq_true rfl) (Nat.le_of_ble_eq_true rfl) dX2_isFull_17

set_option maxHeartbeats 4000000 in
set_option maxRecDepth 100000 in
theorem k2_append {l : Launch} {G : Gx} (hF : SF l G) {X : va_W} {t : Nat → Nat} {u : Nat × Nat × (Nat → Int32) × Int32} {L : List Int32} (hT : sbT u L) (hL : L.length < 60) {vb : Nat} {p0 : Nat} {g : Nat → Int32} {k : Nat} (hk : k < 128) : MI l G yX2_append cX2_append 2 .int 6 1 70 [.ref (t 0), .int (nI k)] (sbY G (t 1) u L ++ (ctC G t vb (nI p0) g ++ X)) (fun r u1 => r = nI (L.length + 1) ∧ sbT u1 (L ++ [nI k])) (fun u1 : Nat × Nat × (Nat → Int32) × Int32 => sbY G (t 1) u1 (L ++ [nI k]) ++ (ctC G t vb (nI p0) g ++ X)) := by
  refine mt_of hF (by decide) (Nat.le_of_ble_eq_true rfl) ?_
  intro p e s m below meth c C hin ls hl H locs hw
  have hl : lv_has ls 2 [(0, .ref (t 0)), (1, .int (nI k))] := hl
  refine lv_aload_n C.1 C.2.1 dX2_append_0 rfl (lv_at hl 0 rfl) ?_
  refine r_get C hw 2 rfl rfl in_X2 0 (by decide) fl_X2_12 rfl (v := .ref (t 1)) rfl dX2_append_1 ?_
  refine lv_iload_n C.1 C.2.1 dX2_append_4 rfl (lv_at hl 1 rfl) ?_
  refine r_vr C hw (s_append hF (X := (ctC G t vb (nI p0) g ++ X)) hT (k := k) hk (by omega)) ml_X2_44 yf_J4_append_cf468 0 rfl rfl (As := [.int (nI k)]) rfl rfl ⟨(Nat.le_of_ble_eq_true rfl), (Nat.le_of_ble_eq_true rfl)⟩ ⟨(Nat.le_of_ble_eq_true rfl), (Nat.le_of_ble_eq_true rfl)⟩ hl.1 (Nat.le_of_ble_eq_true rfl) dX2_append_5 (fun u_5 ra_5 H locs hp_5 hw => ?_)
  replace hw : WH G s (sbY G (t 1) u_5 (L ++ [nI k]) ++ (ctC G t vb (nI p0) g ++ X)) H locs := hw
  refine lv_pop C.1 C.2.1 dX2_append_8 rfl ?_
  refine lv_aload_n C.1 C.2.1 dX2_append_9 rfl (lv_at hl 0 rfl) ?_
  refine r_get C hw 2 rfl rfl in_X2 0 (by decide) fl_X2_12 rfl (v := .ref (t 1)) rfl dX2_append_10 ?_
  refine r_vi C hw (s_length hF (X := (ctC G t vb (nI p0) g ++ X)) hp_5) ml_X2_40 yf_J4_length_8abf5 0 rfl rfl (As := []) rfl rfl ⟨(Nat.le_of_ble_eq_true rfl), (Nat.le_of_ble_eq_true rfl)⟩ ⟨(Nat.le_of_ble_eq_true rfl), (Nat.le_of_ble_eq_true rfl)⟩ hl.1 (Nat.le_of_ble_eq_true rfl) dX2_append_13 (fun r_13 u_13 H locs hp_13 hw => ?_)
  obtain rfl : r_13 = nI (L ++ [nI k]).length := hp_13
  replace hw : WH G s (sbY G (t 1) u_5 (L ++ [nI k]) ++ (ctC G t vb (nI p0) g ++ X)) H locs := hw
  exact r_iret C hw rfl rfl u_5 (⟨by rw [List.length_append]; rfl, hp_5⟩) rfl (Nat.le_of_ble_eq_true rfl) (Nat.le_of_ble_eq_true rfl) dX2_append_16

set_option maxHeartbeats 4000000 in
set_option maxRecDepth 100000 in
theorem k2_empty {l : Launch} {G : Gx} (hF : SF l G) {X : va_W} {t : Nat → Nat} {u : Nat × Nat × (Nat → Int32) × Int32} {L : List Int32} (hT : sbT u L) {vb : Nat} {p0 : Nat} {g : Nat → Int32} : MV l G yX2_empty cX2_empty 1 6 1 70 [.ref (t 0)] (sbY G (t 1) u L ++ (ctC G t vb (nI p0) g ++ X)) (fun u1 => sbT u1 []) (fun u1 : Nat × Nat × (Nat → Int32) × Int32 => sbY G (t 1) u1 [] ++ (ctC G t vb (nI 0) g ++ X)) := by
  refine mt_of hF (by decide) (Nat.le_of_ble_eq_true rfl) ?_
  intro p e s m below meth c C hin ls hl H locs hw
  have hl : lv_has ls 1 [(0, .ref (t 0))] := hl
  refine lv_aload_n C.1 C.2.1 dX2_empty_0 rfl (lv_at hl 0 rfl) ?_
  refine r_get C hw 2 rfl rfl in_X2 0 (by decide) fl_X2_12 rfl (v := .ref (t 1)) rfl dX2_empty_1 ?_
  refine lv_iconst (v := 0) C.1 C.2.1 dX2_empty_4 (by decide) ?_
  refine r_vv C hw (s_setLength hF (X := (ctC G t vb (nI p0) g ++ X)) hT) ml_X2_48 yf_J4_setLength_d00df 0 rfl rfl (As := [.int 0]) rfl rfl ⟨(Nat.le_of_ble_eq_true rfl), (Nat.le_of_ble_eq_true rfl)⟩ ⟨(Nat.le_of_ble_eq_true rfl), (Nat.le_of_ble_eq_true rfl)⟩ hl.1 (Nat.le_of_ble_eq_true rfl) dX2_empty_5 (fun u_5 H locs hp_5 hw => ?_)
  replace hw : WH G s (sbY G (t 1) u_5 ([]) ++ (ctC G t vb (nI p0) g ++ X)) H locs := hw
  refine lv_aload_n C.1 C.2.1 dX2_empty_8 rfl (lv_at hl 0 rfl) ?_
  refine lv_iconst (v := 0) C.1 C.2.1 dX2_empty_9 (by decide) ?_
  refine r_put C hw 2 rfl rfl in_X2 tyX2 tyX2_ok nmX2 3 (by decide) fl_X2_36 rfl rfl rfl rfl (Nat.le_of_ble_eq_true rfl) (w' := sbY G (t 1) u_5 ([]) ++ (ctC G t vb 0 g ++ X)) rfl dX2_empty_10 (fun H locs hw => ?_)
  exact r_vret C hw rfl u_5 (hp_5) rfl (Nat.le_of_ble_eq_true rfl) (Nat.le_of_ble_eq_true rfl) dX2_empty_13

set_option maxHeartbeats 4000000 in
set_option maxRecDepth 100000 in
theorem k2_rewind {l : Launch} {G : Gx} (hF : SF l G) {X : va_W} {t : Nat → Nat} {u : Nat × Nat × (Nat → Int32) × Int32} {L : List Int32} (hT : sbT u L) {vb : Nat} {p0 : Nat} {g : Nat → Int32} : MV l G yX2_rewind cX2_rewind 1 0 0 0 [.ref (t 0)] (sbY G (t 1) u L ++ (ctC G t vb (nI p0) g ++ X)) (fun _ => True) (fun _ : Unit => sbY G (t 1) u L ++ (ctC G t vb (nI 0) g ++ X)) := by
  refine mt_of hF (by decide) (Nat.le_of_ble_eq_true rfl) ?_
  intro p e s m below meth c C hin ls hl H locs hw
  have hl : lv_has ls 1 [(0, .ref (t 0))] := hl
  refine lv_aload_n C.1 C.2.1 dX2_rewind_0 rfl (lv_at hl 0 rfl) ?_
  refine lv_iconst (v := 0) C.1 C.2.1 dX2_rewind_1 (by decide) ?_
  refine r_put C hw 2 rfl rfl in_X2 tyX2 tyX2_ok nmX2 3 (by decide) fl_X2_36 rfl rfl rfl rfl (Nat.le_of_ble_eq_true rfl) (w' := sbY G (t 1) u L ++ (ctC G t vb 0 g ++ X)) rfl dX2_rewind_2 (fun H locs hw => ?_)
  exact r_vret C hw rfl () (trivial) rfl (Nat.le_of_ble_eq_true rfl) (Nat.le_of_ble_eq_true rfl) dX2_rewind_5

set_option maxHeartbeats 4000000 in
set_option maxRecDepth 100000 in
theorem k2_standsAt {l : Launch} {G : Gx} (hF : SF l G) {X : va_W} {t : Nat → Nat} {u : Nat × Nat × (Nat → Int32) × Int32} {L : List Int32} (hT : sbT u L) (hch : chL L) (hL : L.length ≤ 60) {vb : Nat} {p0 : Nat} {g : Nat → Int32} {i : Nat} (hi : i < 1000) (ch : Int32) : MI l G yX2_standsAt cX2_standsAt 3 .boolean 4 0 0 [.ref (t 0), .int (nI i), .int ch] (sbY G (t 1) u L ++ (ctC G t vb (nI p0) g ++ X)) (fun r _ => r = bI (stB L i ch)) (fun _ : Unit => sbY G (t 1) u L ++ (ctC G t vb (nI p0) g ++ X)) := by
  refine mt_of hF (by decide) (Nat.le_of_ble_eq_true rfl) ?_
  intro p e s m below meth c C hin ls hl H locs hw
  have hl : lv_has ls 3 [(0, .ref (t 0)), (1, .int (nI i)), (2, .int ch)] := hl
  refine lv_iload_n C.1 C.2.1 dX2_standsAt_0 rfl (lv_at hl 1 rfl) ?_
  refine lv_if_lt (tgt := 31) C.1 C.2.1 dX2_standsAt_1 (by decide) (fun c_1 => absurd c_1 (nI_pos (by omega))) (fun c_1 => ?_)
  refine lv_iload_n C.1 C.2.1 dX2_standsAt_4 rfl (lv_at hl 1 rfl) ?_
  refine lv_aload_n C.1 C.2.1 dX2_standsAt_5 rfl (lv_at hl 0 rfl) ?_
  refine r_get C hw 2 rfl rfl in_X2 0 (by decide) fl_X2_12 rfl (v := .ref (t 1)) rfl dX2_standsAt_6 ?_
  refine r_vi C hw (s_length hF (X := (ctC G t vb (nI p0) g ++ X)) hT) ml_X2_40 yf_J4_length_8abf5 0 rfl rfl (As := []) rfl rfl ⟨(Nat.le_of_ble_eq_true rfl), (Nat.le_of_ble_eq_true rfl)⟩ ⟨(Nat.le_of_ble_eq_true rfl), (Nat.le_of_ble_eq_true rfl)⟩ hl.1 (Nat.le_of_ble_eq_true rfl) dX2_standsAt_9 (fun r_9 u_9 H locs hp_9 hw => ?_)
  obtain rfl : r_9 = nI L.length := hp_9
  replace hw : WH G s (sbY G (t 1) u L ++ (ctC G t vb (nI p0) g ++ X)) H locs := hw
  refine lv_icmp_ge (tgt := 31) C.1 C.2.1 dX2_standsAt_12 (by decide) (fun c_12 => ?_) (fun c_12 => ?_)
  · have hz : ¬ i < L.length := by have := (nI_leI (by omega) (by omega)).mp c_12; omega
    refine lv_iconst (v := 0) C.1 C.2.1 dX2_standsAt_31 (by decide) ?_
    exact r_iret C hw rfl rfl () (by unfold stB; generalize L.getD i 0 = z9; simp [bI, hz]) rfl (Nat.le_of_ble_eq_true rfl) (Nat.le_of_ble_eq_true rfl) dX2_standsAt_32
  · have hz : i < L.length := by have := mt (nI_leI (by omega) (by omega)).mpr c_12; omega
    refine lv_aload_n C.1 C.2.1 dX2_standsAt_15 rfl (lv_at hl 0 rfl) ?_
    refine r_get C hw 2 rfl rfl in_X2 0 (by decide) fl_X2_12 rfl (v := .ref (t 1)) rfl dX2_standsAt_16 ?_
    refine lv_iload_n C.1 C.2.1 dX2_standsAt_19 rfl (lv_at hl 1 rfl) ?_
    refine r_vi C hw (s_charAt hF (X := (ctC G t vb (nI p0) g ++ X)) hT hch (i := i) (by omega)) ml_X2_115 yf_J4_charAt_5068e 0 rfl rfl (As := [.int (nI i)]) rfl rfl ⟨(Nat.le_of_ble_eq_true rfl), (Nat.le_of_ble_eq_true rfl)⟩ ⟨(Nat.le_of_ble_eq_true rfl), (Nat.le_of_ble_eq_true rfl)⟩ hl.1 (Nat.le_of_ble_eq_true rfl) dX2_standsAt_20 (fun r_20 u_20 H locs hp_20 hw => ?_)
    obtain rfl : r_20 = L.getD i 0 := hp_20
    replace hw : WH G s (sbY G (t 1) u L ++ (ctC G t vb (nI p0) g ++ X)) H locs := hw
    refine lv_iload_n C.1 C.2.1 dX2_standsAt_23 rfl (lv_at hl 2 rfl) ?_
    refine lv_icmp_ne (tgt := 31) C.1 C.2.1 dX2_standsAt_24 (by decide) (fun c_24 => ?_) (fun c_24 => ?_)
    · refine lv_iconst (v := 0) C.1 C.2.1 dX2_standsAt_31 (by decide) ?_
      exact r_iret C hw rfl rfl () (by unfold stB; generalize L.getD i 0 = z9 at c_24 ⊢; simp [bI, hz, c_24]) rfl (Nat.le_of_ble_eq_true rfl) (Nat.le_of_ble_eq_true rfl) dX2_standsAt_32
    · refine lv_iconst (v := 1) C.1 C.2.1 dX2_standsAt_27 (by decide) ?_
      refine lv_goto (tgt := 32) C.1 C.2.1 dX2_standsAt_28 (by decide) ?_
      exact r_iret C hw rfl rfl () (by unfold stB; generalize L.getD i 0 = z9 at c_24 ⊢; simp [bI, hz, c_24]) rfl (Nat.le_of_ble_eq_true rfl) (Nat.le_of_ble_eq_true rfl) dX2_standsAt_32

set_option maxHeartbeats 4000000 in
set_option maxRecDepth 100000 in
theorem k2_digitAt {l : Launch} {G : Gx} (hF : SF l G) {X : va_W} {t : Nat → Nat} {u : Nat × Nat × (Nat → Int32) × Int32} {L : List Int32} (hT : sbT u L) (hch : chL L) (hL : L.length ≤ 60) {vb : Nat} {p0 : Nat} {g : Nat → Int32} {i : Nat} (hi : i < 1000) : MI l G yX2_digitAt cX2_digitAt 3 .int 4 0 0 [.ref (t 0), .int (nI i)] (sbY G (t 1) u L ++ (ctC G t vb (nI p0) g ++ X)) (fun r _ => r = dgA L i) (fun _ : Unit => sbY G (t 1) u L ++ (ctC G t vb (nI p0) g ++ X)) := by
  refine mt_of hF (by decide) (Nat.le_of_ble_eq_true rfl) ?_
  intro p e s m below meth c C hin ls hl H locs hw
  have hl : lv_has ls 3 [(0, .ref (t 0)), (1, .int (nI i))] := hl
  refine lv_iload_n C.1 C.2.1 dX2_digitAt_0 rfl (lv_at hl 1 rfl) ?_
  refine lv_if_lt (tgt := 15) C.1 C.2.1 dX2_digitAt_1 (by decide) (fun c_1 => absurd c_1 (nI_pos (by omega))) (fun c_1 => ?_)
  refine lv_iload_n C.1 C.2.1 dX2_digitAt_4 rfl (lv_at hl 1 rfl) ?_
  refine lv_aload_n C.1 C.2.1 dX2_digitAt_5 rfl (lv_at hl 0 rfl) ?_
  refine r_get C hw 2 rfl rfl in_X2 0 (by decide) fl_X2_12 rfl (v := .ref (t 1)) rfl dX2_digitAt_6 ?_
  refine r_vi C hw (s_length hF (X := (ctC G t vb (nI p0) g ++ X)) hT) ml_X2_40 yf_J4_length_8abf5 0 rfl rfl (As := []) rfl rfl ⟨(Nat.le_of_ble_eq_true rfl), (Nat.le_of_ble_eq_true rfl)⟩ ⟨(Nat.le_of_ble_eq_true rfl), (Nat.le_of_ble_eq_true rfl)⟩ hl.1 (Nat.le_of_ble_eq_true rfl) dX2_digitAt_9 (fun r_9 u_9 H locs hp_9 hw => ?_)
  obtain rfl : r_9 = nI L.length := hp_9
  replace hw : WH G s (sbY G (t 1) u L ++ (ctC G t vb (nI p0) g ++ X)) H locs := hw
  refine lv_icmp_lt (tgt := 17) C.1 C.2.1 dX2_digitAt_12 (by decide) (fun c_12 => ?_) (fun c_12 => ?_)
  · have hz : i < L.length := (nI_ltI (by omega) (by omega)).mp c_12
    refine lv_aload_n C.1 C.2.1 dX2_digitAt_17 rfl (lv_at hl 0 rfl) ?_
    refine r_get C hw 2 rfl rfl in_X2 0 (by decide) fl_X2_12 rfl (v := .ref (t 1)) rfl dX2_digitAt_18 ?_
    refine lv_iload_n C.1 C.2.1 dX2_digitAt_21 rfl (lv_at hl 1 rfl) ?_
    refine r_vi C hw (s_charAt hF (X := (ctC G t vb (nI p0) g ++ X)) hT hch (i := i) (by omega)) ml_X2_115 yf_J4_charAt_5068e 0 rfl rfl (As := [.int (nI i)]) rfl rfl ⟨(Nat.le_of_ble_eq_true rfl), (Nat.le_of_ble_eq_true rfl)⟩ ⟨(Nat.le_of_ble_eq_true rfl), (Nat.le_of_ble_eq_true rfl)⟩ hl.1 (Nat.le_of_ble_eq_true rfl) dX2_digitAt_22 (fun r_22 u_22 H locs hp_22 hw => ?_)
    obtain rfl : r_22 = L.getD i 0 := hp_22
    replace hw : WH G s (sbY G (t 1) u L ++ (ctC G t vb (nI p0) g ++ X)) H locs := hw
    refine lv_istore_n (lv' := [(2, .int (L.getD i 0)), (0, .ref (t 0)), (1, .int (nI i))]) C.1 C.2.1 dX2_digitAt_25 rfl hl (by decide) rfl (fun ls hl => ?_)
    refine lv_iload_n C.1 C.2.1 dX2_digitAt_26 rfl (lv_at hl 0 rfl) ?_
    refine lv_bipush (v := 48) C.1 C.2.1 dX2_digitAt_27 (by decide) ?_
    refine lv_icmp_lt (tgt := 45) C.1 C.2.1 dX2_digitAt_29 (by decide) (fun c_29 => ?_) (fun c_29 => ?_)
    · refine lv_iconst (v := -1) C.1 C.2.1 dX2_digitAt_45 (by decide) ?_
      exact r_iret C hw rfl rfl () (by unfold dgA dgB inR; generalize L.getD i 0 = z9 at c_29 ⊢; simp [hz, c_29]) rfl (Nat.le_of_ble_eq_true rfl) (Nat.le_of_ble_eq_true rfl) dX2_digitAt_46
    · refine lv_iload_n C.1 C.2.1 dX2_digitAt_32 rfl (lv_at hl 0 rfl) ?_
      refine lv_bipush (v := 57) C.1 C.2.1 dX2_digitAt_33 (by decide) ?_
      refine lv_icmp_gt (tgt := 45) C.1 C.2.1 dX2_digitAt_35 (by decide) (fun c_35 => ?_) (fun c_35 => ?_)
      · refine lv_iconst (v := -1) C.1 C.2.1 dX2_digitAt_45 (by decide) ?_
        exact r_iret C hw rfl rfl () (by unfold dgA dgB inR; generalize L.getD i 0 = z9 at c_29 c_35 ⊢; simp [hz, c_29, c_35]) rfl (Nat.le_of_ble_eq_true rfl) (Nat.le_of_ble_eq_true rfl) dX2_digitAt_46
      · refine lv_iload_n C.1 C.2.1 dX2_digitAt_38 rfl (lv_at hl 0 rfl) ?_
        refine lv_bipush (v := 48) C.1 C.2.1 dX2_digitAt_39 (by decide) ?_
        refine lv_isub C.1 C.2.1 dX2_digitAt_41 ?_
        refine lv_goto (tgt := 46) C.1 C.2.1 dX2_digitAt_42 (by decide) ?_
        exact r_iret C hw rfl rfl () (by unfold dgA dgB inR; generalize L.getD i 0 = z9 at c_29 c_35 ⊢; simp [hz, c_29, c_35]) rfl (Nat.le_of_ble_eq_true rfl) (Nat.le_of_ble_eq_true rfl) dX2_digitAt_46
  · have hz : ¬ i < L.length := by have := mt (nI_ltI (by omega) (by omega)).mpr c_12; omega
    refine lv_iconst (v := -1) C.1 C.2.1 dX2_digitAt_15 (by decide) ?_
    exact r_iret C hw rfl rfl () (by unfold dgA dgB inR; generalize L.getD i 0 = z9; simp [hz]) rfl (Nat.le_of_ble_eq_true rfl) (Nat.le_of_ble_eq_true rfl) dX2_digitAt_16

set_option maxHeartbeats 4000000 in
set_option maxRecDepth 100000 in
theorem k2_readSign {l : Launch} {G : Gx} (hF : SF l G) {X : va_W} {t : Nat → Nat} {u : Nat × Nat × (Nat → Int32) × Int32} {L : List Int32} (hT : sbT u L) (hch : chL L) (hL : L.length ≤ 60) {vb : Nat} {p0 : Nat} {g : Nat → Int32} (hp0 : p0 < 900) (ch : Int32) : MI l G yX2_readSign cX2_readSign 2 .boolean 5 0 0 [.ref (t 0), .int ch] (sbY G (t 1) u L ++ (ctC G t vb (nI p0) g ++ X)) (fun r _ => r = bI (stB L p0 ch)) (fun _ : Unit => sbY G (t 1) u L ++ (ctC G t vb (nI (if stB L p0 ch = true then p0 + 1 else p0)) g ++ X)) := by
  refine mt_of hF (by decide) (Nat.le_of_ble_eq_true rfl) ?_
  intro p e s m below meth c C hin ls hl H locs hw
  have hl : lv_has ls 2 [(0, .ref (t 0)), (1, .int ch)] := hl
  refine lv_aload_n C.1 C.2.1 dX2_readSign_0 rfl (lv_at hl 0 rfl) ?_
  refine lv_aload_n C.1 C.2.1 dX2_readSign_1 rfl (lv_at hl 0 rfl) ?_
  refine r_get C hw 2 rfl rfl in_X2 3 (by decide) fl_X2_36 rfl (v := .int (nI p0)) rfl dX2_readSign_2 ?_
  refine lv_iload_n C.1 C.2.1 dX2_readSign_5 rfl (lv_at hl 1 rfl) ?_
  refine r_vi C hw (k2_standsAt hF (X := X) hT hch hL (vb := vb) (p0 := p0) (g := g) (i := p0) (by omega) ch) ml_X2_93 yf_X2_standsAt 2 rfl rfl (As := [.int (nI p0), .int ch]) rfl rfl ⟨(Nat.le_of_ble_eq_true rfl), (Nat.le_of_ble_eq_true rfl)⟩ ⟨(Nat.le_of_ble_eq_true rfl), (Nat.le_of_ble_eq_true rfl)⟩ hl.1 (Nat.le_of_ble_eq_true rfl) dX2_readSign_6 (fun r_6 u_6 H locs hp_6 hw => ?_)
  obtain rfl : r_6 = bI (stB L p0 ch) := hp_6
  replace hw : WH G s (sbY G (t 1) u L ++ (ctC G t vb (nI p0) g ++ X)) H locs := hw
  refine lv_if_ne (tgt := 14) C.1 C.2.1 dX2_readSign_9 (by decide) (fun c_9 => ?_) (fun c_9 => ?_)
  · have b_9 := bI_ne0.mp c_9
    refine lv_aload_n C.1 C.2.1 dX2_readSign_14 rfl (lv_at hl 0 rfl) ?_
    refine lv_dup C.1 C.2.1 dX2_readSign_15 rfl ?_
    refine r_get C hw 2 rfl rfl in_X2 3 (by decide) fl_X2_36 rfl (v := .int (nI p0)) rfl dX2_readSign_16 ?_
    refine lv_iconst (v := 1) C.1 C.2.1 dX2_readSign_19 (by decide) ?_
    refine lv_iadd C.1 C.2.1 dX2_readSign_20 ?_
    refine r_toe (show _ = nI (p0 + 1) from nI_add p0 1) ?_
    refine r_put C hw 2 rfl rfl in_X2 tyX2 tyX2_ok nmX2 3 (by decide) fl_X2_36 rfl rfl rfl rfl (Nat.le_of_ble_eq_true rfl) (w' := sbY G (t 1) u L ++ (ctC G t vb (nI (p0 + 1)) g ++ X)) rfl dX2_readSign_21 (fun H locs hw => ?_)
    refine lv_iconst (v := 1) C.1 C.2.1 dX2_readSign_24 (by decide) ?_
    exact r_iret C hw rfl rfl () (by rw [b_9]; rfl) (by rw [b_9] <;> rfl) (Nat.le_of_ble_eq_true rfl) (Nat.le_of_ble_eq_true rfl) dX2_readSign_25
  · have b_9 := bI_eq0.mp c_9
    refine lv_iconst (v := 0) C.1 C.2.1 dX2_readSign_12 (by decide) ?_
    exact r_iret C hw rfl rfl () (by rw [b_9]; rfl) (by rw [b_9] <;> rfl) (Nat.le_of_ble_eq_true rfl) (Nat.le_of_ble_eq_true rfl) dX2_readSign_13

