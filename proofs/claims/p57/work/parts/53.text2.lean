/-! CommandText: how a text is read -/
theorem stB_lt {L : List Int32} {i : Nat} {ch : Int32} (h : stB L i ch = true) : i < L.length := by
  unfold stB at h
  simp only [Bool.and_eq_true, decide_eq_true_eq] at h
  exact h.1
theorem dgB_lt {L : List Int32} {i : Nat} (h : dgB L i = true) : i < L.length := by
  unfold dgB at h
  simp only [Bool.and_eq_true, decide_eq_true_eq] at h
  exact h.1
def nmC (L : List Int32) : Nat → Nat → Int32 → Nat × Int32
  | 0, q, x => (q, x)
  | k + 1, q, x => if dgB L q = true then nmC L k (q + 1) (10 * x + dgA L q) else (q, x)
theorem nmC_le {L : List Int32} : ∀ {k q : Nat} {x : Int32}, q ≤ L.length → q ≤ (nmC L k q x).1 ∧ (nmC L k q x).1 ≤ L.length
  | 0, _, _, h => ⟨Nat.le_refl _, h⟩
  | k + 1, q, x, h => by
    rw [nmC]
    split
    · have h2 := dgB_lt (by assumption)
      have h3 := @nmC_le L k (q + 1) (10 * x + dgA L q) h2
      exact ⟨by omega, h3.2⟩
    · exact ⟨Nat.le_refl _, h⟩
def mwR (L W : List Int32) (q : Nat) : Nat → Nat → Nat
  | 0, k => k
  | v + 1, k => if stB L (q + k) (W.getD k 0 &&& 255) = true then mwR L W q v (k + 1) else k
def mwC (L W : List Int32) (q : Nat) : Nat := mwR L W q W.length 0
theorem mwR_le {L W : List Int32} {q : Nat} : ∀ {v k : Nat}, q + k ≤ L.length → q + mwR L W q v k ≤ L.length ∧ mwR L W q v k ≤ k + v
  | 0, _, h => ⟨h, Nat.le_refl _⟩
  | v + 1, k, h => by
    rw [mwR]
    split
    · have h2 := stB_lt (by assumption)
      have h3 := @mwR_le L W q v (k + 1) (by omega)
      exact ⟨h3.1, by omega⟩
    · exact ⟨h, by omega⟩
theorem mwC_le {L W : List Int32} {q : Nat} (h : q ≤ L.length) : q + mwC L W q ≤ L.length := (mwR_le (k := 0) h).1
def rvR (L : List Int32) (q : Nat) : Nat → Nat → Nat → Bool × Nat × Nat
  | 0, i, lo => (false, i, lo)
  | v + 1, i, lo => if mwC L (wdL i) q = (wdL i).length then (true, i, lo) else rvR L q v (i + 1) (max lo (mwC L (wdL i) q))
theorem rvR_le {L : List Int32} {q : Nat} (h : q ≤ L.length) : ∀ {v i lo : Nat}, i + v ≤ 7 → q + lo ≤ L.length → q + (rvR L q v i lo).2.2 ≤ L.length ∧ ((rvR L q v i lo).1 = true → (rvR L q v i lo).2.1 < 7 ∧ q + (wdL (rvR L q v i lo).2.1).length ≤ L.length)
  | 0, _, _, _, h2 => ⟨h2, fun e => by cases e⟩
  | v + 1, i, lo, h1, h2 => by
    rw [rvR]
    have h3 := mwC_le (W := wdL i) h
    split
    · exact ⟨h2, fun _ => ⟨by show i < 7; omega, by show q + (wdL i).length ≤ _; omega⟩⟩
    · exact rvR_le h (by omega) (by omega)
/-- a word read: whether, which, how far -/
def rvC (L : List Int32) (q vb : Nat) : Bool × Nat × Nat := if (rvR L q 7 0 0).1 = true then (true, (rvR L q 7 0 0).2.1, q + (wdL (rvR L q 7 0 0).2.1).length) else (false, vb, q + (rvR L q 7 0 0).2.2)
theorem rvC_le {L : List Int32} {q vb : Nat} (h : q ≤ L.length) (hv : vb < 7) : (rvC L q vb).2.2 ≤ L.length ∧ (rvC L q vb).2.1 < 7 := by
  have h2 := @rvR_le L q h 7 0 0 (by omega) (by omega)
  unfold rvC
  split
  · exact ⟨(h2.2 (by assumption)).2, (h2.2 (by assumption)).1⟩
  · exact ⟨h2.1, hv⟩
def ndV (i : Nat) : Nat := ([0, 1, 1, 0, 0, 0, 0] : List Nat).getD i 0
def nnV (i : Nat) : Nat := ([2, 2, 2, 1, 1, 0, 0] : List Nat).getD i 0
theorem dg_n : ∀ i, i < 7 → dgV i = nI (ndV i) ∧ nmbV i = nI (nnV i) ∧ ndV i + nnV i ≤ 3 := by decide
def rpR (L : List Int32) (vb : Nat) : Nat → Nat → Nat → (Nat → Int32) → Bool × Nat × (Nat → Int32)
  | 0, _, q, g => (true, q, g)
  | v + 1, i, q, g => if stB L q 32 = true then (if q + 1 < (nmC L (if ndV vb ≤ i then 3 else 1) (q + 1) 0).1 then rpR L vb v (i + 1) (nmC L (if ndV vb ≤ i then 3 else 1) (q + 1) 0).1 (upd g i (nmC L (if ndV vb ≤ i then 3 else 1) (q + 1) 0).2) else (false, (nmC L (if ndV vb ≤ i then 3 else 1) (q + 1) 0).1, upd g i (nmC L (if ndV vb ≤ i then 3 else 1) (q + 1) 0).2)) else (false, q, g)
theorem rpR_le {L : List Int32} {vb : Nat} : ∀ {v i q : Nat} {g : Nat → Int32}, q ≤ L.length → (rpR L vb v i q g).2.1 ≤ L.length
  | 0, _, _, _, h => h
  | v + 1, i, q, g, h => by
    rw [rpR]
    split
    · have h2 := stB_lt (by assumption)
      have h3 := @nmC_le L (if ndV vb ≤ i then 3 else 1) (q + 1) 0 h2
      generalize (if ndV vb ≤ i then 3 else 1) = mo1 at h3 ⊢
      split
      · exact rpR_le h3.2
      · exact h3.2
    · exact h
def rcQ (L : List Int32) (q : Nat) : Option Nat := if q = 0 then some 0 else if stB L q 59 = true then some (q + 1) else none
/-- a command read: whether, how far, the verb, the parameters -/
def rcC (L : List Int32) (q vb : Nat) (g : Nat → Int32) : Bool × Nat × Nat × (Nat → Int32) := match rcQ L q with
  | none => (false, q, vb, g)
  | some r => if (rvC L r vb).1 = true then ((rpR L (rvC L r vb).2.1 (ndV (rvC L r vb).2.1 + nnV (rvC L r vb).2.1) 0 (rvC L r vb).2.2 g).1, (rpR L (rvC L r vb).2.1 (ndV (rvC L r vb).2.1 + nnV (rvC L r vb).2.1) 0 (rvC L r vb).2.2 g).2.1, (rvC L r vb).2.1, (rpR L (rvC L r vb).2.1 (ndV (rvC L r vb).2.1 + nnV (rvC L r vb).2.1) 0 (rvC L r vb).2.2 g).2.2) else (false, (rvC L r vb).2.2, (rvC L r vb).2.1, g)
theorem rcQ_le {L : List Int32} {q r : Nat} (h : rcQ L q = some r) (hq : q ≤ L.length) : r ≤ L.length := by
  unfold rcQ at h
  split at h
  · cases h; exact Nat.zero_le _
  · split at h
    · cases h; exact stB_lt (by assumption)
    · cases h
theorem rcC_le {L : List Int32} {q vb : Nat} {g : Nat → Int32} (h : q ≤ L.length) (hv : vb < 7) : (rcC L q vb g).2.1 ≤ L.length ∧ (rcC L q vb g).2.2.1 < 7 := by
  unfold rcC
  split
  · exact ⟨h, hv⟩
  · rename_i r hr
    have h1 := rcQ_le hr h
    have h2 := rvC_le h1 hv
    split
    · exact ⟨rpR_le h2.1, h2.2⟩
    · exact h2
def cnC (L : List Int32) : Nat → Nat → Nat → Nat → (Nat → Int32) → Option Nat × Nat × Nat × (Nat → Int32)
  | 0, _, q, vb, g => (none, q, vb, g)
  | v + 1, k, q, vb, g => if (rcC L q vb g).1 = false then (none, (rcC L q vb g).2) else if (rcC L q vb g).2.1 = L.length then (some k, (rcC L q vb g).2) else cnC L v (k + 1) (rcC L q vb g).2.1 (rcC L q vb g).2.2.1 (rcC L q vb g).2.2.2

set_option maxHeartbeats 4000000 in
set_option maxRecDepth 100000 in
theorem k2_readNumber {l : Launch} {G : Gx} (hF : SF l G) {X : va_W} {t : Nat → Nat} {u : Nat × Nat × (Nat → Int32) × Int32} {L : List Int32} (hT : sbT u L) (hch : chL L) (hL : L.length ≤ 60) {vb : Nat} {p0 : Nat} {g : Nat → Int32} (hp0 : p0 ≤ L.length) {ix mo1 : Nat} (hix : ix < 3) (hm : mo1 ≤ 3) : MI l G yX2_readNumber cX2_readNumber 5 .boolean 5 0 0 [.ref (t 0), .int (nI ix), .int (nI mo1)] (sbY G (t 1) u L ++ (ctC G t vb (nI p0) g ++ X)) (fun r _ => r = bI (decide (p0 < (nmC L mo1 p0 0).1))) (fun _ : Unit => sbY G (t 1) u L ++ (ctC G t vb (nI (nmC L mo1 p0 0).1) (upd g ix (nmC L mo1 p0 0).2) ++ X)) := by
  refine mt_of hF (by decide) (Nat.le_of_ble_eq_true rfl) ?_
  intro p e s m below meth c C hin ls hl H locs hw
  have hl : lv_has ls 5 [(0, .ref (t 0)), (1, .int (nI ix)), (2, .int (nI mo1))] := hl
  refine lv_iconst (v := 0) C.1 C.2.1 dX2_readNumber_0 (by decide) ?_
  refine lv_istore_n (lv' := [(3, .int 0), (0, .ref (t 0)), (1, .int (nI ix)), (2, .int (nI mo1))]) C.1 C.2.1 dX2_readNumber_1 rfl hl (by decide) rfl (fun ls hl => ?_)
  refine lv_iconst (v := 0) C.1 C.2.1 dX2_readNumber_2 (by decide) ?_
  refine lv_istore (lv' := [(4, .int 0), (3, .int 0), (0, .ref (t 0)), (1, .int (nI ix)), (2, .int (nI mo1))]) C.1 C.2.1 dX2_readNumber_3 hl (by decide) rfl (fun ls hl => ?_)
  refine w_loop (σ := Nat × Nat × Int32) G (fun u ⟨k, q, x⟩ => k ≤ mo1 ∧ mo1 < k + u ∧ q = p0 + k ∧ q ≤ L.length ∧ nmC L (mo1 - k) q x = nmC L mo1 p0 0) (fun ⟨k, q, x⟩ => sbY G (t 1) u L ++ (ctC G t vb (nI q) g ++ X)) (fun ⟨k, q, x⟩ => 0) (fun ⟨k, q, x⟩ => 0) (fun ⟨k, q, x⟩ => [(0, .ref (t 0)), (1, .int (nI ix)), (2, .int (nI mo1)), (3, .int x), (4, .int (nI k))]) 5 ?_ ?_ (mo1 + 1) (0, p0, 0) (⟨Nat.zero_le _, by omega, rfl, hp0, rfl⟩) hw (lv_sub hl [2, 3, 4, 1, 0] rfl)
  · rintro n5 ⟨k, q, x⟩ ⟨h1, h2, h3, h4, h5⟩ ih5 H locs hw ls hl
    replace hw : WH G s (sbY G (t 1) u L ++ (ctC G t vb (nI q) g ++ X)) H locs := hw
    replace hl : lv_has ls 5 [(0, .ref (t 0)), (1, .int (nI ix)), (2, .int (nI mo1)), (3, .int x), (4, .int (nI k))] := hl
    have hq2 : q ≤ L.length := h4
    refine lv_iload C.1 C.2.1 dX2_readNumber_5 (lv_at hl 4 rfl) ?_
    refine lv_iload_n C.1 C.2.1 dX2_readNumber_7 rfl (lv_at hl 2 rfl) ?_
    refine lv_icmp_ge (tgt := 53) C.1 C.2.1 dX2_readNumber_8 (by decide) (fun c_8 => ?_) (fun c_8 => ?_)
    · have hkm : k = mo1 := le_T h1 (by omega) c_8
      refine lv_aload_n C.1 C.2.1 dX2_readNumber_53 rfl (lv_at hl 0 rfl) ?_
      refine r_get C hw 2 rfl rfl in_X2 1 (by decide) fl_X2_23 rfl (v := .ref (t 2)) rfl dX2_readNumber_54 ?_
      refine lv_iload_n C.1 C.2.1 dX2_readNumber_57 rfl (lv_at hl 1 rfl) ?_
      refine lv_iload_n C.1 C.2.1 dX2_readNumber_58 rfl (lv_at hl 3 rfl) ?_
      refine r_vv C hw (k7_set hF (ct_row G t u L vb (nI q) X) (by decide) (f := g) rfl (nI ix) x) ml_X2_111 yf_X7_set 3 rfl rfl (As := [.int (nI ix), .int x]) rfl rfl ⟨(Nat.le_of_ble_eq_true rfl), (Nat.le_of_ble_eq_true rfl)⟩ ⟨(Nat.le_of_ble_eq_true rfl), (Nat.le_of_ble_eq_true rfl)⟩ hl.1 (Nat.le_of_ble_eq_true rfl) dX2_readNumber_59 (fun _ H locs hp_59 hw => ?_)
      rw [rset_nI hix (by decide)] at hw
      replace hw : WH G s (sbY G (t 1) u L ++ (ctC G t vb (nI q) (upd g ix x) ++ X)) H locs := hw
      refine lv_iload C.1 C.2.1 dX2_readNumber_62 (lv_at hl 4 rfl) ?_
      refine lv_if_le (tgt := 71) C.1 C.2.1 dX2_readNumber_64 (by decide) (fun c_64 => ?_) (fun c_64 => ?_)
      · have h64 : ¬ p0 < q := by have := (nI_leI (a := k) (b := 0) (by omega) (by decide)).mp c_64; omega
        refine lv_iconst (v := 0) C.1 C.2.1 dX2_readNumber_71 (by decide) ?_
        have hz : nmC L mo1 p0 0 = (q, x) := by rw [← h5, hkm, Nat.sub_self]; rfl
        exact r_iret C hw rfl rfl () (by rw [hz]; simp [bI, h64]) (by rw [hz]) (Nat.le_of_ble_eq_true rfl) (Nat.le_of_ble_eq_true rfl) dX2_readNumber_72
      · have h64 : p0 < q := by have := mt (nI_leI (a := k) (b := 0) (by omega) (by decide)).mpr c_64; omega
        refine lv_iconst (v := 1) C.1 C.2.1 dX2_readNumber_67 (by decide) ?_
        refine lv_goto (tgt := 72) C.1 C.2.1 dX2_readNumber_68 (by decide) ?_
        have hz : nmC L mo1 p0 0 = (q, x) := by rw [← h5, hkm, Nat.sub_self]; rfl
        exact r_iret C hw rfl rfl () (by rw [hz]; simp [bI, h64]) (by rw [hz]) (Nat.le_of_ble_eq_true rfl) (Nat.le_of_ble_eq_true rfl) dX2_readNumber_72
    · have hk := le_F h1 (by omega) c_8
      refine lv_aload_n C.1 C.2.1 dX2_readNumber_11 rfl (lv_at hl 0 rfl) ?_
      refine lv_aload_n C.1 C.2.1 dX2_readNumber_12 rfl (lv_at hl 0 rfl) ?_
      refine r_get C hw 2 rfl rfl in_X2 3 (by decide) fl_X2_36 rfl (v := .int (nI q)) rfl dX2_readNumber_13 ?_
      refine r_vi C hw (k2_digitAt hF (X := X) hT hch hL (vb := vb) (p0 := q) (g := g) (i := q) (by omega)) ml_X2_107 yf_X2_digitAt 2 rfl rfl (As := [.int (nI q)]) rfl rfl ⟨(Nat.le_of_ble_eq_true rfl), (Nat.le_of_ble_eq_true rfl)⟩ ⟨(Nat.le_of_ble_eq_true rfl), (Nat.le_of_ble_eq_true rfl)⟩ hl.1 (Nat.le_of_ble_eq_true rfl) dX2_readNumber_16 (fun r_16 u_16 H locs hp_16 hw => ?_)
      obtain rfl : r_16 = dgA L q := hp_16
      replace hw : WH G s (sbY G (t 1) u L ++ (ctC G t vb (nI q) g ++ X)) H locs := hw
      refine lv_iconst (v := -1) C.1 C.2.1 dX2_readNumber_19 (by decide) ?_
      refine lv_icmp_eq (tgt := 53) C.1 C.2.1 dX2_readNumber_20 (by decide) (fun c_20 => ?_) (fun c_20 => ?_)
      · have hdg := (dgA_ne hch).mp c_20
        refine lv_aload_n C.1 C.2.1 dX2_readNumber_53 rfl (lv_at hl 0 rfl) ?_
        refine r_get C hw 2 rfl rfl in_X2 1 (by decide) fl_X2_23 rfl (v := .ref (t 2)) rfl dX2_readNumber_54 ?_
        refine lv_iload_n C.1 C.2.1 dX2_readNumber_57 rfl (lv_at hl 1 rfl) ?_
        refine lv_iload_n C.1 C.2.1 dX2_readNumber_58 rfl (lv_at hl 3 rfl) ?_
        refine r_vv C hw (k7_set hF (ct_row G t u L vb (nI q) X) (by decide) (f := g) rfl (nI ix) x) ml_X2_111 yf_X7_set 3 rfl rfl (As := [.int (nI ix), .int x]) rfl rfl ⟨(Nat.le_of_ble_eq_true rfl), (Nat.le_of_ble_eq_true rfl)⟩ ⟨(Nat.le_of_ble_eq_true rfl), (Nat.le_of_ble_eq_true rfl)⟩ hl.1 (Nat.le_of_ble_eq_true rfl) dX2_readNumber_59 (fun _ H locs hp_59 hw => ?_)
        rw [rset_nI hix (by decide)] at hw
        replace hw : WH G s (sbY G (t 1) u L ++ (ctC G t vb (nI q) (upd g ix x) ++ X)) H locs := hw
        refine lv_iload C.1 C.2.1 dX2_readNumber_62 (lv_at hl 4 rfl) ?_
        refine lv_if_le (tgt := 71) C.1 C.2.1 dX2_readNumber_64 (by decide) (fun c_64 => ?_) (fun c_64 => ?_)
        · have h64 : ¬ p0 < q := by have := (nI_leI (a := k) (b := 0) (by omega) (by decide)).mp c_64; omega
          refine lv_iconst (v := 0) C.1 C.2.1 dX2_readNumber_71 (by decide) ?_
          have hz : nmC L mo1 p0 0 = (q, x) := by rw [← h5, show mo1 - k = (mo1 - (k + 1)) + 1 by omega, nmC, if_neg (by rw [hdg]; decide)]
          exact r_iret C hw rfl rfl () (by rw [hz]; simp [bI, h64]) (by rw [hz]) (Nat.le_of_ble_eq_true rfl) (Nat.le_of_ble_eq_true rfl) dX2_readNumber_72
        · have h64 : p0 < q := by have := mt (nI_leI (a := k) (b := 0) (by omega) (by decide)).mpr c_64; omega
          refine lv_iconst (v := 1) C.1 C.2.1 dX2_readNumber_67 (by decide) ?_
          refine lv_goto (tgt := 72) C.1 C.2.1 dX2_readNumber_68 (by decide) ?_
          have hz : nmC L mo1 p0 0 = (q, x) := by rw [← h5, show mo1 - k = (mo1 - (k + 1)) + 1 by omega, nmC, if_neg (by rw [hdg]; decide)]
          exact r_iret C hw rfl rfl () (by rw [hz]; simp [bI, h64]) (by rw [hz]) (Nat.le_of_ble_eq_true rfl) (Nat.le_of_ble_eq_true rfl) dX2_readNumber_72
      · have hdg : dgB L q = true := by cases hd : dgB L q with | true => rfl | false => exact absurd ((dgA_ne hch).mpr hd) c_20
        have hlt := dgB_lt hdg
        refine lv_bipush (v := 10) C.1 C.2.1 dX2_readNumber_23 (by decide) ?_
        refine lv_iload_n C.1 C.2.1 dX2_readNumber_25 rfl (lv_at hl 3 rfl) ?_
        refine lv_imul C.1 C.2.1 dX2_readNumber_26 ?_
        refine lv_aload_n C.1 C.2.1 dX2_readNumber_27 rfl (lv_at hl 0 rfl) ?_
        refine lv_aload_n C.1 C.2.1 dX2_readNumber_28 rfl (lv_at hl 0 rfl) ?_
        refine r_get C hw 2 rfl rfl in_X2 3 (by decide) fl_X2_36 rfl (v := .int (nI q)) rfl dX2_readNumber_29 ?_
        refine r_vi C hw (k2_digitAt hF (X := X) hT hch hL (vb := vb) (p0 := q) (g := g) (i := q) (by omega)) ml_X2_107 yf_X2_digitAt 2 rfl rfl (As := [.int (nI q)]) rfl rfl ⟨(Nat.le_of_ble_eq_true rfl), (Nat.le_of_ble_eq_true rfl)⟩ ⟨(Nat.le_of_ble_eq_true rfl), (Nat.le_of_ble_eq_true rfl)⟩ hl.1 (Nat.le_of_ble_eq_true rfl) dX2_readNumber_32 (fun r_32 u_32 H locs hp_32 hw => ?_)
        obtain rfl : r_32 = dgA L q := hp_32
        replace hw : WH G s (sbY G (t 1) u L ++ (ctC G t vb (nI q) g ++ X)) H locs := hw
        refine lv_iadd C.1 C.2.1 dX2_readNumber_35 ?_
        refine lv_istore_n (lv' := [(3, .int ((10 * x) + (dgA L q))), (0, .ref (t 0)), (1, .int (nI ix)), (2, .int (nI mo1)), (4, .int (nI k))]) C.1 C.2.1 dX2_readNumber_36 rfl hl (by decide) rfl (fun ls hl => ?_)
        refine lv_iinc (v := nI (k + 1)) (lv' := [(4, .int (nI (k + 1))), (3, .int ((10 * x) + (dgA L q))), (0, .ref (t 0)), (1, .int (nI ix)), (2, .int (nI mo1))]) C.1 C.2.1 dX2_readNumber_37 hl (k := 4) rfl (inc_nI k) (by decide) rfl (fun ls hl => ?_)
        refine lv_aload_n C.1 C.2.1 dX2_readNumber_40 rfl (lv_at hl 2 rfl) ?_
        refine lv_dup C.1 C.2.1 dX2_readNumber_41 rfl ?_
        refine r_get C hw 2 rfl rfl in_X2 3 (by decide) fl_X2_36 rfl (v := .int (nI q)) rfl dX2_readNumber_42 ?_
        refine lv_iconst (v := 1) C.1 C.2.1 dX2_readNumber_45 (by decide) ?_
        refine lv_iadd C.1 C.2.1 dX2_readNumber_46 ?_
        refine r_toe (show _ = nI (q + 1) from nI_add q 1) ?_
        refine r_put C hw 2 rfl rfl in_X2 tyX2 tyX2_ok nmX2 3 (by decide) fl_X2_36 rfl rfl rfl rfl (Nat.le_of_ble_eq_true rfl) (w' := sbY G (t 1) u L ++ (ctC G t vb (nI (q + 1)) g ++ X)) rfl dX2_readNumber_47 (fun H locs hw => ?_)
        refine lv_goto (tgt := 5) C.1 C.2.1 dX2_readNumber_50 (by decide) ?_
        exact ih5 (k + 1, q + 1, 10 * x + dgA L q) (⟨by omega, by omega, by omega, hlt, by rw [← h5, show mo1 - k = (mo1 - (k + 1)) + 1 by omega, nmC, if_pos hdg]⟩) _ _ hw _ (lv_sub hl [2, 3, 4, 1, 0] rfl)
  · rintro ⟨k, q, x⟩ ⟨h1, h2, h3, h4, h5⟩; omega

set_option maxHeartbeats 4000000 in
set_option maxRecDepth 100000 in
theorem k2_matchingLetters {l : Launch} {G : Gx} (hF : SF l G) {X : va_W} {t : Nat → Nat} {u : Nat × Nat × (Nat → Int32) × Int32} {L : List Int32} (hT : sbT u L) (hch : chL L) (hL : L.length ≤ 60) {vb : Nat} {p0 : Nat} {g : Nat → Int32} (hp0 : p0 ≤ L.length) {a : Nat} {Wd : List Int32} (hlw : Wd.length < 1000) (hsw : StrAt G a Wd) : MI l G yX2_matchingLetters cX2_matchingLetters 3 .int 5 0 0 [.ref (t 0), .ref a] (sbY G (t 1) u L ++ (ctC G t vb (nI p0) g ++ X)) (fun r _ => r = nI (mwC L Wd p0)) (fun _ : Unit => sbY G (t 1) u L ++ (ctC G t vb (nI p0) g ++ X)) := by
  refine mt_of hF (by decide) (Nat.le_of_ble_eq_true rfl) ?_
  intro p e s m below meth c C hin ls hl H locs hw
  have hl : lv_has ls 3 [(0, .ref (t 0)), (1, .ref a)] := hl
  have how := hsw.choose_spec.1
  refine lv_iconst (v := 0) C.1 C.2.1 dX2_matchingLetters_0 (by decide) ?_
  refine lv_istore_n (lv' := [(2, .int 0), (0, .ref (t 0)), (1, .ref a)]) C.1 C.2.1 dX2_matchingLetters_1 rfl hl (by decide) rfl (fun ls hl => ?_)
  refine w_loop (σ := Nat) G (fun u k => k ≤ Wd.length ∧ Wd.length < k + u ∧ p0 + k ≤ L.length ∧ mwR L Wd p0 (Wd.length - k) k = mwC L Wd p0) (fun k => sbY G (t 1) u L ++ (ctC G t vb (nI p0) g ++ X)) (fun k => 0) (fun k => 0) (fun k => [(0, .ref (t 0)), (1, .ref a), (2, .int (nI k))]) 3 ?_ ?_ (Wd.length + 1) 0 (⟨Nat.zero_le _, by omega, hp0, rfl⟩) hw (lv_sub hl [1, 2, 0] rfl)
  · rintro n2 k ⟨h1, h2, h4, h3⟩ ih2 H locs hw ls hl
    replace hw : WH G s (sbY G (t 1) u L ++ (ctC G t vb (nI p0) g ++ X)) H locs := hw
    replace hl : lv_has ls 3 [(0, .ref (t 0)), (1, .ref a), (2, .int (nI k))] := hl
    have hpk : p0 + k ≤ L.length := h4
    refine lv_iload_n C.1 C.2.1 dX2_matchingLetters_2 rfl (lv_at hl 2 rfl) ?_
    refine lv_aload_n C.1 C.2.1 dX2_matchingLetters_3 rfl (lv_at hl 1 rfl) ?_
    refine r_Vi C hw (j_length hF (X := sbY G (t 1) u L ++ (ctC G t vb (nI p0) g ++ X)) (L := Wd) (by omega) hsw) ml_X2_80 yf_J0_length_8abf5 how (As := []) rfl rfl ⟨(Nat.le_of_ble_eq_true rfl), (Nat.le_of_ble_eq_true rfl)⟩ ⟨(Nat.le_of_ble_eq_true rfl), (Nat.le_of_ble_eq_true rfl)⟩ hl.1 (Nat.le_of_ble_eq_true rfl) dX2_matchingLetters_4 (fun r_4 _ H locs hp_4 hw => ?_)
    obtain rfl : r_4 = nI Wd.length := hp_4
    replace hw : WH G s (sbY G (t 1) u L ++ (ctC G t vb (nI p0) g ++ X)) H locs := hw
    refine lv_icmp_ge (tgt := 34) C.1 C.2.1 dX2_matchingLetters_7 (by decide) (fun c_7 => ?_) (fun c_7 => ?_)
    · have hkm : k = Wd.length := le_T h1 (by omega) c_7
      refine lv_iload_n C.1 C.2.1 dX2_matchingLetters_34 rfl (lv_at hl 2 rfl) ?_
      exact r_iret C hw rfl rfl () (by rw [← h3, hkm, Nat.sub_self]; rfl) rfl (Nat.le_of_ble_eq_true rfl) (Nat.le_of_ble_eq_true rfl) dX2_matchingLetters_35
    · have hk := le_F h1 (by omega) c_7
      refine lv_aload_n C.1 C.2.1 dX2_matchingLetters_10 rfl (lv_at hl 0 rfl) ?_
      refine lv_aload_n C.1 C.2.1 dX2_matchingLetters_11 rfl (lv_at hl 0 rfl) ?_
      refine r_get C hw 2 rfl rfl in_X2 3 (by decide) fl_X2_36 rfl (v := .int (nI p0)) rfl dX2_matchingLetters_12 ?_
      refine lv_iload_n C.1 C.2.1 dX2_matchingLetters_15 rfl (lv_at hl 2 rfl) ?_
      refine lv_iadd C.1 C.2.1 dX2_matchingLetters_16 ?_
      refine r_toe (show _ = nI (p0 + k) from nI_add p0 k) ?_
      refine lv_aload_n C.1 C.2.1 dX2_matchingLetters_17 rfl (lv_at hl 1 rfl) ?_
      refine lv_iload_n C.1 C.2.1 dX2_matchingLetters_18 rfl (lv_at hl 2 rfl) ?_
      refine r_Vi C hw (j_charAt hF (X := sbY G (t 1) u L ++ (ctC G t vb (nI p0) g ++ X)) (L := Wd) (i := k) (by omega) (by omega) hsw) ml_X2_89 yf_J0_charAt_5068e how (As := [.int (nI k)]) rfl rfl ⟨(Nat.le_of_ble_eq_true rfl), (Nat.le_of_ble_eq_true rfl)⟩ ⟨(Nat.le_of_ble_eq_true rfl), (Nat.le_of_ble_eq_true rfl)⟩ hl.1 (Nat.le_of_ble_eq_true rfl) dX2_matchingLetters_19 (fun r_19 _ H locs hp_19 hw => ?_)
      obtain rfl : r_19 = Wd.getD k 0 &&& 255 := hp_19
      replace hw : WH G s (sbY G (t 1) u L ++ (ctC G t vb (nI p0) g ++ X)) H locs := hw
      refine r_vi C hw (k2_standsAt hF (X := X) hT hch hL (vb := vb) (p0 := p0) (g := g) (i := (p0 + k)) (by omega) (Wd.getD k 0 &&& 255)) ml_X2_93 yf_X2_standsAt 2 rfl rfl (As := [.int (nI (p0 + k)), .int (Wd.getD k 0 &&& 255)]) rfl rfl ⟨(Nat.le_of_ble_eq_true rfl), (Nat.le_of_ble_eq_true rfl)⟩ ⟨(Nat.le_of_ble_eq_true rfl), (Nat.le_of_ble_eq_true rfl)⟩ hl.1 (Nat.le_of_ble_eq_true rfl) dX2_matchingLetters_22 (fun r_22 u_22 H locs hp_22 hw => ?_)
      obtain rfl : r_22 = bI (stB L (p0 + k) (Wd.getD k 0 &&& 255)) := hp_22
      replace hw : WH G s (sbY G (t 1) u L ++ (ctC G t vb (nI p0) g ++ X)) H locs := hw
      refine lv_if_eq (tgt := 34) C.1 C.2.1 dX2_matchingLetters_25 (by decide) (fun c_25 => ?_) (fun c_25 => ?_)
      · have b_25 := bI_eq0.mp c_25
        refine lv_iload_n C.1 C.2.1 dX2_matchingLetters_34 rfl (lv_at hl 2 rfl) ?_
        exact r_iret C hw rfl rfl () (by rw [← h3, show Wd.length - k = (Wd.length - (k + 1)) + 1 by omega, mwR, if_neg (by rw [b_25]; decide)]) rfl (Nat.le_of_ble_eq_true rfl) (Nat.le_of_ble_eq_true rfl) dX2_matchingLetters_35
      · have b_25 := bI_ne0.mp c_25
        have hlt := stB_lt b_25
        refine lv_iinc (v := nI (k + 1)) (lv' := [(2, .int (nI (k + 1))), (0, .ref (t 0)), (1, .ref a)]) C.1 C.2.1 dX2_matchingLetters_28 hl (k := 2) rfl (inc_nI k) (by decide) rfl (fun ls hl => ?_)
        refine lv_goto (tgt := 2) C.1 C.2.1 dX2_matchingLetters_31 (by decide) ?_
        exact ih2 (k + 1) (⟨by omega, by omega, by omega, by rw [← h3, show Wd.length - k = (Wd.length - (k + 1)) + 1 by omega, mwR, if_pos b_25]⟩) _ _ hw _ (lv_sub hl [1, 2, 0] rfl)
  · rintro k ⟨h1, h2, h4, h3⟩; omega

theorem wd_lt {i : Nat} (h : i < 7) : (wdL i).length < 1000 := by
  have key : ∀ i, i < 7 → (wdL i).length < 1000 := by decide
  exact key i h

set_option maxHeartbeats 4000000 in
set_option maxRecDepth 100000 in
theorem k2_readVerb {l : Launch} {G : Gx} (hF : SF l G) {X : va_W} {t : Nat → Nat} {u : Nat × Nat × (Nat → Int32) × Int32} {L : List Int32} (hT : sbT u L) (hch : chL L) (hL : L.length ≤ 60) {vb : Nat} {p0 : Nat} {g : Nat → Int32} (hp0 : p0 ≤ L.length) : MI l G yX2_readVerb cX2_readVerb 7 .boolean 6 0 0 [.ref (t 0)] (sbY G (t 1) u L ++ (ctC G t vb (nI p0) g ++ X)) (fun r _ => r = bI (rvC L p0 vb).1) (fun _ : Unit => sbY G (t 1) u L ++ (ctC G t ((rvC L p0 vb).2.1) (nI (rvC L p0 vb).2.2) g ++ X)) := by
  refine mt_of hF (by decide) (Nat.le_of_ble_eq_true rfl) ?_
  intro p e s m below meth c C hin ls hl H locs hw
  have hl : lv_has ls 7 [(0, .ref (t 0))] := hl
  obtain ⟨tv, hzv, htv⟩ := hF.verbs
  refine lv_iconst (v := 0) C.1 C.2.1 dX2_readVerb_0 (by decide) ?_
  refine lv_istore_n (lv' := [(1, .int 0), (0, .ref (t 0))]) C.1 C.2.1 dX2_readVerb_1 rfl hl (by decide) rfl (fun ls hl => ?_)
  refine r_gst C hw hzv fl_X2_68 dX2_readVerb_2 ?_
  refine lv_astore_n (lv' := [(2, .ref tv), (1, .int 0), (0, .ref (t 0))]) C.1 C.2.1 dX2_readVerb_5 rfl hl (by decide) rfl (fun ls hl => ?_)
  refine lv_aload_n C.1 C.2.1 dX2_readVerb_6 rfl (lv_at hl 0 rfl) ?_
  refine r_tlq C hw htv dX2_readVerb_7 ?_
  refine lv_istore_n (lv' := [(3, .int (nI 7)), (2, .ref tv), (1, .int 0), (0, .ref (t 0))]) C.1 C.2.1 dX2_readVerb_8 rfl hl (by decide) rfl (fun ls hl => ?_)
  refine lv_iconst (v := 0) C.1 C.2.1 dX2_readVerb_9 (by decide) ?_
  refine lv_istore (lv' := [(4, .int 0), (3, .int (nI 7)), (2, .ref tv), (1, .int 0), (0, .ref (t 0))]) C.1 C.2.1 dX2_readVerb_10 hl (by decide) rfl (fun ls hl => ?_)
  refine w_loop (σ := Nat × Nat) G (fun u ⟨i, lo⟩ => i ≤ 7 ∧ 7 < i + u ∧ p0 + lo ≤ L.length ∧ rvR L p0 (7 - i) i lo = rvR L p0 7 0 0) (fun ⟨i, lo⟩ => sbY G (t 1) u L ++ (ctC G t vb (nI p0) g ++ X)) (fun ⟨i, lo⟩ => 0) (fun ⟨i, lo⟩ => 0) (fun ⟨i, lo⟩ => [(0, .ref (t 0)), (1, .int (nI lo)), (2, .ref tv), (3, .int (nI 7)), (4, .int (nI i))]) 7 ?_ ?_ 8 (0, 0) (⟨Nat.zero_le _, by omega, hp0, rfl⟩) hw (lv_sub hl [4, 3, 2, 1, 0] rfl)
  · rintro n12 ⟨i, lo⟩ ⟨h1, h2, h3, h4⟩ ih12 H locs hw ls hl
    replace hw : WH G s (sbY G (t 1) u L ++ (ctC G t vb (nI p0) g ++ X)) H locs := hw
    replace hl : lv_has ls 7 [(0, .ref (t 0)), (1, .int (nI lo)), (2, .ref tv), (3, .int (nI 7)), (4, .int (nI i))] := hl
    refine lv_iload C.1 C.2.1 dX2_readVerb_12 (lv_at hl 4 rfl) ?_
    refine lv_iload_n C.1 C.2.1 dX2_readVerb_14 rfl (lv_at hl 3 rfl) ?_
    refine lv_icmp_ge (tgt := 80) C.1 C.2.1 dX2_readVerb_15 (by decide) (fun c_15 => ?_) (fun c_15 => ?_)
    · have hi7 : i = 7 := le_T h1 (by omega) c_15
      refine lv_aload_n C.1 C.2.1 dX2_readVerb_80 rfl (lv_at hl 0 rfl) ?_
      refine lv_dup C.1 C.2.1 dX2_readVerb_81 rfl ?_
      refine r_get C hw 2 rfl rfl in_X2 3 (by decide) fl_X2_36 rfl (v := .int (nI p0)) rfl dX2_readVerb_82 ?_
      refine lv_iload_n C.1 C.2.1 dX2_readVerb_85 rfl (lv_at hl 1 rfl) ?_
      refine lv_iadd C.1 C.2.1 dX2_readVerb_86 ?_
      refine r_toe (show _ = nI (p0 + lo) from nI_add _ _) ?_
      refine r_put C hw 2 rfl rfl in_X2 tyX2 tyX2_ok nmX2 3 (by decide) fl_X2_36 rfl rfl rfl rfl (Nat.le_of_ble_eq_true rfl) (w' := sbY G (t 1) u L ++ (ctC G t vb (nI (p0 + lo)) g ++ X)) rfl dX2_readVerb_87 (fun H locs hw => ?_)
      refine lv_iconst (v := 0) C.1 C.2.1 dX2_readVerb_90 (by decide) ?_
      have hz : rvR L p0 7 0 0 = (false, i, lo) := by rw [← h4, hi7, Nat.sub_self]; rfl
      exact r_iret C hw rfl rfl () (by rw [rvC, hz]; rfl) (by rw [rvC, hz] <;> rfl) (Nat.le_of_ble_eq_true rfl) (Nat.le_of_ble_eq_true rfl) dX2_readVerb_91
    · have hi7 := le_F h1 (by omega) c_15
      obtain ⟨aw, haw, hsw⟩ := hF.word hi7
      have how := hsw.choose_spec.1
      refine lv_aload_n C.1 C.2.1 dX2_readVerb_18 rfl (lv_at hl 2 rfl) ?_
      refine lv_iload C.1 C.2.1 dX2_readVerb_19 (lv_at hl 4 rfl) ?_
      refine r_tq C hw htv (i := i) (by omega) (by decide) dX2_readVerb_21 ?_
      refine lv_astore (lv' := [(5, .ref (G.2.2.2.2 i)), (0, .ref (t 0)), (1, .int (nI lo)), (2, .ref tv), (3, .int (nI 7)), (4, .int (nI i))]) C.1 C.2.1 dX2_readVerb_22 hl (by decide) rfl (fun ls hl => ?_)
      refine lv_aload_n C.1 C.2.1 dX2_readVerb_24 rfl (lv_at hl 1 rfl) ?_
      refine lv_aload C.1 C.2.1 dX2_readVerb_25 (lv_at hl 0 rfl) ?_
      refine r_of C hw haw fl_X2_72 rfl dX2_readVerb_27 ?_
      refine r_vi C hw (k2_matchingLetters hF (X := X) hT hch hL (vb := vb) (p0 := p0) (g := g) hp0 (a := aw) (Wd := wdL i) (wd_lt hi7) hsw) ml_X2_76 yf_X2_matchingLetters 2 rfl rfl (As := [.ref aw]) rfl rfl ⟨(Nat.le_of_ble_eq_true rfl), (Nat.le_of_ble_eq_true rfl)⟩ ⟨(Nat.le_of_ble_eq_true rfl), (Nat.le_of_ble_eq_true rfl)⟩ hl.1 (Nat.le_of_ble_eq_true rfl) dX2_readVerb_30 (fun r_30 u_30 H locs hp_30 hw => ?_)
      obtain rfl : r_30 = nI (mwC L (wdL i) p0) := hp_30
      replace hw : WH G s (sbY G (t 1) u L ++ (ctC G t vb (nI p0) g ++ X)) H locs := hw
      have hml := mwC_le (W := wdL i) hp0
      refine lv_istore (lv' := [(6, .int (nI (mwC L (wdL i) p0))), (5, .ref (G.2.2.2.2 i)), (0, .ref (t 0)), (1, .int (nI lo)), (2, .ref tv), (3, .int (nI 7)), (4, .int (nI i))]) C.1 C.2.1 dX2_readVerb_33 hl (by decide) rfl (fun ls hl => ?_)
      refine lv_iload C.1 C.2.1 dX2_readVerb_35 (lv_at hl 0 rfl) ?_
      refine lv_aload C.1 C.2.1 dX2_readVerb_37 (lv_at hl 1 rfl) ?_
      refine r_of C hw haw fl_X2_72 rfl dX2_readVerb_39 ?_
      refine r_Vi C hw (j_length hF (X := sbY G (t 1) u L ++ (ctC G t vb (nI p0) g ++ X)) (L := wdL i) (by have := wd_lt hi7; omega) hsw) ml_X2_80 yf_J0_length_8abf5 how (As := []) rfl rfl ⟨(Nat.le_of_ble_eq_true rfl), (Nat.le_of_ble_eq_true rfl)⟩ ⟨(Nat.le_of_ble_eq_true rfl), (Nat.le_of_ble_eq_true rfl)⟩ hl.1 (Nat.le_of_ble_eq_true rfl) dX2_readVerb_42 (fun r_42 _ H locs hp_42 hw => ?_)
      obtain rfl : r_42 = nI (wdL i).length := hp_42
      replace hw : WH G s (sbY G (t 1) u L ++ (ctC G t vb (nI p0) g ++ X)) H locs := hw
      refine lv_icmp_ne (tgt := 67) C.1 C.2.1 dX2_readVerb_45 (by decide) (fun c_45 => ?_) (fun c_45 => ?_)
      · have hne : ¬ mwC L (wdL i) p0 = (wdL i).length := fun q9 => c_45 (by rw [q9])
        refine lv_iload_n C.1 C.2.1 dX2_readVerb_67 rfl (lv_at hl 3 rfl) ?_
        refine lv_iload C.1 C.2.1 dX2_readVerb_68 (lv_at hl 0 rfl) ?_
        refine r_mmax C ml_X2_83 hl.1 (Nat.le_of_ble_eq_true rfl) (Nat.le_of_ble_eq_true rfl) (Nat.le_of_ble_eq_true rfl) (Nat.le_of_ble_eq_true rfl) dX2_readVerb_70 ?_
        refine r_toe (show _ = nI (max lo (mwC L (wdL i) p0)) from mmax_nI (by omega) (by omega)) ?_
        refine lv_istore_n (lv' := [(1, .int (nI (max lo (mwC L (wdL i) p0)))), (6, .int (nI (mwC L (wdL i) p0))), (5, .ref (G.2.2.2.2 i)), (0, .ref (t 0)), (2, .ref tv), (3, .int (nI 7)), (4, .int (nI i))]) C.1 C.2.1 dX2_readVerb_73 rfl hl (by decide) rfl (fun ls hl => ?_)
        refine lv_iinc (v := nI (i + 1)) (lv' := [(4, .int (nI (i + 1))), (1, .int (nI (max lo (mwC L (wdL i) p0)))), (6, .int (nI (mwC L (wdL i) p0))), (5, .ref (G.2.2.2.2 i)), (0, .ref (t 0)), (2, .ref tv), (3, .int (nI 7))]) C.1 C.2.1 dX2_readVerb_74 hl (k := 6) rfl (inc_nI i) (by decide) rfl (fun ls hl => ?_)
        refine lv_goto (tgt := 12) C.1 C.2.1 dX2_readVerb_77 (by decide) ?_
        exact ih12 (i + 1, max lo (mwC L (wdL i) p0)) (⟨by omega, by omega, by omega, by rw [← h4, show 7 - i = (7 - (i + 1)) + 1 by omega, rvR, if_neg hne]⟩) _ _ hw _ (lv_sub hl [4, 1, 5, 6, 0] rfl)
      · have heq : mwC L (wdL i) p0 = (wdL i).length := (nI_eq (by omega) (by have := wd_lt hi7; omega)).mp c_45
        refine lv_aload_n C.1 C.2.1 dX2_readVerb_48 rfl (lv_at hl 2 rfl) ?_
        refine lv_aload C.1 C.2.1 dX2_readVerb_49 (lv_at hl 1 rfl) ?_
        refine r_put C hw 2 rfl rfl in_X2 tyX2 tyX2_ok nmX2 2 (by decide) fl_X2_33 rfl rfl rfl rfl (Nat.le_of_ble_eq_true rfl) (w' := sbY G (t 1) u L ++ (ctC G t i (nI p0) g ++ X)) rfl dX2_readVerb_51 (fun H locs hw => ?_)
        refine lv_aload_n C.1 C.2.1 dX2_readVerb_54 rfl (lv_at hl 2 rfl) ?_
        refine lv_dup C.1 C.2.1 dX2_readVerb_55 rfl ?_
        refine r_get C hw 2 rfl rfl in_X2 3 (by decide) fl_X2_36 rfl (v := .int (nI p0)) rfl dX2_readVerb_56 ?_
        refine lv_iload C.1 C.2.1 dX2_readVerb_59 (lv_at hl 0 rfl) ?_
        refine lv_iadd C.1 C.2.1 dX2_readVerb_61 ?_
        refine r_toe (show _ = nI (p0 + mwC L (wdL i) p0) from nI_add _ _) ?_
        refine r_put C hw 2 rfl rfl in_X2 tyX2 tyX2_ok nmX2 3 (by decide) fl_X2_36 rfl rfl rfl rfl (Nat.le_of_ble_eq_true rfl) (w' := sbY G (t 1) u L ++ (ctC G t i (nI (p0 + mwC L (wdL i) p0)) g ++ X)) rfl dX2_readVerb_62 (fun H locs hw => ?_)
        refine lv_iconst (v := 1) C.1 C.2.1 dX2_readVerb_65 (by decide) ?_
        have hz : rvR L p0 7 0 0 = (true, i, lo) := by rw [← h4, show 7 - i = (7 - (i + 1)) + 1 by omega, rvR, if_pos heq]
        exact r_iret C hw rfl rfl () (by rw [rvC, hz]; rfl) (by rw [rvC, hz, heq] <;> rfl) (Nat.le_of_ble_eq_true rfl) (Nat.le_of_ble_eq_true rfl) dX2_readVerb_66
  · rintro ⟨i, lo⟩ ⟨h1, h2, h3, h4⟩; omega

