/-! The model: the book, searched anew for each question -/
/-- the last place with p, of the first n -/
def lst (p : Nat → Bool) (n : Nat) : Option Nat := fr (fun k o => if p k = true then some k else o) n none
theorem lst_t {p : Nat → Bool} {k : Nat} {o : Option Nat} (h : o = lst p k) (hp : p k = true) : some k = lst p (k + 1) := (if_pos hp).symm
theorem lst_f {p : Nat → Bool} {k : Nat} {o : Option Nat} (h : o = lst p k) (hp : p k = false) : o = lst p (k + 1) := h.trans (if_neg (by rw [hp]; decide)).symm
theorem lst_lt {p : Nat → Bool} : ∀ {n j : Nat}, lst p n = some j → j < n ∧ p j = true
  | 0, j, h => by cases h
  | n + 1, j, h => by
    by_cases hp : p n = true
    · rw [← lst_t rfl hp] at h; cases h; exact ⟨by omega, hp⟩
    · rw [← lst_f rfl (by simpa using hp)] at h
      have := lst_lt h
      exact ⟨by omega, this.2⟩
def plF (f : Nat → Int32) (x : Int32) (n : Nat) : Option Nat := lst (fun p => decide (oF f p 0 = x)) n
/-- what a stall has free: money for 0, drops for 1 -/
def fqC (f : Nat → Int32) (i : Nat) (b : Bool) (p : Nat) : Bool := decide (oF f p 1 = nI i) && decide (byF f p = b)
def fqV (f : Nat → Int32) (b : Bool) (p : Nat) : Int32 := oF f p 4 * (if b = true then oF f p 3 else 1)
def fqR (f : Nat → Int32) (i : Nat) (b : Bool) (n : Nat) : Int32 := fr (fun p s => s - (if fqC f i b p = true then fqV f b p else 0)) n (sF f i (if b = true then 0 else 1))
theorem fq_t {f : Nat → Int32} {i k : Nat} {b : Bool} {x : Int32} (h : x = fqR f i b k) (hc : fqC f i b k = true) : x - fqV f b k = fqR f i b (k + 1) := by
  rw [h]
  show _ = fqR f i b k - (if fqC f i b k = true then _ else _)
  rw [if_pos hc]
theorem fq_f {f : Nat → Int32} {i k : Nat} {b : Bool} {x : Int32} (h : x = fqR f i b k) (hc : fqC f i b k = false) : x - 0 = fqR f i b (k + 1) := by
  rw [h]
  show _ = fqR f i b k - (if fqC f i b k = true then _ else _)
  rw [if_neg (by rw [hc]; decide)]
def mdF (f : Nat → Int32) (b : Bool) (p j : Nat) : Int32 := if b = true then oF f p 3 - oF f j 3 else oF f j 3 - oF f p 3
def mbs (f : Nat → Int32) (b : Bool) (p : Nat) (o : Option Nat) : Option Nat := if byF f p = b then (match o with
  | none => some p
  | some j => if mdF f b p j ≤ 0 then some j else some p) else o
def mbF (f : Nat → Int32) (b : Bool) (n : Nat) : Option Nat := fr (mbs f b) n none
theorem mb_s (f : Nat → Int32) (b : Bool) (k : Nat) : mbF f b (k + 1) = mbs f b k (mbF f b k) := rfl
theorem mbs_n {f : Nat → Int32} {b : Bool} {k : Nat} {o : Option Nat} (h : ¬ byF f k = b) : mbs f b k o = o := if_neg h
theorem mbs_0 {f : Nat → Int32} {b : Bool} {k : Nat} (h : byF f k = b) : mbs f b k none = some k := if_pos h
theorem mbs_t {f : Nat → Int32} {b : Bool} {k j : Nat} (h : byF f k = b) (ha : ¬ mdF f b k j ≤ 0) : mbs f b k (some j) = some k := (if_pos h).trans (if_neg ha)
theorem mbs_f {f : Nat → Int32} {b : Bool} {k j : Nat} (h : byF f k = b) (ha : mdF f b k j ≤ 0) : mbs f b k (some j) = some j := (if_pos h).trans (if_pos ha)
theorem mb_lt {f : Nat → Int32} {b : Bool} : ∀ {n j : Nat}, mbF f b n = some j → j < n
  | 0, j, h => by cases h
  | n + 1, j, h => by
    rw [mb_s] at h
    by_cases hb : byF f n = b
    · cases ho : mbF f b n with
      | none => rw [ho, mbs_0 hb] at h; cases h; omega
      | some q =>
        rw [ho] at h
        have hq := mb_lt ho
        by_cases ha : mdF f b n q ≤ 0
        · rw [mbs_f hb ha] at h; cases h; omega
        · rw [mbs_t hb ha] at h; cases h; omega
    · rw [mbs_n hb] at h
      have := mb_lt h
      omega
def smC (f : Nat → Int32) (b : Bool) (lo hi : Int32) (p : Nat) : Bool := decide (byF f p = b) && inR (oF f p 3) lo hi
def smF (f : Nat → Int32) (b : Bool) (lo hi : Int32) (n : Nat) : Int32 := fr (fun p s => s + (if smC f b lo hi p = true then oF f p 4 else 0)) n 0
theorem sm_t {f : Nat → Int32} {lo hi x : Int32} {k : Nat} {b : Bool} (h : x = smF f b lo hi k) (hc : smC f b lo hi k = true) : x + oF f k 4 = smF f b lo hi (k + 1) := by
  rw [h]
  show _ = smF f b lo hi k + (if smC f b lo hi k = true then _ else _)
  rw [if_pos hc]
theorem sm_f {f : Nat → Int32} {lo hi x : Int32} {k : Nat} {b : Bool} (h : x = smF f b lo hi k) (hc : smC f b lo hi k = false) : x + 0 = smF f b lo hi (k + 1) := by
  rw [h]
  show _ = smF f b lo hi k + (if smC f b lo hi k = true then _ else _)
  rw [if_neg (by rw [hc]; decide)]
def drF (f : Nat → Int32) (n p : Nat) : Nat → Int32 := va_cpy (upd f 1 (nI (n - 1))) (upd f 1 (nI (n - 1))) (21 + 6 * p + 6) (21 + 6 * p) (6 * (n - 1 - p))
def tqF (f : Nat → Int32) (p : Nat) (t : Int32) : Nat → Int32 := upd f (21 + 6 * p + 4) (f (21 + 6 * p + 4) - t)
def taF (f : Nat → Int32) (n p : Nat) (t : Int32) : Nat → Int32 := if oF (tqF f p t) p 4 = 0 then drF (tqF f p t) n p else tqF f p t
def pyF (f : Nat → Int32) (bu se : Nat) (pr q : Int32) : Nat → Int32 :=
  let f1 := upd f (9 + 2 * bu) (f (9 + 2 * bu) - pr * q)
  let f2 := upd f1 (9 + 2 * se) (f1 (9 + 2 * se) + pr * q)
  let f3 := upd f2 (9 + 2 * bu + 1) (f2 (9 + 2 * bu + 1) + q)
  let f4 := upd f3 (9 + 2 * se + 1) (f3 (9 + 2 * se + 1) - q)
  let f5 := upd f4 5 pr
  let f6 := upd f5 6 (f5 6 + 1)
  let f7 := upd f6 7 (f6 7 + q)
  upd f7 8 (f7 8 + pr * q)

set_option maxHeartbeats 4000000 in
set_option maxRecDepth 100000 in
theorem k12_placeOf {l : Launch} {G : Gx} (hF : SF l G) {mo : Nat → Nat} {U : MV_} {X : va_W} {n : Nat} (hn1 : U.2 0 1 = nI n) (hn : n ≤ 20) (x : Int32) : MI l G yX12_placeOf cX12_placeOf 4 .int 1 0 0 [.ref (mo 0), .int x] (moW G mo U ++ X) (fun r _ => r = oI (plF (U.2 0) x n)) (fun _ : Unit => moW G mo U ++ X) := by
  refine mt_of hF (by decide) (Nat.le_of_ble_eq_true rfl) ?_
  intro p e s m below meth c C hin ls hl H locs hw
  have hl : lv_has ls 4 [(0, .ref (mo 0)), (1, .int x)] := hl
  refine lv_iconst (v := -1) C.1 C.2.1 dX12_placeOf_0 (by decide) ?_
  refine lv_istore_n (lv' := [(2, .int (-1)), (0, .ref (mo 0)), (1, .int x)]) C.1 C.2.1 dX12_placeOf_1 rfl hl (by decide) rfl (fun ls hl => ?_)
  refine lv_iconst (v := 0) C.1 C.2.1 dX12_placeOf_2 (by decide) ?_
  refine lv_istore_n (lv' := [(3, .int 0), (2, .int (-1)), (0, .ref (mo 0)), (1, .int x)]) C.1 C.2.1 dX12_placeOf_3 rfl hl (by decide) rfl (fun ls hl => ?_)
  refine w_loop (σ := Nat × Option Nat) G (fun u ⟨k, o⟩ => k ≤ n ∧ n < k + u ∧ o = plF (U.2 0) x k) (fun ⟨k, o⟩ => moW G mo U ++ X) (fun ⟨k, o⟩ => 0) (fun ⟨k, o⟩ => 0) (fun ⟨k, o⟩ => [(0, .ref (mo 0)), (1, .int x), (2, .int (oI o)), (3, .int (nI k))]) 4 ?_ ?_ (n + 1) (0, none) (⟨Nat.zero_le _, by omega, rfl⟩) hw (lv_sub hl [2, 3, 1, 0] rfl)
  · rintro n4 ⟨k, o⟩ ⟨h1, h2, h3⟩ ih4 H locs hw ls hl
    replace hw : WH G s (moW G mo U ++ X) H locs := hw
    replace hl : lv_has ls 4 [(0, .ref (mo 0)), (1, .int x), (2, .int (oI o)), (3, .int (nI k))] := hl
    refine lv_iload_n C.1 C.2.1 dX12_placeOf_4 rfl (lv_at hl 3 rfl) ?_
    refine lv_aload_n C.1 C.2.1 dX12_placeOf_5 rfl (lv_at hl 0 rfl) ?_
    refine r_get C hw 0 rfl rfl in_X12 0 (by decide) fl_X12_9 rfl (v := .ref (mo 1)) rfl dX12_placeOf_6 ?_
    refine lv_iconst (v := 1) C.1 C.2.1 dX12_placeOf_9 (by decide) ?_
    refine r_iald C hw 1 rfl (vp_in_nI (n := 1) (by omega) (by decide)) dX12_placeOf_10 ?_
    refine r_toe (show _ = (U.2 0) 1 from congrArg (U.2 0) (nI_clamp (n := 1) (by omega))) ?_
    refine r_toe (show _ = nI n from hn1) ?_
    refine lv_icmp_ge (tgt := 36) C.1 C.2.1 dX12_placeOf_11 (by decide) (fun c_11 => ?_) (fun c_11 => ?_)
    · obtain rfl := le_T h1 (by omega) c_11
      refine lv_iload_n C.1 C.2.1 dX12_placeOf_36 rfl (lv_at hl 2 rfl) ?_
      exact r_iret C hw rfl rfl () (by rw [h3]) rfl (Nat.le_of_ble_eq_true rfl) (Nat.le_of_ble_eq_true rfl) dX12_placeOf_37
    · have hk := le_F h1 (by omega) c_11
      refine lv_aload_n C.1 C.2.1 dX12_placeOf_14 rfl (lv_at hl 0 rfl) ?_
      refine lv_iload_n C.1 C.2.1 dX12_placeOf_15 rfl (lv_at hl 3 rfl) ?_
      refine lv_iconst (v := 0) C.1 C.2.1 dX12_placeOf_16 (by decide) ?_
      refine r_vi C hw (k12_of hF (mo := mo) (U := U) (X := X) (i := k) (k := 0) (by omega) (by omega)) ml_X12_55 yf_X12_of 0 rfl rfl (As := [.int (nI k), .int 0]) rfl rfl ⟨Nat.le_of_ble_eq_true rfl, Nat.le_of_ble_eq_true rfl⟩ ⟨Nat.le_of_ble_eq_true rfl, Nat.le_of_ble_eq_true rfl⟩ hl.1 (Nat.le_of_ble_eq_true rfl) dX12_placeOf_17 (fun r_17 _ H locs hp_17 hw => ?_)
      obtain rfl : r_17 = oF (U.2 0) k 0 := hp_17
      replace hw : WH G s (moW G mo U ++ X) H locs := hw
      refine lv_iload_n C.1 C.2.1 dX12_placeOf_20 rfl (lv_at hl 1 rfl) ?_
      refine lv_icmp_ne (tgt := 28) C.1 C.2.1 dX12_placeOf_21 (by decide) (fun c_21 => ?_) (fun c_21 => ?_)
      · refine lv_iload_n C.1 C.2.1 dX12_placeOf_28 rfl (lv_at hl 2 rfl) ?_
        refine lv_istore_n (lv' := [(2, .int (oI o)), (0, .ref (mo 0)), (1, .int x), (3, .int (nI k))]) C.1 C.2.1 dX12_placeOf_29 rfl hl (by decide) rfl (fun ls hl => ?_)
        refine lv_iinc (v := nI (k + 1)) (lv' := [(3, .int (nI (k + 1))), (2, .int (oI o)), (0, .ref (mo 0)), (1, .int x)]) C.1 C.2.1 dX12_placeOf_30 hl (k := 3) rfl (inc_nI k) (by decide) rfl (fun ls hl => ?_)
        refine lv_goto (tgt := 4) C.1 C.2.1 dX12_placeOf_33 (by decide) ?_
        exact ih4 (k + 1, o) (⟨by omega, by omega, lst_f h3 (by simp [c_21])⟩) _ _ hw _ (lv_sub hl [2, 3, 1, 0] rfl)
      · refine lv_iload_n C.1 C.2.1 dX12_placeOf_24 rfl (lv_at hl 3 rfl) ?_
        refine lv_goto (tgt := 29) C.1 C.2.1 dX12_placeOf_25 (by decide) ?_
        refine lv_istore_n (lv' := [(2, .int (nI k)), (0, .ref (mo 0)), (1, .int x), (3, .int (nI k))]) C.1 C.2.1 dX12_placeOf_29 rfl hl (by decide) rfl (fun ls hl => ?_)
        refine lv_iinc (v := nI (k + 1)) (lv' := [(3, .int (nI (k + 1))), (2, .int (nI k)), (0, .ref (mo 0)), (1, .int x)]) C.1 C.2.1 dX12_placeOf_30 hl (k := 3) rfl (inc_nI k) (by decide) rfl (fun ls hl => ?_)
        refine lv_goto (tgt := 4) C.1 C.2.1 dX12_placeOf_33 (by decide) ?_
        exact ih4 (k + 1, some k) (⟨by omega, by omega, lst_t h3 (by simp [c_21])⟩) _ _ hw _ (lv_sub hl [2, 3, 1, 0] rfl)
  · rintro ⟨k, o⟩ ⟨h1, h2, h3⟩; omega

set_option maxHeartbeats 4000000 in
set_option maxRecDepth 100000 in
theorem k12_free_0 {l : Launch} {G : Gx} (hF : SF l G) {mo : Nat → Nat} {U : MV_} {X : va_W} {n : Nat} (hn1 : U.2 0 1 = nI n) (hn : n ≤ 20) {i : Nat} (hi : i < 6) : MI l G yX12_free cX12_free 6 .int 2 0 0 [.ref (mo 0), .int (nI i), .int 0] (moW G mo U ++ X) (fun r _ => r = fqR (U.2 0) i true n) (fun _ : Unit => moW G mo U ++ X) := by
  refine mt_of hF (by decide) (Nat.le_of_ble_eq_true rfl) ?_
  intro p e s m below meth c C hin ls hl H locs hw
  have hl : lv_has ls 6 [(0, .ref (mo 0)), (1, .int (nI i)), (2, .int 0)] := hl
  refine lv_aload_n C.1 C.2.1 dX12_free_0 rfl (lv_at hl 0 rfl) ?_
  refine lv_iload_n C.1 C.2.1 dX12_free_1 rfl (lv_at hl 1 rfl) ?_
  refine lv_iload_n C.1 C.2.1 dX12_free_2 rfl (lv_at hl 2 rfl) ?_
  refine r_vi C hw (k12_stall hF (mo := mo) (U := U) (X := X) (i := i) (k := 0) (by omega) (by omega)) ml_X12_59 yf_X12_stall 0 rfl rfl (As := [.int (nI i), .int 0]) rfl rfl ⟨Nat.le_of_ble_eq_true rfl, Nat.le_of_ble_eq_true rfl⟩ ⟨Nat.le_of_ble_eq_true rfl, Nat.le_of_ble_eq_true rfl⟩ hl.1 (Nat.le_of_ble_eq_true rfl) dX12_free_3 (fun r_3 _ H locs hp_3 hw => ?_)
  obtain rfl : r_3 = sF (U.2 0) i 0 := hp_3
  replace hw : WH G s (moW G mo U ++ X) H locs := hw
  refine lv_istore_n (lv' := [(3, .int (sF (U.2 0) i 0)), (0, .ref (mo 0)), (1, .int (nI i)), (2, .int 0)]) C.1 C.2.1 dX12_free_6 rfl hl (by decide) rfl (fun ls hl => ?_)
  refine lv_iconst (v := 0) C.1 C.2.1 dX12_free_7 (by decide) ?_
  refine lv_istore (lv' := [(4, .int 0), (3, .int (sF (U.2 0) i 0)), (0, .ref (mo 0)), (1, .int (nI i)), (2, .int 0)]) C.1 C.2.1 dX12_free_8 hl (by decide) rfl (fun ls hl => ?_)
  refine w_loop (σ := Nat × Int32) G (fun u ⟨k, x1⟩ => k ≤ n ∧ n < k + u ∧ x1 = fqR (U.2 0) i true k) (fun ⟨k, x1⟩ => moW G mo U ++ X) (fun ⟨k, x1⟩ => 0) (fun ⟨k, x1⟩ => 0) (fun ⟨k, x1⟩ => [(0, .ref (mo 0)), (1, .int (nI i)), (2, .int 0), (3, .int x1), (4, .int (nI k))]) 6 ?_ ?_ (n + 1) (0, sF (U.2 0) i 0) (⟨Nat.zero_le _, by omega, rfl⟩) hw (lv_sub hl [2, 3, 4, 1, 0] rfl)
  · rintro n10 ⟨k, x1⟩ ⟨h1, h2, h3⟩ ih10 H locs hw ls hl
    replace hw : WH G s (moW G mo U ++ X) H locs := hw
    replace hl : lv_has ls 6 [(0, .ref (mo 0)), (1, .int (nI i)), (2, .int 0), (3, .int x1), (4, .int (nI k))] := hl
    refine lv_iload C.1 C.2.1 dX12_free_10 (lv_at hl 4 rfl) ?_
    refine lv_aload_n C.1 C.2.1 dX12_free_12 rfl (lv_at hl 0 rfl) ?_
    refine r_get C hw 0 rfl rfl in_X12 0 (by decide) fl_X12_9 rfl (v := .ref (mo 1)) rfl dX12_free_13 ?_
    refine lv_iconst (v := 1) C.1 C.2.1 dX12_free_16 (by decide) ?_
    refine r_iald C hw 1 rfl (vp_in_nI (n := 1) (by omega) (by decide)) dX12_free_17 ?_
    refine r_toe (show _ = (U.2 0) 1 from congrArg (U.2 0) (nI_clamp (n := 1) (by omega))) ?_
    refine r_toe (show _ = nI n from hn1) ?_
    refine lv_icmp_ge (tgt := 98) C.1 C.2.1 dX12_free_18 (by decide) (fun c_18 => ?_) (fun c_18 => ?_)
    · obtain rfl := le_T h1 (by omega) c_18
      refine lv_iload_n C.1 C.2.1 dX12_free_98 rfl (lv_at hl 3 rfl) ?_
      exact r_iret C hw rfl rfl () (by rw [h3]) rfl (Nat.le_of_ble_eq_true rfl) (Nat.le_of_ble_eq_true rfl) dX12_free_99
    · have hk := le_F h1 (by omega) c_18
      refine lv_aload_n C.1 C.2.1 dX12_free_21 rfl (lv_at hl 0 rfl) ?_
      refine lv_iload C.1 C.2.1 dX12_free_22 (lv_at hl 4 rfl) ?_
      refine lv_iconst (v := 1) C.1 C.2.1 dX12_free_24 (by decide) ?_
      refine r_vi C hw (k12_of hF (mo := mo) (U := U) (X := X) (i := k) (k := 1) (by omega) (by omega)) ml_X12_55 yf_X12_of 0 rfl rfl (As := [.int (nI k), .int 1]) rfl rfl ⟨Nat.le_of_ble_eq_true rfl, Nat.le_of_ble_eq_true rfl⟩ ⟨Nat.le_of_ble_eq_true rfl, Nat.le_of_ble_eq_true rfl⟩ hl.1 (Nat.le_of_ble_eq_true rfl) dX12_free_25 (fun r_25 _ H locs hp_25 hw => ?_)
      obtain rfl : r_25 = oF (U.2 0) k 1 := hp_25
      replace hw : WH G s (moW G mo U ++ X) H locs := hw
      refine lv_iload_n C.1 C.2.1 dX12_free_28 rfl (lv_at hl 1 rfl) ?_
      refine lv_icmp_ne (tgt := 54) C.1 C.2.1 dX12_free_29 (by decide) (fun c_29 => ?_) (fun c_29 => ?_)
      · refine lv_iconst (v := 0) C.1 C.2.1 dX12_free_54 (by decide) ?_
        refine lv_istore (lv' := [(5, .int 0), (0, .ref (mo 0)), (1, .int (nI i)), (2, .int 0), (3, .int x1), (4, .int (nI k))]) C.1 C.2.1 dX12_free_55 hl (by decide) rfl (fun ls hl => ?_)
        refine lv_iload_n C.1 C.2.1 dX12_free_57 rfl (lv_at hl 4 rfl) ?_
        refine lv_iload C.1 C.2.1 dX12_free_58 (lv_at hl 0 rfl) ?_
        refine lv_if_eq (tgt := 89) C.1 C.2.1 dX12_free_60 (by decide) (fun c_60 => ?_) (fun c_60 => absurd (by decide) c_60)
        refine lv_iconst (v := 0) C.1 C.2.1 dX12_free_89 (by decide) ?_
        refine lv_isub C.1 C.2.1 dX12_free_90 ?_
        refine lv_istore_n (lv' := [(3, .int (x1 - 0)), (5, .int 0), (0, .ref (mo 0)), (1, .int (nI i)), (2, .int 0), (4, .int (nI k))]) C.1 C.2.1 dX12_free_91 rfl hl (by decide) rfl (fun ls hl => ?_)
        refine lv_iinc (v := nI (k + 1)) (lv' := [(4, .int (nI (k + 1))), (3, .int (x1 - 0)), (5, .int 0), (0, .ref (mo 0)), (1, .int (nI i)), (2, .int 0)]) C.1 C.2.1 dX12_free_92 hl (k := 5) rfl (inc_nI k) (by decide) rfl (fun ls hl => ?_)
        refine lv_goto (tgt := 10) C.1 C.2.1 dX12_free_95 (by decide) ?_
        exact ih10 (k + 1, (x1 - 0)) (⟨by omega, by omega, fq_f h3 (by simp [fqC, c_29])⟩) _ _ hw _ (lv_sub hl [3, 4, 5, 1, 0] rfl)
      · refine lv_aload_n C.1 C.2.1 dX12_free_32 rfl (lv_at hl 0 rfl) ?_
        refine lv_iload C.1 C.2.1 dX12_free_33 (lv_at hl 4 rfl) ?_
        refine r_vi C hw (k12_buys hF (mo := mo) (U := U) (X := X) (i := k) (by omega)) ml_X12_62 yf_X12_buys 0 rfl rfl (As := [.int (nI k)]) rfl rfl ⟨Nat.le_of_ble_eq_true rfl, Nat.le_of_ble_eq_true rfl⟩ ⟨Nat.le_of_ble_eq_true rfl, Nat.le_of_ble_eq_true rfl⟩ hl.1 (Nat.le_of_ble_eq_true rfl) dX12_free_35 (fun r_35 _ H locs hp_35 hw => ?_)
        obtain rfl : r_35 = bI (byF (U.2 0) k) := hp_35
        replace hw : WH G s (moW G mo U ++ X) H locs := hw
        refine lv_iload_n C.1 C.2.1 dX12_free_38 rfl (lv_at hl 2 rfl) ?_
        refine lv_if_ne (tgt := 46) C.1 C.2.1 dX12_free_39 (by decide) (fun c_39 => absurd (by decide) c_39) (fun c_39 => ?_)
        refine lv_iconst (v := 1) C.1 C.2.1 dX12_free_42 (by decide) ?_
        refine lv_goto (tgt := 47) C.1 C.2.1 dX12_free_43 (by decide) ?_
        refine lv_icmp_ne (tgt := 54) C.1 C.2.1 dX12_free_47 (by decide) (fun c_47 => ?_) (fun c_47 => ?_)
        · have hb : byF (U.2 0) k = false := by cases hq : byF (U.2 0) k <;> rw [hq] at c_47 <;> first | rfl | exact absurd rfl c_47 | exact absurd c_47 (by decide)
          refine lv_iconst (v := 0) C.1 C.2.1 dX12_free_54 (by decide) ?_
          refine lv_istore (lv' := [(5, .int 0), (0, .ref (mo 0)), (1, .int (nI i)), (2, .int 0), (3, .int x1), (4, .int (nI k))]) C.1 C.2.1 dX12_free_55 hl (by decide) rfl (fun ls hl => ?_)
          refine lv_iload_n C.1 C.2.1 dX12_free_57 rfl (lv_at hl 4 rfl) ?_
          refine lv_iload C.1 C.2.1 dX12_free_58 (lv_at hl 0 rfl) ?_
          refine lv_if_eq (tgt := 89) C.1 C.2.1 dX12_free_60 (by decide) (fun c_60 => ?_) (fun c_60 => absurd (by decide) c_60)
          refine lv_iconst (v := 0) C.1 C.2.1 dX12_free_89 (by decide) ?_
          refine lv_isub C.1 C.2.1 dX12_free_90 ?_
          refine lv_istore_n (lv' := [(3, .int (x1 - 0)), (5, .int 0), (0, .ref (mo 0)), (1, .int (nI i)), (2, .int 0), (4, .int (nI k))]) C.1 C.2.1 dX12_free_91 rfl hl (by decide) rfl (fun ls hl => ?_)
          refine lv_iinc (v := nI (k + 1)) (lv' := [(4, .int (nI (k + 1))), (3, .int (x1 - 0)), (5, .int 0), (0, .ref (mo 0)), (1, .int (nI i)), (2, .int 0)]) C.1 C.2.1 dX12_free_92 hl (k := 5) rfl (inc_nI k) (by decide) rfl (fun ls hl => ?_)
          refine lv_goto (tgt := 10) C.1 C.2.1 dX12_free_95 (by decide) ?_
          exact ih10 (k + 1, (x1 - 0)) (⟨by omega, by omega, fq_f h3 (by simp [fqC, c_29, hb])⟩) _ _ hw _ (lv_sub hl [3, 4, 5, 1, 0] rfl)
        · have hb : byF (U.2 0) k = true := by cases hq : byF (U.2 0) k <;> rw [hq] at c_47 <;> first | rfl | exact absurd c_47 (by decide)
          refine lv_iconst (v := 1) C.1 C.2.1 dX12_free_50 (by decide) ?_
          refine lv_goto (tgt := 55) C.1 C.2.1 dX12_free_51 (by decide) ?_
          refine lv_istore (lv' := [(5, .int 1), (0, .ref (mo 0)), (1, .int (nI i)), (2, .int 0), (3, .int x1), (4, .int (nI k))]) C.1 C.2.1 dX12_free_55 hl (by decide) rfl (fun ls hl => ?_)
          refine lv_iload_n C.1 C.2.1 dX12_free_57 rfl (lv_at hl 4 rfl) ?_
          refine lv_iload C.1 C.2.1 dX12_free_58 (lv_at hl 0 rfl) ?_
          refine lv_if_eq (tgt := 89) C.1 C.2.1 dX12_free_60 (by decide) (fun c_60 => absurd c_60 (by decide)) (fun c_60 => ?_)
          refine lv_aload_n C.1 C.2.1 dX12_free_63 rfl (lv_at hl 1 rfl) ?_
          refine lv_iload C.1 C.2.1 dX12_free_64 (lv_at hl 5 rfl) ?_
          refine lv_iconst (v := 4) C.1 C.2.1 dX12_free_66 (by decide) ?_
          refine r_vi C hw (k12_of hF (mo := mo) (U := U) (X := X) (i := k) (k := 4) (by omega) (by omega)) ml_X12_55 yf_X12_of 0 rfl rfl (As := [.int (nI k), .int 4]) rfl rfl ⟨Nat.le_of_ble_eq_true rfl, Nat.le_of_ble_eq_true rfl⟩ ⟨Nat.le_of_ble_eq_true rfl, Nat.le_of_ble_eq_true rfl⟩ hl.1 (Nat.le_of_ble_eq_true rfl) dX12_free_67 (fun r_67 _ H locs hp_67 hw => ?_)
          obtain rfl : r_67 = oF (U.2 0) k 4 := hp_67
          replace hw : WH G s (moW G mo U ++ X) H locs := hw
          refine lv_iload_n C.1 C.2.1 dX12_free_70 rfl (lv_at hl 3 rfl) ?_
          refine lv_if_ne (tgt := 84) C.1 C.2.1 dX12_free_71 (by decide) (fun c_71 => absurd (by decide) c_71) (fun c_71 => ?_)
          refine lv_aload_n C.1 C.2.1 dX12_free_74 rfl (lv_at hl 1 rfl) ?_
          refine lv_iload C.1 C.2.1 dX12_free_75 (lv_at hl 5 rfl) ?_
          refine lv_iconst (v := 3) C.1 C.2.1 dX12_free_77 (by decide) ?_
          refine r_vi C hw (k12_of hF (mo := mo) (U := U) (X := X) (i := k) (k := 3) (by omega) (by omega)) ml_X12_55 yf_X12_of 0 rfl rfl (As := [.int (nI k), .int 3]) rfl rfl ⟨Nat.le_of_ble_eq_true rfl, Nat.le_of_ble_eq_true rfl⟩ ⟨Nat.le_of_ble_eq_true rfl, Nat.le_of_ble_eq_true rfl⟩ hl.1 (Nat.le_of_ble_eq_true rfl) dX12_free_78 (fun r_78 _ H locs hp_78 hw => ?_)
          obtain rfl : r_78 = oF (U.2 0) k 3 := hp_78
          replace hw : WH G s (moW G mo U ++ X) H locs := hw
          refine lv_goto (tgt := 85) C.1 C.2.1 dX12_free_81 (by decide) ?_
          refine lv_imul C.1 C.2.1 dX12_free_85 ?_
          refine lv_goto (tgt := 90) C.1 C.2.1 dX12_free_86 (by decide) ?_
          refine lv_isub C.1 C.2.1 dX12_free_90 ?_
          refine lv_istore_n (lv' := [(3, .int (x1 - ((oF (U.2 0) k 4) * (oF (U.2 0) k 3)))), (5, .int 1), (0, .ref (mo 0)), (1, .int (nI i)), (2, .int 0), (4, .int (nI k))]) C.1 C.2.1 dX12_free_91 rfl hl (by decide) rfl (fun ls hl => ?_)
          refine lv_iinc (v := nI (k + 1)) (lv' := [(4, .int (nI (k + 1))), (3, .int (x1 - ((oF (U.2 0) k 4) * (oF (U.2 0) k 3)))), (5, .int 1), (0, .ref (mo 0)), (1, .int (nI i)), (2, .int 0)]) C.1 C.2.1 dX12_free_92 hl (k := 5) rfl (inc_nI k) (by decide) rfl (fun ls hl => ?_)
          refine lv_goto (tgt := 10) C.1 C.2.1 dX12_free_95 (by decide) ?_
          exact ih10 (k + 1, (x1 - ((oF (U.2 0) k 4) * (oF (U.2 0) k 3)))) (⟨by omega, by omega, by have := fq_t h3 (by simp [fqC, c_29, hb]); simpa [fqV] using this⟩) _ _ hw _ (lv_sub hl [3, 4, 5, 1, 0] rfl)
  · rintro ⟨k, x1⟩ ⟨h1, h2, h3⟩; omega

set_option maxHeartbeats 4000000 in
set_option maxRecDepth 100000 in
theorem k12_free_1 {l : Launch} {G : Gx} (hF : SF l G) {mo : Nat → Nat} {U : MV_} {X : va_W} {n : Nat} (hn1 : U.2 0 1 = nI n) (hn : n ≤ 20) {i : Nat} (hi : i < 6) : MI l G yX12_free cX12_free 6 .int 2 0 0 [.ref (mo 0), .int (nI i), .int 1] (moW G mo U ++ X) (fun r _ => r = fqR (U.2 0) i false n) (fun _ : Unit => moW G mo U ++ X) := by
  refine mt_of hF (by decide) (Nat.le_of_ble_eq_true rfl) ?_
  intro p e s m below meth c C hin ls hl H locs hw
  have hl : lv_has ls 6 [(0, .ref (mo 0)), (1, .int (nI i)), (2, .int 1)] := hl
  refine lv_aload_n C.1 C.2.1 dX12_free_0 rfl (lv_at hl 0 rfl) ?_
  refine lv_iload_n C.1 C.2.1 dX12_free_1 rfl (lv_at hl 1 rfl) ?_
  refine lv_iload_n C.1 C.2.1 dX12_free_2 rfl (lv_at hl 2 rfl) ?_
  refine r_vi C hw (k12_stall hF (mo := mo) (U := U) (X := X) (i := i) (k := 1) (by omega) (by omega)) ml_X12_59 yf_X12_stall 0 rfl rfl (As := [.int (nI i), .int 1]) rfl rfl ⟨Nat.le_of_ble_eq_true rfl, Nat.le_of_ble_eq_true rfl⟩ ⟨Nat.le_of_ble_eq_true rfl, Nat.le_of_ble_eq_true rfl⟩ hl.1 (Nat.le_of_ble_eq_true rfl) dX12_free_3 (fun r_3 _ H locs hp_3 hw => ?_)
  obtain rfl : r_3 = sF (U.2 0) i 1 := hp_3
  replace hw : WH G s (moW G mo U ++ X) H locs := hw
  refine lv_istore_n (lv' := [(3, .int (sF (U.2 0) i 1)), (0, .ref (mo 0)), (1, .int (nI i)), (2, .int 1)]) C.1 C.2.1 dX12_free_6 rfl hl (by decide) rfl (fun ls hl => ?_)
  refine lv_iconst (v := 0) C.1 C.2.1 dX12_free_7 (by decide) ?_
  refine lv_istore (lv' := [(4, .int 0), (3, .int (sF (U.2 0) i 1)), (0, .ref (mo 0)), (1, .int (nI i)), (2, .int 1)]) C.1 C.2.1 dX12_free_8 hl (by decide) rfl (fun ls hl => ?_)
  refine w_loop (σ := Nat × Int32) G (fun u ⟨k, x1⟩ => k ≤ n ∧ n < k + u ∧ x1 = fqR (U.2 0) i false k) (fun ⟨k, x1⟩ => moW G mo U ++ X) (fun ⟨k, x1⟩ => 0) (fun ⟨k, x1⟩ => 0) (fun ⟨k, x1⟩ => [(0, .ref (mo 0)), (1, .int (nI i)), (2, .int 1), (3, .int x1), (4, .int (nI k))]) 6 ?_ ?_ (n + 1) (0, sF (U.2 0) i 1) (⟨Nat.zero_le _, by omega, rfl⟩) hw (lv_sub hl [2, 3, 4, 1, 0] rfl)
  · rintro n10 ⟨k, x1⟩ ⟨h1, h2, h3⟩ ih10 H locs hw ls hl
    replace hw : WH G s (moW G mo U ++ X) H locs := hw
    replace hl : lv_has ls 6 [(0, .ref (mo 0)), (1, .int (nI i)), (2, .int 1), (3, .int x1), (4, .int (nI k))] := hl
    refine lv_iload C.1 C.2.1 dX12_free_10 (lv_at hl 4 rfl) ?_
    refine lv_aload_n C.1 C.2.1 dX12_free_12 rfl (lv_at hl 0 rfl) ?_
    refine r_get C hw 0 rfl rfl in_X12 0 (by decide) fl_X12_9 rfl (v := .ref (mo 1)) rfl dX12_free_13 ?_
    refine lv_iconst (v := 1) C.1 C.2.1 dX12_free_16 (by decide) ?_
    refine r_iald C hw 1 rfl (vp_in_nI (n := 1) (by omega) (by decide)) dX12_free_17 ?_
    refine r_toe (show _ = (U.2 0) 1 from congrArg (U.2 0) (nI_clamp (n := 1) (by omega))) ?_
    refine r_toe (show _ = nI n from hn1) ?_
    refine lv_icmp_ge (tgt := 98) C.1 C.2.1 dX12_free_18 (by decide) (fun c_18 => ?_) (fun c_18 => ?_)
    · obtain rfl := le_T h1 (by omega) c_18
      refine lv_iload_n C.1 C.2.1 dX12_free_98 rfl (lv_at hl 3 rfl) ?_
      exact r_iret C hw rfl rfl () (by rw [h3]) rfl (Nat.le_of_ble_eq_true rfl) (Nat.le_of_ble_eq_true rfl) dX12_free_99
    · have hk := le_F h1 (by omega) c_18
      refine lv_aload_n C.1 C.2.1 dX12_free_21 rfl (lv_at hl 0 rfl) ?_
      refine lv_iload C.1 C.2.1 dX12_free_22 (lv_at hl 4 rfl) ?_
      refine lv_iconst (v := 1) C.1 C.2.1 dX12_free_24 (by decide) ?_
      refine r_vi C hw (k12_of hF (mo := mo) (U := U) (X := X) (i := k) (k := 1) (by omega) (by omega)) ml_X12_55 yf_X12_of 0 rfl rfl (As := [.int (nI k), .int 1]) rfl rfl ⟨Nat.le_of_ble_eq_true rfl, Nat.le_of_ble_eq_true rfl⟩ ⟨Nat.le_of_ble_eq_true rfl, Nat.le_of_ble_eq_true rfl⟩ hl.1 (Nat.le_of_ble_eq_true rfl) dX12_free_25 (fun r_25 _ H locs hp_25 hw => ?_)
      obtain rfl : r_25 = oF (U.2 0) k 1 := hp_25
      replace hw : WH G s (moW G mo U ++ X) H locs := hw
      refine lv_iload_n C.1 C.2.1 dX12_free_28 rfl (lv_at hl 1 rfl) ?_
      refine lv_icmp_ne (tgt := 54) C.1 C.2.1 dX12_free_29 (by decide) (fun c_29 => ?_) (fun c_29 => ?_)
      · refine lv_iconst (v := 0) C.1 C.2.1 dX12_free_54 (by decide) ?_
        refine lv_istore (lv' := [(5, .int 0), (0, .ref (mo 0)), (1, .int (nI i)), (2, .int 1), (3, .int x1), (4, .int (nI k))]) C.1 C.2.1 dX12_free_55 hl (by decide) rfl (fun ls hl => ?_)
        refine lv_iload_n C.1 C.2.1 dX12_free_57 rfl (lv_at hl 4 rfl) ?_
        refine lv_iload C.1 C.2.1 dX12_free_58 (lv_at hl 0 rfl) ?_
        refine lv_if_eq (tgt := 89) C.1 C.2.1 dX12_free_60 (by decide) (fun c_60 => ?_) (fun c_60 => absurd (by decide) c_60)
        refine lv_iconst (v := 0) C.1 C.2.1 dX12_free_89 (by decide) ?_
        refine lv_isub C.1 C.2.1 dX12_free_90 ?_
        refine lv_istore_n (lv' := [(3, .int (x1 - 0)), (5, .int 0), (0, .ref (mo 0)), (1, .int (nI i)), (2, .int 1), (4, .int (nI k))]) C.1 C.2.1 dX12_free_91 rfl hl (by decide) rfl (fun ls hl => ?_)
        refine lv_iinc (v := nI (k + 1)) (lv' := [(4, .int (nI (k + 1))), (3, .int (x1 - 0)), (5, .int 0), (0, .ref (mo 0)), (1, .int (nI i)), (2, .int 1)]) C.1 C.2.1 dX12_free_92 hl (k := 5) rfl (inc_nI k) (by decide) rfl (fun ls hl => ?_)
        refine lv_goto (tgt := 10) C.1 C.2.1 dX12_free_95 (by decide) ?_
        exact ih10 (k + 1, (x1 - 0)) (⟨by omega, by omega, fq_f h3 (by simp [fqC, c_29])⟩) _ _ hw _ (lv_sub hl [3, 4, 5, 1, 0] rfl)
      · refine lv_aload_n C.1 C.2.1 dX12_free_32 rfl (lv_at hl 0 rfl) ?_
        refine lv_iload C.1 C.2.1 dX12_free_33 (lv_at hl 4 rfl) ?_
        refine r_vi C hw (k12_buys hF (mo := mo) (U := U) (X := X) (i := k) (by omega)) ml_X12_62 yf_X12_buys 0 rfl rfl (As := [.int (nI k)]) rfl rfl ⟨Nat.le_of_ble_eq_true rfl, Nat.le_of_ble_eq_true rfl⟩ ⟨Nat.le_of_ble_eq_true rfl, Nat.le_of_ble_eq_true rfl⟩ hl.1 (Nat.le_of_ble_eq_true rfl) dX12_free_35 (fun r_35 _ H locs hp_35 hw => ?_)
        obtain rfl : r_35 = bI (byF (U.2 0) k) := hp_35
        replace hw : WH G s (moW G mo U ++ X) H locs := hw
        refine lv_iload_n C.1 C.2.1 dX12_free_38 rfl (lv_at hl 2 rfl) ?_
        refine lv_if_ne (tgt := 46) C.1 C.2.1 dX12_free_39 (by decide) (fun c_39 => ?_) (fun c_39 => absurd c_39 (by decide))
        refine lv_iconst (v := 0) C.1 C.2.1 dX12_free_46 (by decide) ?_
        refine lv_icmp_ne (tgt := 54) C.1 C.2.1 dX12_free_47 (by decide) (fun c_47 => ?_) (fun c_47 => ?_)
        · have hb : byF (U.2 0) k = true := by cases hq : byF (U.2 0) k <;> rw [hq] at c_47 <;> first | rfl | exact absurd rfl c_47 | exact absurd c_47 (by decide)
          refine lv_iconst (v := 0) C.1 C.2.1 dX12_free_54 (by decide) ?_
          refine lv_istore (lv' := [(5, .int 0), (0, .ref (mo 0)), (1, .int (nI i)), (2, .int 1), (3, .int x1), (4, .int (nI k))]) C.1 C.2.1 dX12_free_55 hl (by decide) rfl (fun ls hl => ?_)
          refine lv_iload_n C.1 C.2.1 dX12_free_57 rfl (lv_at hl 4 rfl) ?_
          refine lv_iload C.1 C.2.1 dX12_free_58 (lv_at hl 0 rfl) ?_
          refine lv_if_eq (tgt := 89) C.1 C.2.1 dX12_free_60 (by decide) (fun c_60 => ?_) (fun c_60 => absurd (by decide) c_60)
          refine lv_iconst (v := 0) C.1 C.2.1 dX12_free_89 (by decide) ?_
          refine lv_isub C.1 C.2.1 dX12_free_90 ?_
          refine lv_istore_n (lv' := [(3, .int (x1 - 0)), (5, .int 0), (0, .ref (mo 0)), (1, .int (nI i)), (2, .int 1), (4, .int (nI k))]) C.1 C.2.1 dX12_free_91 rfl hl (by decide) rfl (fun ls hl => ?_)
          refine lv_iinc (v := nI (k + 1)) (lv' := [(4, .int (nI (k + 1))), (3, .int (x1 - 0)), (5, .int 0), (0, .ref (mo 0)), (1, .int (nI i)), (2, .int 1)]) C.1 C.2.1 dX12_free_92 hl (k := 5) rfl (inc_nI k) (by decide) rfl (fun ls hl => ?_)
          refine lv_goto (tgt := 10) C.1 C.2.1 dX12_free_95 (by decide) ?_
          exact ih10 (k + 1, (x1 - 0)) (⟨by omega, by omega, fq_f h3 (by simp [fqC, c_29, hb])⟩) _ _ hw _ (lv_sub hl [3, 4, 5, 1, 0] rfl)
        · have hb : byF (U.2 0) k = false := by cases hq : byF (U.2 0) k <;> rw [hq] at c_47 <;> first | rfl | exact absurd c_47 (by decide)
          refine lv_iconst (v := 1) C.1 C.2.1 dX12_free_50 (by decide) ?_
          refine lv_goto (tgt := 55) C.1 C.2.1 dX12_free_51 (by decide) ?_
          refine lv_istore (lv' := [(5, .int 1), (0, .ref (mo 0)), (1, .int (nI i)), (2, .int 1), (3, .int x1), (4, .int (nI k))]) C.1 C.2.1 dX12_free_55 hl (by decide) rfl (fun ls hl => ?_)
          refine lv_iload_n C.1 C.2.1 dX12_free_57 rfl (lv_at hl 4 rfl) ?_
          refine lv_iload C.1 C.2.1 dX12_free_58 (lv_at hl 0 rfl) ?_
          refine lv_if_eq (tgt := 89) C.1 C.2.1 dX12_free_60 (by decide) (fun c_60 => absurd c_60 (by decide)) (fun c_60 => ?_)
          refine lv_aload_n C.1 C.2.1 dX12_free_63 rfl (lv_at hl 1 rfl) ?_
          refine lv_iload C.1 C.2.1 dX12_free_64 (lv_at hl 5 rfl) ?_
          refine lv_iconst (v := 4) C.1 C.2.1 dX12_free_66 (by decide) ?_
          refine r_vi C hw (k12_of hF (mo := mo) (U := U) (X := X) (i := k) (k := 4) (by omega) (by omega)) ml_X12_55 yf_X12_of 0 rfl rfl (As := [.int (nI k), .int 4]) rfl rfl ⟨Nat.le_of_ble_eq_true rfl, Nat.le_of_ble_eq_true rfl⟩ ⟨Nat.le_of_ble_eq_true rfl, Nat.le_of_ble_eq_true rfl⟩ hl.1 (Nat.le_of_ble_eq_true rfl) dX12_free_67 (fun r_67 _ H locs hp_67 hw => ?_)
          obtain rfl : r_67 = oF (U.2 0) k 4 := hp_67
          replace hw : WH G s (moW G mo U ++ X) H locs := hw
          refine lv_iload_n C.1 C.2.1 dX12_free_70 rfl (lv_at hl 3 rfl) ?_
          refine lv_if_ne (tgt := 84) C.1 C.2.1 dX12_free_71 (by decide) (fun c_71 => ?_) (fun c_71 => absurd c_71 (by decide))
          refine lv_iconst (v := 1) C.1 C.2.1 dX12_free_84 (by decide) ?_
          refine lv_imul C.1 C.2.1 dX12_free_85 ?_
          refine lv_goto (tgt := 90) C.1 C.2.1 dX12_free_86 (by decide) ?_
          refine lv_isub C.1 C.2.1 dX12_free_90 ?_
          refine lv_istore_n (lv' := [(3, .int (x1 - ((oF (U.2 0) k 4) * 1))), (5, .int 1), (0, .ref (mo 0)), (1, .int (nI i)), (2, .int 1), (4, .int (nI k))]) C.1 C.2.1 dX12_free_91 rfl hl (by decide) rfl (fun ls hl => ?_)
          refine lv_iinc (v := nI (k + 1)) (lv' := [(4, .int (nI (k + 1))), (3, .int (x1 - ((oF (U.2 0) k 4) * 1))), (5, .int 1), (0, .ref (mo 0)), (1, .int (nI i)), (2, .int 1)]) C.1 C.2.1 dX12_free_92 hl (k := 5) rfl (inc_nI k) (by decide) rfl (fun ls hl => ?_)
          refine lv_goto (tgt := 10) C.1 C.2.1 dX12_free_95 (by decide) ?_
          exact ih10 (k + 1, (x1 - ((oF (U.2 0) k 4) * 1))) (⟨by omega, by omega, by have := fq_t h3 (by simp [fqC, c_29, hb]); simpa [fqV] using this⟩) _ _ hw _ (lv_sub hl [3, 4, 5, 1, 0] rfl)
  · rintro ⟨k, x1⟩ ⟨h1, h2, h3⟩; omega

set_option maxHeartbeats 4000000 in
set_option maxRecDepth 100000 in
theorem k12_best {l : Launch} {G : Gx} (hF : SF l G) {mo : Nat → Nat} {U : MV_} {X : va_W} {n : Nat} (hn1 : U.2 0 1 = nI n) (hn : n ≤ 20) (b : Bool) : MI l G yX12_best cX12_best 5 .int 2 0 0 [.ref (mo 0), .int (bI b)] (moW G mo U ++ X) (fun r _ => r = oI (mbF (U.2 0) b n)) (fun _ : Unit => moW G mo U ++ X) := by
  refine mt_of hF (by decide) (Nat.le_of_ble_eq_true rfl) ?_
  intro p e s m below meth c C hin ls hl H locs hw
  have hl : lv_has ls 5 [(0, .ref (mo 0)), (1, .int (bI b))] := hl
  refine lv_iconst (v := -1) C.1 C.2.1 dX12_best_0 (by decide) ?_
  refine lv_istore_n (lv' := [(2, .int (-1)), (0, .ref (mo 0)), (1, .int (bI b))]) C.1 C.2.1 dX12_best_1 rfl hl (by decide) rfl (fun ls hl => ?_)
  refine lv_iconst (v := 0) C.1 C.2.1 dX12_best_2 (by decide) ?_
  refine lv_istore_n (lv' := [(3, .int 0), (2, .int (-1)), (0, .ref (mo 0)), (1, .int (bI b))]) C.1 C.2.1 dX12_best_3 rfl hl (by decide) rfl (fun ls hl => ?_)
  refine w_loop (σ := Nat × Option Nat) G (fun u ⟨k, o⟩ => k ≤ n ∧ n < k + u ∧ o = mbF (U.2 0) b k ∧ ∀ j, o = some j → j < k) (fun ⟨k, o⟩ => moW G mo U ++ X) (fun ⟨k, o⟩ => 0) (fun ⟨k, o⟩ => 0) (fun ⟨k, o⟩ => [(0, .ref (mo 0)), (1, .int (bI b)), (2, .int (oI o)), (3, .int (nI k))]) 5 ?_ ?_ (n + 1) (0, none) (⟨Nat.zero_le _, by omega, rfl, fun j hj => by cases hj⟩) hw (lv_sub hl [2, 3, 1, 0] rfl)
  · rintro n4 ⟨k, o⟩ ⟨h1, h2, h3, h4⟩ ih4 H locs hw ls hl
    replace hw : WH G s (moW G mo U ++ X) H locs := hw
    replace hl : lv_has ls 5 [(0, .ref (mo 0)), (1, .int (bI b)), (2, .int (oI o)), (3, .int (nI k))] := hl
    refine lv_iload_n C.1 C.2.1 dX12_best_4 rfl (lv_at hl 3 rfl) ?_
    refine lv_aload_n C.1 C.2.1 dX12_best_5 rfl (lv_at hl 0 rfl) ?_
    refine r_get C hw 0 rfl rfl in_X12 0 (by decide) fl_X12_9 rfl (v := .ref (mo 1)) rfl dX12_best_6 ?_
    refine lv_iconst (v := 1) C.1 C.2.1 dX12_best_9 (by decide) ?_
    refine r_iald C hw 1 rfl (vp_in_nI (n := 1) (by omega) (by decide)) dX12_best_10 ?_
    refine r_toe (show _ = (U.2 0) 1 from congrArg (U.2 0) (nI_clamp (n := 1) (by omega))) ?_
    refine r_toe (show _ = nI n from hn1) ?_
    refine lv_icmp_ge (tgt := 83) C.1 C.2.1 dX12_best_11 (by decide) (fun c_11 => ?_) (fun c_11 => ?_)
    · obtain rfl := le_T h1 (by omega) c_11
      refine lv_iload_n C.1 C.2.1 dX12_best_83 rfl (lv_at hl 2 rfl) ?_
      exact r_iret C hw rfl rfl () (by rw [h3]) rfl (Nat.le_of_ble_eq_true rfl) (Nat.le_of_ble_eq_true rfl) dX12_best_84
    · have hk := le_F h1 (by omega) c_11
      refine lv_aload_n C.1 C.2.1 dX12_best_14 rfl (lv_at hl 0 rfl) ?_
      refine lv_iload_n C.1 C.2.1 dX12_best_15 rfl (lv_at hl 3 rfl) ?_
      refine r_vi C hw (k12_buys hF (mo := mo) (U := U) (X := X) (i := k) (by omega)) ml_X12_62 yf_X12_buys 0 rfl rfl (As := [.int (nI k)]) rfl rfl ⟨Nat.le_of_ble_eq_true rfl, Nat.le_of_ble_eq_true rfl⟩ ⟨Nat.le_of_ble_eq_true rfl, Nat.le_of_ble_eq_true rfl⟩ hl.1 (Nat.le_of_ble_eq_true rfl) dX12_best_16 (fun r_16 _ H locs hp_16 hw => ?_)
      obtain rfl : r_16 = bI (byF (U.2 0) k) := hp_16
      replace hw : WH G s (moW G mo U ++ X) H locs := hw
      refine lv_iload_n C.1 C.2.1 dX12_best_19 rfl (lv_at hl 1 rfl) ?_
      refine lv_icmp_ne (tgt := 77) C.1 C.2.1 dX12_best_20 (by decide) (fun c_20 => ?_) (fun c_20 => ?_)
      · have b_20 : ¬ byF (U.2 0) k = b := fun h => c_20 (by rw [h])
        refine lv_iinc (v := nI (k + 1)) (lv' := [(3, .int (nI (k + 1))), (0, .ref (mo 0)), (1, .int (bI b)), (2, .int (oI o))]) C.1 C.2.1 dX12_best_77 hl (k := 3) rfl (inc_nI k) (by decide) rfl (fun ls hl => ?_)
        refine lv_goto (tgt := 4) C.1 C.2.1 dX12_best_80 (by decide) ?_
        exact ih4 (k + 1, o) (⟨by omega, by omega, by rw [mb_s, mbs_n b_20]; exact h3, fun q hq => by have := h4 q hq; omega⟩) _ _ hw _ (lv_sub hl [1, 2, 3, 0] rfl)
      · have b_20 : byF (U.2 0) k = b := bI_inj.mp c_20
        refine lv_iload_n C.1 C.2.1 dX12_best_23 rfl (lv_at hl 2 rfl) ?_
        refine lv_if_ge (tgt := 31) C.1 C.2.1 dX12_best_24 (by decide) (fun c_24 => ?_) (fun c_24 => ?_)
        · obtain ⟨j, rfl⟩ : ∃ j, o = some j := by cases o with | none => exact absurd c_24 (by decide) | some j => exact ⟨j, rfl⟩
          have hj : j < k := h4 j rfl
          replace hl : lv_has ls 5 [(0, .ref (mo 0)), (1, .int (bI b)), (2, .int (nI j)), (3, .int (nI k))] := hl
          refine lv_iload_n C.1 C.2.1 dX12_best_31 rfl (lv_at hl 1 rfl) ?_
          refine lv_if_eq (tgt := 51) C.1 C.2.1 dX12_best_32 (by decide) (fun c_32 => ?_) (fun c_32 => ?_)
          · obtain rfl : b = false := bI_eq0.mp c_32
            replace hl : lv_has ls 5 [(0, .ref (mo 0)), (1, .int (bI false)), (2, .int (nI j)), (3, .int (nI k))] := hl
            refine lv_aload_n C.1 C.2.1 dX12_best_51 rfl (lv_at hl 0 rfl) ?_
            refine lv_iload_n C.1 C.2.1 dX12_best_52 rfl (lv_at hl 2 rfl) ?_
            refine lv_iconst (v := 3) C.1 C.2.1 dX12_best_53 (by decide) ?_
            refine r_vi C hw (k12_of hF (mo := mo) (U := U) (X := X) (i := j) (k := 3) (by omega) (by omega)) ml_X12_55 yf_X12_of 0 rfl rfl (As := [.int (nI j), .int 3]) rfl rfl ⟨Nat.le_of_ble_eq_true rfl, Nat.le_of_ble_eq_true rfl⟩ ⟨Nat.le_of_ble_eq_true rfl, Nat.le_of_ble_eq_true rfl⟩ hl.1 (Nat.le_of_ble_eq_true rfl) dX12_best_54 (fun r_54 _ H locs hp_54 hw => ?_)
            obtain rfl : r_54 = oF (U.2 0) j 3 := hp_54
            replace hw : WH G s (moW G mo U ++ X) H locs := hw
            refine lv_aload_n C.1 C.2.1 dX12_best_57 rfl (lv_at hl 0 rfl) ?_
            refine lv_iload_n C.1 C.2.1 dX12_best_58 rfl (lv_at hl 3 rfl) ?_
            refine lv_iconst (v := 3) C.1 C.2.1 dX12_best_59 (by decide) ?_
            refine r_vi C hw (k12_of hF (mo := mo) (U := U) (X := X) (i := k) (k := 3) (by omega) (by omega)) ml_X12_55 yf_X12_of 0 rfl rfl (As := [.int (nI k), .int 3]) rfl rfl ⟨Nat.le_of_ble_eq_true rfl, Nat.le_of_ble_eq_true rfl⟩ ⟨Nat.le_of_ble_eq_true rfl, Nat.le_of_ble_eq_true rfl⟩ hl.1 (Nat.le_of_ble_eq_true rfl) dX12_best_60 (fun r_60 _ H locs hp_60 hw => ?_)
            obtain rfl : r_60 = oF (U.2 0) k 3 := hp_60
            replace hw : WH G s (moW G mo U ++ X) H locs := hw
            refine lv_isub C.1 C.2.1 dX12_best_63 ?_
            refine lv_istore (lv' := [(4, .int ((oF (U.2 0) j 3) - (oF (U.2 0) k 3))), (0, .ref (mo 0)), (1, .int (bI false)), (2, .int (nI j)), (3, .int (nI k))]) C.1 C.2.1 dX12_best_64 hl (by decide) rfl (fun ls hl => ?_)
            refine lv_iload C.1 C.2.1 dX12_best_66 (lv_at hl 0 rfl) ?_
            refine lv_if_le (tgt := 75) C.1 C.2.1 dX12_best_68 (by decide) (fun c_68 => ?_) (fun c_68 => ?_)
            · refine lv_iload_n C.1 C.2.1 dX12_best_75 rfl (lv_at hl 3 rfl) ?_
              refine lv_istore_n (lv' := [(2, .int (nI j)), (4, .int ((oF (U.2 0) j 3) - (oF (U.2 0) k 3))), (0, .ref (mo 0)), (1, .int (bI false)), (3, .int (nI k))]) C.1 C.2.1 dX12_best_76 rfl hl (by decide) rfl (fun ls hl => ?_)
              refine lv_iinc (v := nI (k + 1)) (lv' := [(3, .int (nI (k + 1))), (2, .int (nI j)), (4, .int ((oF (U.2 0) j 3) - (oF (U.2 0) k 3))), (0, .ref (mo 0)), (1, .int (bI false))]) C.1 C.2.1 dX12_best_77 hl (k := 4) rfl (inc_nI k) (by decide) rfl (fun ls hl => ?_)
              refine lv_goto (tgt := 4) C.1 C.2.1 dX12_best_80 (by decide) ?_
              exact ih4 (k + 1, some j) (⟨by omega, by omega, by rw [mb_s, ← h3, mbs_f b_20 (by simpa [mdF] using c_68)], fun q hq => by cases hq; omega⟩) _ _ hw _ (lv_sub hl [3, 4, 1, 0] rfl)
            · refine lv_iload_n C.1 C.2.1 dX12_best_71 rfl (lv_at hl 4 rfl) ?_
              refine lv_goto (tgt := 76) C.1 C.2.1 dX12_best_72 (by decide) ?_
              refine lv_istore_n (lv' := [(2, .int (nI k)), (4, .int ((oF (U.2 0) j 3) - (oF (U.2 0) k 3))), (0, .ref (mo 0)), (1, .int (bI false)), (3, .int (nI k))]) C.1 C.2.1 dX12_best_76 rfl hl (by decide) rfl (fun ls hl => ?_)
              refine lv_iinc (v := nI (k + 1)) (lv' := [(3, .int (nI (k + 1))), (2, .int (nI k)), (4, .int ((oF (U.2 0) j 3) - (oF (U.2 0) k 3))), (0, .ref (mo 0)), (1, .int (bI false))]) C.1 C.2.1 dX12_best_77 hl (k := 4) rfl (inc_nI k) (by decide) rfl (fun ls hl => ?_)
              refine lv_goto (tgt := 4) C.1 C.2.1 dX12_best_80 (by decide) ?_
              exact ih4 (k + 1, some k) (⟨by omega, by omega, by rw [mb_s, ← h3, mbs_t b_20 (by simpa [mdF] using c_68)], fun q hq => by cases hq; omega⟩) _ _ hw _ (lv_sub hl [3, 4, 1, 0] rfl)
          · obtain rfl : b = true := bI_ne0.mp c_32
            replace hl : lv_has ls 5 [(0, .ref (mo 0)), (1, .int (bI true)), (2, .int (nI j)), (3, .int (nI k))] := hl
            refine lv_aload_n C.1 C.2.1 dX12_best_35 rfl (lv_at hl 0 rfl) ?_
            refine lv_iload_n C.1 C.2.1 dX12_best_36 rfl (lv_at hl 3 rfl) ?_
            refine lv_iconst (v := 3) C.1 C.2.1 dX12_best_37 (by decide) ?_
            refine r_vi C hw (k12_of hF (mo := mo) (U := U) (X := X) (i := k) (k := 3) (by omega) (by omega)) ml_X12_55 yf_X12_of 0 rfl rfl (As := [.int (nI k), .int 3]) rfl rfl ⟨Nat.le_of_ble_eq_true rfl, Nat.le_of_ble_eq_true rfl⟩ ⟨Nat.le_of_ble_eq_true rfl, Nat.le_of_ble_eq_true rfl⟩ hl.1 (Nat.le_of_ble_eq_true rfl) dX12_best_38 (fun r_38 _ H locs hp_38 hw => ?_)
            obtain rfl : r_38 = oF (U.2 0) k 3 := hp_38
            replace hw : WH G s (moW G mo U ++ X) H locs := hw
            refine lv_aload_n C.1 C.2.1 dX12_best_41 rfl (lv_at hl 0 rfl) ?_
            refine lv_iload_n C.1 C.2.1 dX12_best_42 rfl (lv_at hl 2 rfl) ?_
            refine lv_iconst (v := 3) C.1 C.2.1 dX12_best_43 (by decide) ?_
            refine r_vi C hw (k12_of hF (mo := mo) (U := U) (X := X) (i := j) (k := 3) (by omega) (by omega)) ml_X12_55 yf_X12_of 0 rfl rfl (As := [.int (nI j), .int 3]) rfl rfl ⟨Nat.le_of_ble_eq_true rfl, Nat.le_of_ble_eq_true rfl⟩ ⟨Nat.le_of_ble_eq_true rfl, Nat.le_of_ble_eq_true rfl⟩ hl.1 (Nat.le_of_ble_eq_true rfl) dX12_best_44 (fun r_44 _ H locs hp_44 hw => ?_)
            obtain rfl : r_44 = oF (U.2 0) j 3 := hp_44
            replace hw : WH G s (moW G mo U ++ X) H locs := hw
            refine lv_isub C.1 C.2.1 dX12_best_47 ?_
            refine lv_goto (tgt := 64) C.1 C.2.1 dX12_best_48 (by decide) ?_
            refine lv_istore (lv' := [(4, .int ((oF (U.2 0) k 3) - (oF (U.2 0) j 3))), (0, .ref (mo 0)), (1, .int (bI true)), (2, .int (nI j)), (3, .int (nI k))]) C.1 C.2.1 dX12_best_64 hl (by decide) rfl (fun ls hl => ?_)
            refine lv_iload C.1 C.2.1 dX12_best_66 (lv_at hl 0 rfl) ?_
            refine lv_if_le (tgt := 75) C.1 C.2.1 dX12_best_68 (by decide) (fun c_68 => ?_) (fun c_68 => ?_)
            · refine lv_iload_n C.1 C.2.1 dX12_best_75 rfl (lv_at hl 3 rfl) ?_
              refine lv_istore_n (lv' := [(2, .int (nI j)), (4, .int ((oF (U.2 0) k 3) - (oF (U.2 0) j 3))), (0, .ref (mo 0)), (1, .int (bI true)), (3, .int (nI k))]) C.1 C.2.1 dX12_best_76 rfl hl (by decide) rfl (fun ls hl => ?_)
              refine lv_iinc (v := nI (k + 1)) (lv' := [(3, .int (nI (k + 1))), (2, .int (nI j)), (4, .int ((oF (U.2 0) k 3) - (oF (U.2 0) j 3))), (0, .ref (mo 0)), (1, .int (bI true))]) C.1 C.2.1 dX12_best_77 hl (k := 4) rfl (inc_nI k) (by decide) rfl (fun ls hl => ?_)
              refine lv_goto (tgt := 4) C.1 C.2.1 dX12_best_80 (by decide) ?_
              exact ih4 (k + 1, some j) (⟨by omega, by omega, by rw [mb_s, ← h3, mbs_f b_20 (by simpa [mdF] using c_68)], fun q hq => by cases hq; omega⟩) _ _ hw _ (lv_sub hl [3, 4, 1, 0] rfl)
            · refine lv_iload_n C.1 C.2.1 dX12_best_71 rfl (lv_at hl 4 rfl) ?_
              refine lv_goto (tgt := 76) C.1 C.2.1 dX12_best_72 (by decide) ?_
              refine lv_istore_n (lv' := [(2, .int (nI k)), (4, .int ((oF (U.2 0) k 3) - (oF (U.2 0) j 3))), (0, .ref (mo 0)), (1, .int (bI true)), (3, .int (nI k))]) C.1 C.2.1 dX12_best_76 rfl hl (by decide) rfl (fun ls hl => ?_)
              refine lv_iinc (v := nI (k + 1)) (lv' := [(3, .int (nI (k + 1))), (2, .int (nI k)), (4, .int ((oF (U.2 0) k 3) - (oF (U.2 0) j 3))), (0, .ref (mo 0)), (1, .int (bI true))]) C.1 C.2.1 dX12_best_77 hl (k := 4) rfl (inc_nI k) (by decide) rfl (fun ls hl => ?_)
              refine lv_goto (tgt := 4) C.1 C.2.1 dX12_best_80 (by decide) ?_
              exact ih4 (k + 1, some k) (⟨by omega, by omega, by rw [mb_s, ← h3, mbs_t b_20 (by simpa [mdF] using c_68)], fun q hq => by cases hq; omega⟩) _ _ hw _ (lv_sub hl [3, 4, 1, 0] rfl)
        · obtain rfl : o = none := by cases o with | none => rfl | some j => exact absurd (show (0 : Int32) ≤ nI j from nI_pos' (by have := h4 j rfl; omega)) c_24
          replace hl : lv_has ls 5 [(0, .ref (mo 0)), (1, .int (bI b)), (2, .int (-1)), (3, .int (nI k))] := hl
          refine lv_iconst (v := 1) C.1 C.2.1 dX12_best_27 (by decide) ?_
          refine lv_goto (tgt := 64) C.1 C.2.1 dX12_best_28 (by decide) ?_
          refine lv_istore (lv' := [(4, .int 1), (0, .ref (mo 0)), (1, .int (bI b)), (2, .int (-1)), (3, .int (nI k))]) C.1 C.2.1 dX12_best_64 hl (by decide) rfl (fun ls hl => ?_)
          refine lv_iload C.1 C.2.1 dX12_best_66 (lv_at hl 0 rfl) ?_
          refine lv_if_le (tgt := 75) C.1 C.2.1 dX12_best_68 (by decide) (fun c_68 => absurd c_68 (by decide)) (fun c_68 => ?_)
          refine lv_iload_n C.1 C.2.1 dX12_best_71 rfl (lv_at hl 4 rfl) ?_
          refine lv_goto (tgt := 76) C.1 C.2.1 dX12_best_72 (by decide) ?_
          refine lv_istore_n (lv' := [(2, .int (nI k)), (4, .int 1), (0, .ref (mo 0)), (1, .int (bI b)), (3, .int (nI k))]) C.1 C.2.1 dX12_best_76 rfl hl (by decide) rfl (fun ls hl => ?_)
          refine lv_iinc (v := nI (k + 1)) (lv' := [(3, .int (nI (k + 1))), (2, .int (nI k)), (4, .int 1), (0, .ref (mo 0)), (1, .int (bI b))]) C.1 C.2.1 dX12_best_77 hl (k := 4) rfl (inc_nI k) (by decide) rfl (fun ls hl => ?_)
          refine lv_goto (tgt := 4) C.1 C.2.1 dX12_best_80 (by decide) ?_
          exact ih4 (k + 1, some k) (⟨by omega, by omega, by rw [mb_s, ← h3, mbs_0 b_20], fun q hq => by cases hq; omega⟩) _ _ hw _ (lv_sub hl [3, 4, 1, 0] rfl)
  · rintro ⟨k, o⟩ ⟨h1, h2, h3, h4⟩; omega

set_option maxHeartbeats 4000000 in
set_option maxRecDepth 100000 in
theorem k12_sum {l : Launch} {G : Gx} (hF : SF l G) {mo : Nat → Nat} {U : MV_} {X : va_W} {n : Nat} (hn1 : U.2 0 1 = nI n) (hn : n ≤ 20) (b : Bool) (lo hi : Int32) : MI l G yX12_sum cX12_sum 6 .int 2 0 0 [.ref (mo 0), .int (bI b), .int lo, .int hi] (moW G mo U ++ X) (fun r _ => r = smF (U.2 0) b lo hi n) (fun _ : Unit => moW G mo U ++ X) := by
  refine mt_of hF (by decide) (Nat.le_of_ble_eq_true rfl) ?_
  intro p e s m below meth c C hin ls hl H locs hw
  have hl : lv_has ls 6 [(0, .ref (mo 0)), (1, .int (bI b)), (2, .int lo), (3, .int hi)] := hl
  refine lv_iconst (v := 0) C.1 C.2.1 dX12_sum_0 (by decide) ?_
  refine lv_istore (lv' := [(4, .int 0), (0, .ref (mo 0)), (1, .int (bI b)), (2, .int lo), (3, .int hi)]) C.1 C.2.1 dX12_sum_1 hl (by decide) rfl (fun ls hl => ?_)
  refine lv_iconst (v := 0) C.1 C.2.1 dX12_sum_3 (by decide) ?_
  refine lv_istore (lv' := [(5, .int 0), (4, .int 0), (0, .ref (mo 0)), (1, .int (bI b)), (2, .int lo), (3, .int hi)]) C.1 C.2.1 dX12_sum_4 hl (by decide) rfl (fun ls hl => ?_)
  refine w_loop (σ := Nat × Int32) G (fun u ⟨k, x1⟩ => k ≤ n ∧ n < k + u ∧ x1 = smF (U.2 0) b lo hi k) (fun ⟨k, x1⟩ => moW G mo U ++ X) (fun ⟨k, x1⟩ => 0) (fun ⟨k, x1⟩ => 0) (fun ⟨k, x1⟩ => [(0, .ref (mo 0)), (1, .int (bI b)), (2, .int lo), (3, .int hi), (4, .int x1), (5, .int (nI k))]) 6 ?_ ?_ (n + 1) (0, 0) (⟨Nat.zero_le _, by omega, rfl⟩) hw (lv_sub hl [2, 3, 4, 5, 1, 0] rfl)
  · rintro n6 ⟨k, x1⟩ ⟨h1, h2, h3⟩ ih6 H locs hw ls hl
    replace hw : WH G s (moW G mo U ++ X) H locs := hw
    replace hl : lv_has ls 6 [(0, .ref (mo 0)), (1, .int (bI b)), (2, .int lo), (3, .int hi), (4, .int x1), (5, .int (nI k))] := hl
    refine lv_iload C.1 C.2.1 dX12_sum_6 (lv_at hl 5 rfl) ?_
    refine lv_aload_n C.1 C.2.1 dX12_sum_8 rfl (lv_at hl 0 rfl) ?_
    refine r_get C hw 0 rfl rfl in_X12 0 (by decide) fl_X12_9 rfl (v := .ref (mo 1)) rfl dX12_sum_9 ?_
    refine lv_iconst (v := 1) C.1 C.2.1 dX12_sum_12 (by decide) ?_
    refine r_iald C hw 1 rfl (vp_in_nI (n := 1) (by omega) (by decide)) dX12_sum_13 ?_
    refine r_toe (show _ = (U.2 0) 1 from congrArg (U.2 0) (nI_clamp (n := 1) (by omega))) ?_
    refine r_toe (show _ = nI n from hn1) ?_
    refine lv_icmp_ge (tgt := 64) C.1 C.2.1 dX12_sum_14 (by decide) (fun c_14 => ?_) (fun c_14 => ?_)
    · obtain rfl := le_T h1 (by omega) c_14
      refine lv_iload C.1 C.2.1 dX12_sum_64 (lv_at hl 4 rfl) ?_
      exact r_iret C hw rfl rfl () (by rw [h3]) rfl (Nat.le_of_ble_eq_true rfl) (Nat.le_of_ble_eq_true rfl) dX12_sum_66
    · have hk := le_F h1 (by omega) c_14
      refine lv_iload C.1 C.2.1 dX12_sum_17 (lv_at hl 4 rfl) ?_
      refine lv_aload_n C.1 C.2.1 dX12_sum_19 rfl (lv_at hl 0 rfl) ?_
      refine lv_iload C.1 C.2.1 dX12_sum_20 (lv_at hl 5 rfl) ?_
      refine r_vi C hw (k12_buys hF (mo := mo) (U := U) (X := X) (i := k) (by omega)) ml_X12_62 yf_X12_buys 0 rfl rfl (As := [.int (nI k)]) rfl rfl ⟨Nat.le_of_ble_eq_true rfl, Nat.le_of_ble_eq_true rfl⟩ ⟨Nat.le_of_ble_eq_true rfl, Nat.le_of_ble_eq_true rfl⟩ hl.1 (Nat.le_of_ble_eq_true rfl) dX12_sum_22 (fun r_22 _ H locs hp_22 hw => ?_)
      obtain rfl : r_22 = bI (byF (U.2 0) k) := hp_22
      replace hw : WH G s (moW G mo U ++ X) H locs := hw
      refine lv_iload_n C.1 C.2.1 dX12_sum_25 rfl (lv_at hl 1 rfl) ?_
      refine lv_icmp_ne (tgt := 54) C.1 C.2.1 dX12_sum_26 (by decide) (fun c_26 => ?_) (fun c_26 => ?_)
      · have b_26 : ¬ byF (U.2 0) k = b := fun h => c_26 (by rw [h])
        refine lv_iconst (v := 0) C.1 C.2.1 dX12_sum_54 (by decide) ?_
        refine lv_iadd C.1 C.2.1 dX12_sum_55 ?_
        refine lv_istore (lv' := [(4, .int (x1 + 0)), (0, .ref (mo 0)), (1, .int (bI b)), (2, .int lo), (3, .int hi), (5, .int (nI k))]) C.1 C.2.1 dX12_sum_56 hl (by decide) rfl (fun ls hl => ?_)
        refine lv_iinc (v := nI (k + 1)) (lv' := [(5, .int (nI (k + 1))), (4, .int (x1 + 0)), (0, .ref (mo 0)), (1, .int (bI b)), (2, .int lo), (3, .int hi)]) C.1 C.2.1 dX12_sum_58 hl (k := 5) rfl (inc_nI k) (by decide) rfl (fun ls hl => ?_)
        refine lv_goto (tgt := 6) C.1 C.2.1 dX12_sum_61 (by decide) ?_
        exact ih6 (k + 1, (x1 + 0)) (⟨by omega, by omega, sm_f h3 (by simp [smC, b_26])⟩) _ _ hw _ (lv_sub hl [2, 3, 4, 5, 1, 0] rfl)
      · have b_26 : byF (U.2 0) k = b := bI_inj.mp c_26
        refine lv_aload_n C.1 C.2.1 dX12_sum_29 rfl (lv_at hl 0 rfl) ?_
        refine lv_iload C.1 C.2.1 dX12_sum_30 (lv_at hl 5 rfl) ?_
        refine lv_iconst (v := 3) C.1 C.2.1 dX12_sum_32 (by decide) ?_
        refine r_vi C hw (k12_of hF (mo := mo) (U := U) (X := X) (i := k) (k := 3) (by omega) (by omega)) ml_X12_55 yf_X12_of 0 rfl rfl (As := [.int (nI k), .int 3]) rfl rfl ⟨Nat.le_of_ble_eq_true rfl, Nat.le_of_ble_eq_true rfl⟩ ⟨Nat.le_of_ble_eq_true rfl, Nat.le_of_ble_eq_true rfl⟩ hl.1 (Nat.le_of_ble_eq_true rfl) dX12_sum_33 (fun r_33 _ H locs hp_33 hw => ?_)
        obtain rfl : r_33 = oF (U.2 0) k 3 := hp_33
        replace hw : WH G s (moW G mo U ++ X) H locs := hw
        refine lv_iload_n C.1 C.2.1 dX12_sum_36 rfl (lv_at hl 2 rfl) ?_
        refine lv_iload_n C.1 C.2.1 dX12_sum_37 rfl (lv_at hl 3 rfl) ?_
        refine r_si C hw (k12_in hF (X := moW G mo U ++ X) (oF (U.2 0) k 3) lo hi) ml_X12_51 yf_X12_in (As := [.int (oF (U.2 0) k 3), .int lo, .int hi]) rfl rfl ⟨Nat.le_of_ble_eq_true rfl, Nat.le_of_ble_eq_true rfl⟩ ⟨Nat.le_of_ble_eq_true rfl, Nat.le_of_ble_eq_true rfl⟩ hl.1 (Nat.le_of_ble_eq_true rfl) dX12_sum_38 (fun r_38 _ H locs hp_38 hw => ?_)
        obtain rfl : r_38 = bI (inR (oF (U.2 0) k 3) lo hi) := hp_38
        replace hw : WH G s (moW G mo U ++ X) H locs := hw
        refine lv_if_eq (tgt := 54) C.1 C.2.1 dX12_sum_41 (by decide) (fun c_41 => ?_) (fun c_41 => ?_)
        · have b_41 := bI_eq0.mp c_41
          refine lv_iconst (v := 0) C.1 C.2.1 dX12_sum_54 (by decide) ?_
          refine lv_iadd C.1 C.2.1 dX12_sum_55 ?_
          refine lv_istore (lv' := [(4, .int (x1 + 0)), (0, .ref (mo 0)), (1, .int (bI b)), (2, .int lo), (3, .int hi), (5, .int (nI k))]) C.1 C.2.1 dX12_sum_56 hl (by decide) rfl (fun ls hl => ?_)
          refine lv_iinc (v := nI (k + 1)) (lv' := [(5, .int (nI (k + 1))), (4, .int (x1 + 0)), (0, .ref (mo 0)), (1, .int (bI b)), (2, .int lo), (3, .int hi)]) C.1 C.2.1 dX12_sum_58 hl (k := 5) rfl (inc_nI k) (by decide) rfl (fun ls hl => ?_)
          refine lv_goto (tgt := 6) C.1 C.2.1 dX12_sum_61 (by decide) ?_
          exact ih6 (k + 1, (x1 + 0)) (⟨by omega, by omega, sm_f h3 (by simp [smC, b_26, b_41])⟩) _ _ hw _ (lv_sub hl [2, 3, 4, 5, 1, 0] rfl)
        · have b_41 := bI_ne0.mp c_41
          refine lv_aload_n C.1 C.2.1 dX12_sum_44 rfl (lv_at hl 0 rfl) ?_
          refine lv_iload C.1 C.2.1 dX12_sum_45 (lv_at hl 5 rfl) ?_
          refine lv_iconst (v := 4) C.1 C.2.1 dX12_sum_47 (by decide) ?_
          refine r_vi C hw (k12_of hF (mo := mo) (U := U) (X := X) (i := k) (k := 4) (by omega) (by omega)) ml_X12_55 yf_X12_of 0 rfl rfl (As := [.int (nI k), .int 4]) rfl rfl ⟨Nat.le_of_ble_eq_true rfl, Nat.le_of_ble_eq_true rfl⟩ ⟨Nat.le_of_ble_eq_true rfl, Nat.le_of_ble_eq_true rfl⟩ hl.1 (Nat.le_of_ble_eq_true rfl) dX12_sum_48 (fun r_48 _ H locs hp_48 hw => ?_)
          obtain rfl : r_48 = oF (U.2 0) k 4 := hp_48
          replace hw : WH G s (moW G mo U ++ X) H locs := hw
          refine lv_goto (tgt := 55) C.1 C.2.1 dX12_sum_51 (by decide) ?_
          refine lv_iadd C.1 C.2.1 dX12_sum_55 ?_
          refine lv_istore (lv' := [(4, .int (x1 + (oF (U.2 0) k 4))), (0, .ref (mo 0)), (1, .int (bI b)), (2, .int lo), (3, .int hi), (5, .int (nI k))]) C.1 C.2.1 dX12_sum_56 hl (by decide) rfl (fun ls hl => ?_)
          refine lv_iinc (v := nI (k + 1)) (lv' := [(5, .int (nI (k + 1))), (4, .int (x1 + (oF (U.2 0) k 4))), (0, .ref (mo 0)), (1, .int (bI b)), (2, .int lo), (3, .int hi)]) C.1 C.2.1 dX12_sum_58 hl (k := 5) rfl (inc_nI k) (by decide) rfl (fun ls hl => ?_)
          refine lv_goto (tgt := 6) C.1 C.2.1 dX12_sum_61 (by decide) ?_
          exact ih6 (k + 1, (x1 + (oF (U.2 0) k 4))) (⟨by omega, by omega, sm_t h3 (by simp [smC, b_26, b_41])⟩) _ _ hw _ (lv_sub hl [2, 3, 4, 5, 1, 0] rfl)
  · rintro ⟨k, x1⟩ ⟨h1, h2, h3⟩; omega

set_option maxHeartbeats 4000000 in
set_option maxRecDepth 100000 in
theorem k12_drops {l : Launch} {G : Gx} (hF : SF l G) {mo : Nat → Nat} {U : MV_} {X : va_W} {n : Nat} (hn1 : U.2 0 1 = nI n) (hn : n ≤ 20) {q : Nat} (hq : q < n) : MV l G yX12_drops cX12_drops 3 1 0 0 [.ref (mo 0), .int (nI q)] (moW G mo U ++ X) (fun _ => True) (fun _ : Unit => moW G mo (mR U 0 (drF (U.2 0) n q)) ++ X) := by
  refine mt_of hF (by decide) (Nat.le_of_ble_eq_true rfl) ?_
  intro p e s m below meth c C hin ls hl H locs hw
  have hl : lv_has ls 3 [(0, .ref (mo 0)), (1, .int (nI q))] := hl
  refine lv_aload_n C.1 C.2.1 dX12_drops_0 rfl (lv_at hl 0 rfl) ?_
  refine r_get C hw 0 rfl rfl in_X12 0 (by decide) fl_X12_9 rfl (v := .ref (mo 1)) rfl dX12_drops_1 ?_
  refine lv_iconst (v := 1) C.1 C.2.1 dX12_drops_4 (by decide) ?_
  refine lv_dup2_11 C.1 C.2.1 dX12_drops_5 rfl rfl ?_
  refine r_iald C hw 1 rfl (vp_in_nI (n := 1) (by omega) (by decide)) dX12_drops_6 ?_
  refine r_toe (show _ = (U.2 0) 1 from congrArg (U.2 0) (nI_clamp (n := 1) (by omega))) ?_
  refine r_toe (show _ = nI n from hn1) ?_
  refine lv_iconst (v := 1) C.1 C.2.1 dX12_drops_7 (by decide) ?_
  refine lv_isub C.1 C.2.1 dX12_drops_8 ?_
  refine r_toe (show _ = nI (n - 1) from nI_p1 (by omega)) ?_
  refine r_iast C hw 1 rfl (vp_in_nI (n := 1) (by omega) (by decide)) (w' := moW G mo (mR U 0 (upd (U.2 0) 1 (nI (n - 1)))) ++ X) rfl dX12_drops_9 (fun H locs hw => ?_)
  refine lv_bipush (v := 21) C.1 C.2.1 dX12_drops_10 (by decide) ?_
  refine lv_bipush (v := 6) C.1 C.2.1 dX12_drops_12 (by decide) ?_
  refine lv_iload_n C.1 C.2.1 dX12_drops_14 rfl (lv_at hl 1 rfl) ?_
  refine lv_imul C.1 C.2.1 dX12_drops_15 ?_
  refine r_toe (pk_mul 6 q) ?_
  refine lv_iadd C.1 C.2.1 dX12_drops_16 ?_
  refine r_toe (nI_add 21 (6 * q)) ?_
  refine lv_istore_n (lv' := [(2, .int (nI (21 + (6 * q)))), (0, .ref (mo 0)), (1, .int (nI q))]) C.1 C.2.1 dX12_drops_17 rfl hl (by decide) rfl (fun ls hl => ?_)
  refine lv_aload_n C.1 C.2.1 dX12_drops_18 rfl (lv_at hl 1 rfl) ?_
  refine r_get C hw 0 rfl rfl in_X12 0 (by decide) fl_X12_9 rfl (v := .ref (mo 1)) rfl dX12_drops_19 ?_
  refine lv_iload_n C.1 C.2.1 dX12_drops_22 rfl (lv_at hl 0 rfl) ?_
  refine lv_bipush (v := 6) C.1 C.2.1 dX12_drops_23 (by decide) ?_
  refine lv_iadd C.1 C.2.1 dX12_drops_25 ?_
  refine r_toe (nI_add (21 + (6 * q)) 6) ?_
  refine lv_aload_n C.1 C.2.1 dX12_drops_26 rfl (lv_at hl 1 rfl) ?_
  refine r_get C hw 0 rfl rfl in_X12 0 (by decide) fl_X12_9 rfl (v := .ref (mo 1)) rfl dX12_drops_27 ?_
  refine lv_iload_n C.1 C.2.1 dX12_drops_30 rfl (lv_at hl 0 rfl) ?_
  refine lv_bipush (v := 6) C.1 C.2.1 dX12_drops_31 (by decide) ?_
  refine lv_aload_n C.1 C.2.1 dX12_drops_33 rfl (lv_at hl 1 rfl) ?_
  refine r_get C hw 0 rfl rfl in_X12 0 (by decide) fl_X12_9 rfl (v := .ref (mo 1)) rfl dX12_drops_34 ?_
  refine lv_iconst (v := 1) C.1 C.2.1 dX12_drops_37 (by decide) ?_
  refine r_iald C hw 1 rfl (vp_in_nI (n := 1) (by omega) (by decide)) dX12_drops_38 ?_
  refine r_toe (show _ = (upd (U.2 0) 1 (nI (n - 1))) 1 from congrArg (upd (U.2 0) 1 (nI (n - 1))) (nI_clamp (n := 1) (by omega))) ?_
  refine r_toe (show _ = nI (n - 1) from rfl) ?_
  refine lv_iload_n C.1 C.2.1 dX12_drops_39 rfl (lv_at hl 2 rfl) ?_
  refine lv_isub C.1 C.2.1 dX12_drops_40 ?_
  refine r_toe (show _ = nI (n - 1 - q) from pk_sub (by omega)) ?_
  refine lv_imul C.1 C.2.1 dX12_drops_41 ?_
  refine r_toe (pk_mul 6 (n - 1 - q)) ?_
  refine r_copyi C hw ml_X12_42 1 1 0 (sp := ((21 + (6 * q)) + 6)) (dp := (21 + (6 * q))) (k := (6 * (n - 1 - q))) rfl rfl (ty := .int) rfl rfl (by omega) (by omega) (by decide) (by decide) (fun _ _ => rfl) (w' := moW G mo (mR (mR U 0 (upd (U.2 0) 1 (nI (n - 1)))) 0 (va_cpy (upd (U.2 0) 1 (nI (n - 1))) (upd (U.2 0) 1 (nI (n - 1))) ((21 + (6 * q)) + 6) (21 + (6 * q)) (6 * (n - 1 - q)))) ++ X) rfl hl.1 (Nat.le_of_ble_eq_true rfl) (by decide) dX12_drops_42 (fun H locs hw => ?_)
  exact r_vret C hw rfl () (trivial) rfl (Nat.le_of_ble_eq_true rfl) (Nat.le_of_ble_eq_true rfl) dX12_drops_45

set_option maxHeartbeats 4000000 in
set_option maxRecDepth 100000 in
theorem k12_takes {l : Launch} {G : Gx} (hF : SF l G) {mo : Nat → Nat} {U : MV_} {X : va_W} {n : Nat} (hn1 : U.2 0 1 = nI n) (hn : n ≤ 20) {q : Nat} (hq : q < n) (t : Int32) : MV l G yX12_takes cX12_takes 3 2 0 0 [.ref (mo 0), .int (nI q), .int t] (moW G mo U ++ X) (fun _ => True) (fun _ : Unit => moW G mo (mR U 0 (taF (U.2 0) n q t)) ++ X) := by
  refine mt_of hF (by decide) (Nat.le_of_ble_eq_true rfl) ?_
  intro p e s m below meth c C hin ls hl H locs hw
  have hl : lv_has ls 3 [(0, .ref (mo 0)), (1, .int (nI q)), (2, .int t)] := hl
  refine lv_aload_n C.1 C.2.1 dX12_takes_0 rfl (lv_at hl 0 rfl) ?_
  refine r_get C hw 0 rfl rfl in_X12 0 (by decide) fl_X12_9 rfl (v := .ref (mo 1)) rfl dX12_takes_1 ?_
  refine lv_bipush (v := 21) C.1 C.2.1 dX12_takes_4 (by decide) ?_
  refine lv_bipush (v := 6) C.1 C.2.1 dX12_takes_6 (by decide) ?_
  refine lv_iload_n C.1 C.2.1 dX12_takes_8 rfl (lv_at hl 1 rfl) ?_
  refine lv_imul C.1 C.2.1 dX12_takes_9 ?_
  refine r_toe (pk_mul 6 q) ?_
  refine lv_iadd C.1 C.2.1 dX12_takes_10 ?_
  refine r_toe (nI_add 21 (6 * q)) ?_
  refine lv_iconst (v := 4) C.1 C.2.1 dX12_takes_11 (by decide) ?_
  refine lv_iadd C.1 C.2.1 dX12_takes_12 ?_
  refine r_toe (nI_add (21 + (6 * q)) 4) ?_
  refine lv_dup2_11 C.1 C.2.1 dX12_takes_13 rfl rfl ?_
  refine r_iald C hw 1 rfl (vp_in_nI (n := ((21 + (6 * q)) + 4)) (by omega) (by decide)) dX12_takes_14 ?_
  refine r_toe (show _ = (U.2 0) ((21 + (6 * q)) + 4) from congrArg (U.2 0) (nI_clamp (n := ((21 + (6 * q)) + 4)) (by omega))) ?_
  refine lv_iload_n C.1 C.2.1 dX12_takes_15 rfl (lv_at hl 2 rfl) ?_
  refine lv_isub C.1 C.2.1 dX12_takes_16 ?_
  refine r_iast C hw 1 rfl (vp_in_nI (n := ((21 + (6 * q)) + 4)) (by omega) (by decide)) (w' := moW G mo (mR U 0 (upd (U.2 0) ((21 + (6 * q)) + 4) (((U.2 0) ((21 + (6 * q)) + 4)) - t))) ++ X) (by rw [show (nI ((21 + (6 * q)) + 4)).toNatClampNeg = ((21 + (6 * q)) + 4) from nI_clamp (by omega)]; rfl) dX12_takes_17 (fun H locs hw => ?_)
  refine lv_aload_n C.1 C.2.1 dX12_takes_18 rfl (lv_at hl 0 rfl) ?_
  refine lv_iload_n C.1 C.2.1 dX12_takes_19 rfl (lv_at hl 1 rfl) ?_
  refine lv_iconst (v := 4) C.1 C.2.1 dX12_takes_20 (by decide) ?_
  refine r_vi C hw (k12_of hF (mo := mo) (U := (mR U 0 (upd (U.2 0) ((21 + (6 * q)) + 4) (((U.2 0) ((21 + (6 * q)) + 4)) - t)))) (X := X) (i := q) (k := 4) (by omega) (by omega)) ml_X12_55 yf_X12_of 0 rfl rfl (As := [.int (nI q), .int 4]) rfl rfl ⟨Nat.le_of_ble_eq_true rfl, Nat.le_of_ble_eq_true rfl⟩ ⟨Nat.le_of_ble_eq_true rfl, Nat.le_of_ble_eq_true rfl⟩ hl.1 (Nat.le_of_ble_eq_true rfl) dX12_takes_21 (fun r_21 _ H locs hp_21 hw => ?_)
  obtain rfl : r_21 = oF (upd (U.2 0) ((21 + (6 * q)) + 4) (((U.2 0) ((21 + (6 * q)) + 4)) - t)) q 4 := hp_21
  replace hw : WH G s (moW G mo (mR U 0 (upd (U.2 0) ((21 + (6 * q)) + 4) (((U.2 0) ((21 + (6 * q)) + 4)) - t))) ++ X) H locs := hw
  refine lv_if_ne (tgt := 32) C.1 C.2.1 dX12_takes_24 (by decide) (fun c_24 => ?_) (fun c_24 => ?_)
  · exact r_vret C hw rfl () (trivial) (by unfold taF tqF; rw [if_neg c_24] <;> rfl) (Nat.le_of_ble_eq_true rfl) (Nat.le_of_ble_eq_true rfl) dX12_takes_32
  · refine lv_aload_n C.1 C.2.1 dX12_takes_27 rfl (lv_at hl 0 rfl) ?_
    refine lv_iload_n C.1 C.2.1 dX12_takes_28 rfl (lv_at hl 1 rfl) ?_
    refine r_vv C hw (k12_drops hF (mo := mo) (U := (mR U 0 (upd (U.2 0) ((21 + (6 * q)) + 4) (((U.2 0) ((21 + (6 * q)) + 4)) - t)))) (X := X) (n := n) (show ((upd (U.2 0) ((21 + (6 * q)) + 4) (((U.2 0) ((21 + (6 * q)) + 4)) - t))) 1 = nI n from (pk_un (by omega)).trans hn1) hn (q := q) hq) ml_X12_66 yf_X12_drops 0 rfl rfl (As := [.int (nI q)]) rfl rfl ⟨Nat.le_of_ble_eq_true rfl, Nat.le_of_ble_eq_true rfl⟩ ⟨Nat.le_of_ble_eq_true rfl, Nat.le_of_ble_eq_true rfl⟩ hl.1 (Nat.le_of_ble_eq_true rfl) dX12_takes_29 (fun _ H locs hp_29 hw => ?_)
    replace hw : WH G s (moW G mo (mR (mR U 0 (upd (U.2 0) ((21 + (6 * q)) + 4) (((U.2 0) ((21 + (6 * q)) + 4)) - t))) 0 (drF (upd (U.2 0) ((21 + (6 * q)) + 4) (((U.2 0) ((21 + (6 * q)) + 4)) - t)) n q)) ++ X) H locs := hw
    exact r_vret C hw rfl () (trivial) (by unfold taF tqF; rw [if_pos c_24] <;> rfl) (Nat.le_of_ble_eq_true rfl) (Nat.le_of_ble_eq_true rfl) dX12_takes_32

set_option maxHeartbeats 4000000 in
set_option maxRecDepth 100000 in
theorem k12_pays {l : Launch} {G : Gx} (hF : SF l G) {mo : Nat → Nat} {U : MV_} {X : va_W} {bu se : Nat} (hbu : bu < 6) (hse : se < 6) (pr q : Int32) : MV l G yX12_pays cX12_pays 5 0 0 0 [.ref (mo 0), .int (nI bu), .int (nI se), .int pr, .int q] (moW G mo U ++ X) (fun _ => True) (fun _ : Unit => moW G mo (mR U 0 (pyF (U.2 0) bu se pr q)) ++ X) := by
  refine mt_of hF (by decide) (Nat.le_of_ble_eq_true rfl) ?_
  intro p e s m below meth c C hin ls hl H locs hw
  have hl : lv_has ls 5 [(0, .ref (mo 0)), (1, .int (nI bu)), (2, .int (nI se)), (3, .int pr), (4, .int q)] := hl
  refine lv_aload_n C.1 C.2.1 dX12_pays_0 rfl (lv_at hl 0 rfl) ?_
  refine r_get C hw 0 rfl rfl in_X12 0 (by decide) fl_X12_9 rfl (v := .ref (mo 1)) rfl dX12_pays_1 ?_
  refine lv_bipush (v := 9) C.1 C.2.1 dX12_pays_4 (by decide) ?_
  refine lv_iconst (v := 2) C.1 C.2.1 dX12_pays_6 (by decide) ?_
  refine lv_iload_n C.1 C.2.1 dX12_pays_7 rfl (lv_at hl 1 rfl) ?_
  refine lv_imul C.1 C.2.1 dX12_pays_8 ?_
  refine r_toe (pk_mul 2 bu) ?_
  refine lv_iadd C.1 C.2.1 dX12_pays_9 ?_
  refine r_toe (nI_add 9 (2 * bu)) ?_
  refine lv_dup2_11 C.1 C.2.1 dX12_pays_10 rfl rfl ?_
  refine r_iald C hw 1 rfl (vp_in_nI (n := (9 + (2 * bu))) (by omega) (by decide)) dX12_pays_11 ?_
  refine r_toe (show _ = (U.2 0) (9 + (2 * bu)) from congrArg (U.2 0) (nI_clamp (n := (9 + (2 * bu))) (by omega))) ?_
  refine lv_iload_n C.1 C.2.1 dX12_pays_12 rfl (lv_at hl 3 rfl) ?_
  refine lv_iload C.1 C.2.1 dX12_pays_13 (lv_at hl 4 rfl) ?_
  refine lv_imul C.1 C.2.1 dX12_pays_15 ?_
  refine lv_isub C.1 C.2.1 dX12_pays_16 ?_
  refine r_iast C hw 1 rfl (vp_in_nI (n := (9 + (2 * bu))) (by omega) (by decide)) (w' := moW G mo (mR U 0 (upd (U.2 0) (9 + (2 * bu)) (((U.2 0) (9 + (2 * bu))) - (pr * q)))) ++ X) (by rw [show (nI (9 + (2 * bu))).toNatClampNeg = (9 + (2 * bu)) from nI_clamp (by omega)]; rfl) dX12_pays_17 (fun H locs hw => ?_)
  refine lv_aload_n C.1 C.2.1 dX12_pays_18 rfl (lv_at hl 0 rfl) ?_
  refine r_get C hw 0 rfl rfl in_X12 0 (by decide) fl_X12_9 rfl (v := .ref (mo 1)) rfl dX12_pays_19 ?_
  refine lv_bipush (v := 9) C.1 C.2.1 dX12_pays_22 (by decide) ?_
  refine lv_iconst (v := 2) C.1 C.2.1 dX12_pays_24 (by decide) ?_
  refine lv_iload_n C.1 C.2.1 dX12_pays_25 rfl (lv_at hl 2 rfl) ?_
  refine lv_imul C.1 C.2.1 dX12_pays_26 ?_
  refine r_toe (pk_mul 2 se) ?_
  refine lv_iadd C.1 C.2.1 dX12_pays_27 ?_
  refine r_toe (nI_add 9 (2 * se)) ?_
  refine lv_dup2_11 C.1 C.2.1 dX12_pays_28 rfl rfl ?_
  refine r_iald C hw 1 rfl (vp_in_nI (n := (9 + (2 * se))) (by omega) (by decide)) dX12_pays_29 ?_
  refine r_toe (show _ = (upd (U.2 0) (9 + (2 * bu)) (((U.2 0) (9 + (2 * bu))) - (pr * q))) (9 + (2 * se)) from congrArg (upd (U.2 0) (9 + (2 * bu)) (((U.2 0) (9 + (2 * bu))) - (pr * q))) (nI_clamp (n := (9 + (2 * se))) (by omega))) ?_
  refine lv_iload_n C.1 C.2.1 dX12_pays_30 rfl (lv_at hl 3 rfl) ?_
  refine lv_iload C.1 C.2.1 dX12_pays_31 (lv_at hl 4 rfl) ?_
  refine lv_imul C.1 C.2.1 dX12_pays_33 ?_
  refine lv_iadd C.1 C.2.1 dX12_pays_34 ?_
  refine r_iast C hw 1 rfl (vp_in_nI (n := (9 + (2 * se))) (by omega) (by decide)) (w' := moW G mo (mR (mR U 0 (upd (U.2 0) (9 + (2 * bu)) (((U.2 0) (9 + (2 * bu))) - (pr * q)))) 0 (upd (upd (U.2 0) (9 + (2 * bu)) (((U.2 0) (9 + (2 * bu))) - (pr * q))) (9 + (2 * se)) (((upd (U.2 0) (9 + (2 * bu)) (((U.2 0) (9 + (2 * bu))) - (pr * q))) (9 + (2 * se))) + (pr * q)))) ++ X) (by rw [show (nI (9 + (2 * se))).toNatClampNeg = (9 + (2 * se)) from nI_clamp (by omega)]; rfl) dX12_pays_35 (fun H locs hw => ?_)
  refine lv_aload_n C.1 C.2.1 dX12_pays_36 rfl (lv_at hl 0 rfl) ?_
  refine r_get C hw 0 rfl rfl in_X12 0 (by decide) fl_X12_9 rfl (v := .ref (mo 1)) rfl dX12_pays_37 ?_
  refine lv_bipush (v := 9) C.1 C.2.1 dX12_pays_40 (by decide) ?_
  refine lv_iconst (v := 2) C.1 C.2.1 dX12_pays_42 (by decide) ?_
  refine lv_iload_n C.1 C.2.1 dX12_pays_43 rfl (lv_at hl 1 rfl) ?_
  refine lv_imul C.1 C.2.1 dX12_pays_44 ?_
  refine r_toe (pk_mul 2 bu) ?_
  refine lv_iadd C.1 C.2.1 dX12_pays_45 ?_
  refine r_toe (nI_add 9 (2 * bu)) ?_
  refine lv_iconst (v := 1) C.1 C.2.1 dX12_pays_46 (by decide) ?_
  refine lv_iadd C.1 C.2.1 dX12_pays_47 ?_
  refine r_toe (nI_add (9 + (2 * bu)) 1) ?_
  refine lv_dup2_11 C.1 C.2.1 dX12_pays_48 rfl rfl ?_
  refine r_iald C hw 1 rfl (vp_in_nI (n := ((9 + (2 * bu)) + 1)) (by omega) (by decide)) dX12_pays_49 ?_
  refine r_toe (show _ = (upd (upd (U.2 0) (9 + (2 * bu)) (((U.2 0) (9 + (2 * bu))) - (pr * q))) (9 + (2 * se)) (((upd (U.2 0) (9 + (2 * bu)) (((U.2 0) (9 + (2 * bu))) - (pr * q))) (9 + (2 * se))) + (pr * q))) ((9 + (2 * bu)) + 1) from congrArg (upd (upd (U.2 0) (9 + (2 * bu)) (((U.2 0) (9 + (2 * bu))) - (pr * q))) (9 + (2 * se)) (((upd (U.2 0) (9 + (2 * bu)) (((U.2 0) (9 + (2 * bu))) - (pr * q))) (9 + (2 * se))) + (pr * q))) (nI_clamp (n := ((9 + (2 * bu)) + 1)) (by omega))) ?_
  refine lv_iload C.1 C.2.1 dX12_pays_50 (lv_at hl 4 rfl) ?_
  refine lv_iadd C.1 C.2.1 dX12_pays_52 ?_
  refine r_iast C hw 1 rfl (vp_in_nI (n := ((9 + (2 * bu)) + 1)) (by omega) (by decide)) (w' := moW G mo (mR (mR (mR U 0 (upd (U.2 0) (9 + (2 * bu)) (((U.2 0) (9 + (2 * bu))) - (pr * q)))) 0 (upd (upd (U.2 0) (9 + (2 * bu)) (((U.2 0) (9 + (2 * bu))) - (pr * q))) (9 + (2 * se)) (((upd (U.2 0) (9 + (2 * bu)) (((U.2 0) (9 + (2 * bu))) - (pr * q))) (9 + (2 * se))) + (pr * q)))) 0 (upd (upd (upd (U.2 0) (9 + (2 * bu)) (((U.2 0) (9 + (2 * bu))) - (pr * q))) (9 + (2 * se)) (((upd (U.2 0) (9 + (2 * bu)) (((U.2 0) (9 + (2 * bu))) - (pr * q))) (9 + (2 * se))) + (pr * q))) ((9 + (2 * bu)) + 1) (((upd (upd (U.2 0) (9 + (2 * bu)) (((U.2 0) (9 + (2 * bu))) - (pr * q))) (9 + (2 * se)) (((upd (U.2 0) (9 + (2 * bu)) (((U.2 0) (9 + (2 * bu))) - (pr * q))) (9 + (2 * se))) + (pr * q))) ((9 + (2 * bu)) + 1)) + q))) ++ X) (by rw [show (nI ((9 + (2 * bu)) + 1)).toNatClampNeg = ((9 + (2 * bu)) + 1) from nI_clamp (by omega)]; rfl) dX12_pays_53 (fun H locs hw => ?_)
  refine lv_aload_n C.1 C.2.1 dX12_pays_54 rfl (lv_at hl 0 rfl) ?_
  refine r_get C hw 0 rfl rfl in_X12 0 (by decide) fl_X12_9 rfl (v := .ref (mo 1)) rfl dX12_pays_55 ?_
  refine lv_bipush (v := 9) C.1 C.2.1 dX12_pays_58 (by decide) ?_
  refine lv_iconst (v := 2) C.1 C.2.1 dX12_pays_60 (by decide) ?_
  refine lv_iload_n C.1 C.2.1 dX12_pays_61 rfl (lv_at hl 2 rfl) ?_
  refine lv_imul C.1 C.2.1 dX12_pays_62 ?_
  refine r_toe (pk_mul 2 se) ?_
  refine lv_iadd C.1 C.2.1 dX12_pays_63 ?_
  refine r_toe (nI_add 9 (2 * se)) ?_
  refine lv_iconst (v := 1) C.1 C.2.1 dX12_pays_64 (by decide) ?_
  refine lv_iadd C.1 C.2.1 dX12_pays_65 ?_
  refine r_toe (nI_add (9 + (2 * se)) 1) ?_
  refine lv_dup2_11 C.1 C.2.1 dX12_pays_66 rfl rfl ?_
  refine r_iald C hw 1 rfl (vp_in_nI (n := ((9 + (2 * se)) + 1)) (by omega) (by decide)) dX12_pays_67 ?_
  refine r_toe (show _ = (upd (upd (upd (U.2 0) (9 + (2 * bu)) (((U.2 0) (9 + (2 * bu))) - (pr * q))) (9 + (2 * se)) (((upd (U.2 0) (9 + (2 * bu)) (((U.2 0) (9 + (2 * bu))) - (pr * q))) (9 + (2 * se))) + (pr * q))) ((9 + (2 * bu)) + 1) (((upd (upd (U.2 0) (9 + (2 * bu)) (((U.2 0) (9 + (2 * bu))) - (pr * q))) (9 + (2 * se)) (((upd (U.2 0) (9 + (2 * bu)) (((U.2 0) (9 + (2 * bu))) - (pr * q))) (9 + (2 * se))) + (pr * q))) ((9 + (2 * bu)) + 1)) + q)) ((9 + (2 * se)) + 1) from congrArg (upd (upd (upd (U.2 0) (9 + (2 * bu)) (((U.2 0) (9 + (2 * bu))) - (pr * q))) (9 + (2 * se)) (((upd (U.2 0) (9 + (2 * bu)) (((U.2 0) (9 + (2 * bu))) - (pr * q))) (9 + (2 * se))) + (pr * q))) ((9 + (2 * bu)) + 1) (((upd (upd (U.2 0) (9 + (2 * bu)) (((U.2 0) (9 + (2 * bu))) - (pr * q))) (9 + (2 * se)) (((upd (U.2 0) (9 + (2 * bu)) (((U.2 0) (9 + (2 * bu))) - (pr * q))) (9 + (2 * se))) + (pr * q))) ((9 + (2 * bu)) + 1)) + q)) (nI_clamp (n := ((9 + (2 * se)) + 1)) (by omega))) ?_
  refine lv_iload C.1 C.2.1 dX12_pays_68 (lv_at hl 4 rfl) ?_
  refine lv_isub C.1 C.2.1 dX12_pays_70 ?_
  refine r_iast C hw 1 rfl (vp_in_nI (n := ((9 + (2 * se)) + 1)) (by omega) (by decide)) (w' := moW G mo (mR (mR (mR (mR U 0 (upd (U.2 0) (9 + (2 * bu)) (((U.2 0) (9 + (2 * bu))) - (pr * q)))) 0 (upd (upd (U.2 0) (9 + (2 * bu)) (((U.2 0) (9 + (2 * bu))) - (pr * q))) (9 + (2 * se)) (((upd (U.2 0) (9 + (2 * bu)) (((U.2 0) (9 + (2 * bu))) - (pr * q))) (9 + (2 * se))) + (pr * q)))) 0 (upd (upd (upd (U.2 0) (9 + (2 * bu)) (((U.2 0) (9 + (2 * bu))) - (pr * q))) (9 + (2 * se)) (((upd (U.2 0) (9 + (2 * bu)) (((U.2 0) (9 + (2 * bu))) - (pr * q))) (9 + (2 * se))) + (pr * q))) ((9 + (2 * bu)) + 1) (((upd (upd (U.2 0) (9 + (2 * bu)) (((U.2 0) (9 + (2 * bu))) - (pr * q))) (9 + (2 * se)) (((upd (U.2 0) (9 + (2 * bu)) (((U.2 0) (9 + (2 * bu))) - (pr * q))) (9 + (2 * se))) + (pr * q))) ((9 + (2 * bu)) + 1)) + q))) 0 (upd (upd (upd (upd (U.2 0) (9 + (2 * bu)) (((U.2 0) (9 + (2 * bu))) - (pr * q))) (9 + (2 * se)) (((upd (U.2 0) (9 + (2 * bu)) (((U.2 0) (9 + (2 * bu))) - (pr * q))) (9 + (2 * se))) + (pr * q))) ((9 + (2 * bu)) + 1) (((upd (upd (U.2 0) (9 + (2 * bu)) (((U.2 0) (9 + (2 * bu))) - (pr * q))) (9 + (2 * se)) (((upd (U.2 0) (9 + (2 * bu)) (((U.2 0) (9 + (2 * bu))) - (pr * q))) (9 + (2 * se))) + (pr * q))) ((9 + (2 * bu)) + 1)) + q)) ((9 + (2 * se)) + 1) (((upd (upd (upd (U.2 0) (9 + (2 * bu)) (((U.2 0) (9 + (2 * bu))) - (pr * q))) (9 + (2 * se)) (((upd (U.2 0) (9 + (2 * bu)) (((U.2 0) (9 + (2 * bu))) - (pr * q))) (9 + (2 * se))) + (pr * q))) ((9 + (2 * bu)) + 1) (((upd (upd (U.2 0) (9 + (2 * bu)) (((U.2 0) (9 + (2 * bu))) - (pr * q))) (9 + (2 * se)) (((upd (U.2 0) (9 + (2 * bu)) (((U.2 0) (9 + (2 * bu))) - (pr * q))) (9 + (2 * se))) + (pr * q))) ((9 + (2 * bu)) + 1)) + q)) ((9 + (2 * se)) + 1)) - q))) ++ X) (by rw [show (nI ((9 + (2 * se)) + 1)).toNatClampNeg = ((9 + (2 * se)) + 1) from nI_clamp (by omega)]; rfl) dX12_pays_71 (fun H locs hw => ?_)
  refine lv_aload_n C.1 C.2.1 dX12_pays_72 rfl (lv_at hl 0 rfl) ?_
  refine r_get C hw 0 rfl rfl in_X12 0 (by decide) fl_X12_9 rfl (v := .ref (mo 1)) rfl dX12_pays_73 ?_
  refine lv_iconst (v := 5) C.1 C.2.1 dX12_pays_76 (by decide) ?_
  refine lv_iload_n C.1 C.2.1 dX12_pays_77 rfl (lv_at hl 3 rfl) ?_
  refine r_iast C hw 1 rfl (vp_in_nI (n := 5) (by omega) (by decide)) (w' := moW G mo (mR (mR (mR (mR (mR U 0 (upd (U.2 0) (9 + (2 * bu)) (((U.2 0) (9 + (2 * bu))) - (pr * q)))) 0 (upd (upd (U.2 0) (9 + (2 * bu)) (((U.2 0) (9 + (2 * bu))) - (pr * q))) (9 + (2 * se)) (((upd (U.2 0) (9 + (2 * bu)) (((U.2 0) (9 + (2 * bu))) - (pr * q))) (9 + (2 * se))) + (pr * q)))) 0 (upd (upd (upd (U.2 0) (9 + (2 * bu)) (((U.2 0) (9 + (2 * bu))) - (pr * q))) (9 + (2 * se)) (((upd (U.2 0) (9 + (2 * bu)) (((U.2 0) (9 + (2 * bu))) - (pr * q))) (9 + (2 * se))) + (pr * q))) ((9 + (2 * bu)) + 1) (((upd (upd (U.2 0) (9 + (2 * bu)) (((U.2 0) (9 + (2 * bu))) - (pr * q))) (9 + (2 * se)) (((upd (U.2 0) (9 + (2 * bu)) (((U.2 0) (9 + (2 * bu))) - (pr * q))) (9 + (2 * se))) + (pr * q))) ((9 + (2 * bu)) + 1)) + q))) 0 (upd (upd (upd (upd (U.2 0) (9 + (2 * bu)) (((U.2 0) (9 + (2 * bu))) - (pr * q))) (9 + (2 * se)) (((upd (U.2 0) (9 + (2 * bu)) (((U.2 0) (9 + (2 * bu))) - (pr * q))) (9 + (2 * se))) + (pr * q))) ((9 + (2 * bu)) + 1) (((upd (upd (U.2 0) (9 + (2 * bu)) (((U.2 0) (9 + (2 * bu))) - (pr * q))) (9 + (2 * se)) (((upd (U.2 0) (9 + (2 * bu)) (((U.2 0) (9 + (2 * bu))) - (pr * q))) (9 + (2 * se))) + (pr * q))) ((9 + (2 * bu)) + 1)) + q)) ((9 + (2 * se)) + 1) (((upd (upd (upd (U.2 0) (9 + (2 * bu)) (((U.2 0) (9 + (2 * bu))) - (pr * q))) (9 + (2 * se)) (((upd (U.2 0) (9 + (2 * bu)) (((U.2 0) (9 + (2 * bu))) - (pr * q))) (9 + (2 * se))) + (pr * q))) ((9 + (2 * bu)) + 1) (((upd (upd (U.2 0) (9 + (2 * bu)) (((U.2 0) (9 + (2 * bu))) - (pr * q))) (9 + (2 * se)) (((upd (U.2 0) (9 + (2 * bu)) (((U.2 0) (9 + (2 * bu))) - (pr * q))) (9 + (2 * se))) + (pr * q))) ((9 + (2 * bu)) + 1)) + q)) ((9 + (2 * se)) + 1)) - q))) 0 (upd (upd (upd (upd (upd (U.2 0) (9 + (2 * bu)) (((U.2 0) (9 + (2 * bu))) - (pr * q))) (9 + (2 * se)) (((upd (U.2 0) (9 + (2 * bu)) (((U.2 0) (9 + (2 * bu))) - (pr * q))) (9 + (2 * se))) + (pr * q))) ((9 + (2 * bu)) + 1) (((upd (upd (U.2 0) (9 + (2 * bu)) (((U.2 0) (9 + (2 * bu))) - (pr * q))) (9 + (2 * se)) (((upd (U.2 0) (9 + (2 * bu)) (((U.2 0) (9 + (2 * bu))) - (pr * q))) (9 + (2 * se))) + (pr * q))) ((9 + (2 * bu)) + 1)) + q)) ((9 + (2 * se)) + 1) (((upd (upd (upd (U.2 0) (9 + (2 * bu)) (((U.2 0) (9 + (2 * bu))) - (pr * q))) (9 + (2 * se)) (((upd (U.2 0) (9 + (2 * bu)) (((U.2 0) (9 + (2 * bu))) - (pr * q))) (9 + (2 * se))) + (pr * q))) ((9 + (2 * bu)) + 1) (((upd (upd (U.2 0) (9 + (2 * bu)) (((U.2 0) (9 + (2 * bu))) - (pr * q))) (9 + (2 * se)) (((upd (U.2 0) (9 + (2 * bu)) (((U.2 0) (9 + (2 * bu))) - (pr * q))) (9 + (2 * se))) + (pr * q))) ((9 + (2 * bu)) + 1)) + q)) ((9 + (2 * se)) + 1)) - q)) 5 pr)) ++ X) rfl dX12_pays_78 (fun H locs hw => ?_)
  refine lv_aload_n C.1 C.2.1 dX12_pays_79 rfl (lv_at hl 0 rfl) ?_
  refine r_get C hw 0 rfl rfl in_X12 0 (by decide) fl_X12_9 rfl (v := .ref (mo 1)) rfl dX12_pays_80 ?_
  refine lv_bipush (v := 6) C.1 C.2.1 dX12_pays_83 (by decide) ?_
  refine lv_dup2_11 C.1 C.2.1 dX12_pays_85 rfl rfl ?_
  refine r_iald C hw 1 rfl (vp_in_nI (n := 6) (by omega) (by decide)) dX12_pays_86 ?_
  refine r_toe (show _ = (upd (upd (upd (upd (upd (U.2 0) (9 + (2 * bu)) (((U.2 0) (9 + (2 * bu))) - (pr * q))) (9 + (2 * se)) (((upd (U.2 0) (9 + (2 * bu)) (((U.2 0) (9 + (2 * bu))) - (pr * q))) (9 + (2 * se))) + (pr * q))) ((9 + (2 * bu)) + 1) (((upd (upd (U.2 0) (9 + (2 * bu)) (((U.2 0) (9 + (2 * bu))) - (pr * q))) (9 + (2 * se)) (((upd (U.2 0) (9 + (2 * bu)) (((U.2 0) (9 + (2 * bu))) - (pr * q))) (9 + (2 * se))) + (pr * q))) ((9 + (2 * bu)) + 1)) + q)) ((9 + (2 * se)) + 1) (((upd (upd (upd (U.2 0) (9 + (2 * bu)) (((U.2 0) (9 + (2 * bu))) - (pr * q))) (9 + (2 * se)) (((upd (U.2 0) (9 + (2 * bu)) (((U.2 0) (9 + (2 * bu))) - (pr * q))) (9 + (2 * se))) + (pr * q))) ((9 + (2 * bu)) + 1) (((upd (upd (U.2 0) (9 + (2 * bu)) (((U.2 0) (9 + (2 * bu))) - (pr * q))) (9 + (2 * se)) (((upd (U.2 0) (9 + (2 * bu)) (((U.2 0) (9 + (2 * bu))) - (pr * q))) (9 + (2 * se))) + (pr * q))) ((9 + (2 * bu)) + 1)) + q)) ((9 + (2 * se)) + 1)) - q)) 5 pr) 6 from congrArg (upd (upd (upd (upd (upd (U.2 0) (9 + (2 * bu)) (((U.2 0) (9 + (2 * bu))) - (pr * q))) (9 + (2 * se)) (((upd (U.2 0) (9 + (2 * bu)) (((U.2 0) (9 + (2 * bu))) - (pr * q))) (9 + (2 * se))) + (pr * q))) ((9 + (2 * bu)) + 1) (((upd (upd (U.2 0) (9 + (2 * bu)) (((U.2 0) (9 + (2 * bu))) - (pr * q))) (9 + (2 * se)) (((upd (U.2 0) (9 + (2 * bu)) (((U.2 0) (9 + (2 * bu))) - (pr * q))) (9 + (2 * se))) + (pr * q))) ((9 + (2 * bu)) + 1)) + q)) ((9 + (2 * se)) + 1) (((upd (upd (upd (U.2 0) (9 + (2 * bu)) (((U.2 0) (9 + (2 * bu))) - (pr * q))) (9 + (2 * se)) (((upd (U.2 0) (9 + (2 * bu)) (((U.2 0) (9 + (2 * bu))) - (pr * q))) (9 + (2 * se))) + (pr * q))) ((9 + (2 * bu)) + 1) (((upd (upd (U.2 0) (9 + (2 * bu)) (((U.2 0) (9 + (2 * bu))) - (pr * q))) (9 + (2 * se)) (((upd (U.2 0) (9 + (2 * bu)) (((U.2 0) (9 + (2 * bu))) - (pr * q))) (9 + (2 * se))) + (pr * q))) ((9 + (2 * bu)) + 1)) + q)) ((9 + (2 * se)) + 1)) - q)) 5 pr) (nI_clamp (n := 6) (by omega))) ?_
  refine lv_iconst (v := 1) C.1 C.2.1 dX12_pays_87 (by decide) ?_
  refine lv_iadd C.1 C.2.1 dX12_pays_88 ?_
  refine r_iast C hw 1 rfl (vp_in_nI (n := 6) (by omega) (by decide)) (w' := moW G mo (mR (mR (mR (mR (mR (mR U 0 (upd (U.2 0) (9 + (2 * bu)) (((U.2 0) (9 + (2 * bu))) - (pr * q)))) 0 (upd (upd (U.2 0) (9 + (2 * bu)) (((U.2 0) (9 + (2 * bu))) - (pr * q))) (9 + (2 * se)) (((upd (U.2 0) (9 + (2 * bu)) (((U.2 0) (9 + (2 * bu))) - (pr * q))) (9 + (2 * se))) + (pr * q)))) 0 (upd (upd (upd (U.2 0) (9 + (2 * bu)) (((U.2 0) (9 + (2 * bu))) - (pr * q))) (9 + (2 * se)) (((upd (U.2 0) (9 + (2 * bu)) (((U.2 0) (9 + (2 * bu))) - (pr * q))) (9 + (2 * se))) + (pr * q))) ((9 + (2 * bu)) + 1) (((upd (upd (U.2 0) (9 + (2 * bu)) (((U.2 0) (9 + (2 * bu))) - (pr * q))) (9 + (2 * se)) (((upd (U.2 0) (9 + (2 * bu)) (((U.2 0) (9 + (2 * bu))) - (pr * q))) (9 + (2 * se))) + (pr * q))) ((9 + (2 * bu)) + 1)) + q))) 0 (upd (upd (upd (upd (U.2 0) (9 + (2 * bu)) (((U.2 0) (9 + (2 * bu))) - (pr * q))) (9 + (2 * se)) (((upd (U.2 0) (9 + (2 * bu)) (((U.2 0) (9 + (2 * bu))) - (pr * q))) (9 + (2 * se))) + (pr * q))) ((9 + (2 * bu)) + 1) (((upd (upd (U.2 0) (9 + (2 * bu)) (((U.2 0) (9 + (2 * bu))) - (pr * q))) (9 + (2 * se)) (((upd (U.2 0) (9 + (2 * bu)) (((U.2 0) (9 + (2 * bu))) - (pr * q))) (9 + (2 * se))) + (pr * q))) ((9 + (2 * bu)) + 1)) + q)) ((9 + (2 * se)) + 1) (((upd (upd (upd (U.2 0) (9 + (2 * bu)) (((U.2 0) (9 + (2 * bu))) - (pr * q))) (9 + (2 * se)) (((upd (U.2 0) (9 + (2 * bu)) (((U.2 0) (9 + (2 * bu))) - (pr * q))) (9 + (2 * se))) + (pr * q))) ((9 + (2 * bu)) + 1) (((upd (upd (U.2 0) (9 + (2 * bu)) (((U.2 0) (9 + (2 * bu))) - (pr * q))) (9 + (2 * se)) (((upd (U.2 0) (9 + (2 * bu)) (((U.2 0) (9 + (2 * bu))) - (pr * q))) (9 + (2 * se))) + (pr * q))) ((9 + (2 * bu)) + 1)) + q)) ((9 + (2 * se)) + 1)) - q))) 0 (upd (upd (upd (upd (upd (U.2 0) (9 + (2 * bu)) (((U.2 0) (9 + (2 * bu))) - (pr * q))) (9 + (2 * se)) (((upd (U.2 0) (9 + (2 * bu)) (((U.2 0) (9 + (2 * bu))) - (pr * q))) (9 + (2 * se))) + (pr * q))) ((9 + (2 * bu)) + 1) (((upd (upd (U.2 0) (9 + (2 * bu)) (((U.2 0) (9 + (2 * bu))) - (pr * q))) (9 + (2 * se)) (((upd (U.2 0) (9 + (2 * bu)) (((U.2 0) (9 + (2 * bu))) - (pr * q))) (9 + (2 * se))) + (pr * q))) ((9 + (2 * bu)) + 1)) + q)) ((9 + (2 * se)) + 1) (((upd (upd (upd (U.2 0) (9 + (2 * bu)) (((U.2 0) (9 + (2 * bu))) - (pr * q))) (9 + (2 * se)) (((upd (U.2 0) (9 + (2 * bu)) (((U.2 0) (9 + (2 * bu))) - (pr * q))) (9 + (2 * se))) + (pr * q))) ((9 + (2 * bu)) + 1) (((upd (upd (U.2 0) (9 + (2 * bu)) (((U.2 0) (9 + (2 * bu))) - (pr * q))) (9 + (2 * se)) (((upd (U.2 0) (9 + (2 * bu)) (((U.2 0) (9 + (2 * bu))) - (pr * q))) (9 + (2 * se))) + (pr * q))) ((9 + (2 * bu)) + 1)) + q)) ((9 + (2 * se)) + 1)) - q)) 5 pr)) 0 (upd (upd (upd (upd (upd (upd (U.2 0) (9 + (2 * bu)) (((U.2 0) (9 + (2 * bu))) - (pr * q))) (9 + (2 * se)) (((upd (U.2 0) (9 + (2 * bu)) (((U.2 0) (9 + (2 * bu))) - (pr * q))) (9 + (2 * se))) + (pr * q))) ((9 + (2 * bu)) + 1) (((upd (upd (U.2 0) (9 + (2 * bu)) (((U.2 0) (9 + (2 * bu))) - (pr * q))) (9 + (2 * se)) (((upd (U.2 0) (9 + (2 * bu)) (((U.2 0) (9 + (2 * bu))) - (pr * q))) (9 + (2 * se))) + (pr * q))) ((9 + (2 * bu)) + 1)) + q)) ((9 + (2 * se)) + 1) (((upd (upd (upd (U.2 0) (9 + (2 * bu)) (((U.2 0) (9 + (2 * bu))) - (pr * q))) (9 + (2 * se)) (((upd (U.2 0) (9 + (2 * bu)) (((U.2 0) (9 + (2 * bu))) - (pr * q))) (9 + (2 * se))) + (pr * q))) ((9 + (2 * bu)) + 1) (((upd (upd (U.2 0) (9 + (2 * bu)) (((U.2 0) (9 + (2 * bu))) - (pr * q))) (9 + (2 * se)) (((upd (U.2 0) (9 + (2 * bu)) (((U.2 0) (9 + (2 * bu))) - (pr * q))) (9 + (2 * se))) + (pr * q))) ((9 + (2 * bu)) + 1)) + q)) ((9 + (2 * se)) + 1)) - q)) 5 pr) 6 (((upd (upd (upd (upd (upd (U.2 0) (9 + (2 * bu)) (((U.2 0) (9 + (2 * bu))) - (pr * q))) (9 + (2 * se)) (((upd (U.2 0) (9 + (2 * bu)) (((U.2 0) (9 + (2 * bu))) - (pr * q))) (9 + (2 * se))) + (pr * q))) ((9 + (2 * bu)) + 1) (((upd (upd (U.2 0) (9 + (2 * bu)) (((U.2 0) (9 + (2 * bu))) - (pr * q))) (9 + (2 * se)) (((upd (U.2 0) (9 + (2 * bu)) (((U.2 0) (9 + (2 * bu))) - (pr * q))) (9 + (2 * se))) + (pr * q))) ((9 + (2 * bu)) + 1)) + q)) ((9 + (2 * se)) + 1) (((upd (upd (upd (U.2 0) (9 + (2 * bu)) (((U.2 0) (9 + (2 * bu))) - (pr * q))) (9 + (2 * se)) (((upd (U.2 0) (9 + (2 * bu)) (((U.2 0) (9 + (2 * bu))) - (pr * q))) (9 + (2 * se))) + (pr * q))) ((9 + (2 * bu)) + 1) (((upd (upd (U.2 0) (9 + (2 * bu)) (((U.2 0) (9 + (2 * bu))) - (pr * q))) (9 + (2 * se)) (((upd (U.2 0) (9 + (2 * bu)) (((U.2 0) (9 + (2 * bu))) - (pr * q))) (9 + (2 * se))) + (pr * q))) ((9 + (2 * bu)) + 1)) + q)) ((9 + (2 * se)) + 1)) - q)) 5 pr) 6) + 1))) ++ X) rfl dX12_pays_89 (fun H locs hw => ?_)
  refine lv_aload_n C.1 C.2.1 dX12_pays_90 rfl (lv_at hl 0 rfl) ?_
  refine r_get C hw 0 rfl rfl in_X12 0 (by decide) fl_X12_9 rfl (v := .ref (mo 1)) rfl dX12_pays_91 ?_
  refine lv_bipush (v := 7) C.1 C.2.1 dX12_pays_94 (by decide) ?_
  refine lv_dup2_11 C.1 C.2.1 dX12_pays_96 rfl rfl ?_
  refine r_iald C hw 1 rfl (vp_in_nI (n := 7) (by omega) (by decide)) dX12_pays_97 ?_
  refine r_toe (show _ = (upd (upd (upd (upd (upd (upd (U.2 0) (9 + (2 * bu)) (((U.2 0) (9 + (2 * bu))) - (pr * q))) (9 + (2 * se)) (((upd (U.2 0) (9 + (2 * bu)) (((U.2 0) (9 + (2 * bu))) - (pr * q))) (9 + (2 * se))) + (pr * q))) ((9 + (2 * bu)) + 1) (((upd (upd (U.2 0) (9 + (2 * bu)) (((U.2 0) (9 + (2 * bu))) - (pr * q))) (9 + (2 * se)) (((upd (U.2 0) (9 + (2 * bu)) (((U.2 0) (9 + (2 * bu))) - (pr * q))) (9 + (2 * se))) + (pr * q))) ((9 + (2 * bu)) + 1)) + q)) ((9 + (2 * se)) + 1) (((upd (upd (upd (U.2 0) (9 + (2 * bu)) (((U.2 0) (9 + (2 * bu))) - (pr * q))) (9 + (2 * se)) (((upd (U.2 0) (9 + (2 * bu)) (((U.2 0) (9 + (2 * bu))) - (pr * q))) (9 + (2 * se))) + (pr * q))) ((9 + (2 * bu)) + 1) (((upd (upd (U.2 0) (9 + (2 * bu)) (((U.2 0) (9 + (2 * bu))) - (pr * q))) (9 + (2 * se)) (((upd (U.2 0) (9 + (2 * bu)) (((U.2 0) (9 + (2 * bu))) - (pr * q))) (9 + (2 * se))) + (pr * q))) ((9 + (2 * bu)) + 1)) + q)) ((9 + (2 * se)) + 1)) - q)) 5 pr) 6 (((upd (upd (upd (upd (upd (U.2 0) (9 + (2 * bu)) (((U.2 0) (9 + (2 * bu))) - (pr * q))) (9 + (2 * se)) (((upd (U.2 0) (9 + (2 * bu)) (((U.2 0) (9 + (2 * bu))) - (pr * q))) (9 + (2 * se))) + (pr * q))) ((9 + (2 * bu)) + 1) (((upd (upd (U.2 0) (9 + (2 * bu)) (((U.2 0) (9 + (2 * bu))) - (pr * q))) (9 + (2 * se)) (((upd (U.2 0) (9 + (2 * bu)) (((U.2 0) (9 + (2 * bu))) - (pr * q))) (9 + (2 * se))) + (pr * q))) ((9 + (2 * bu)) + 1)) + q)) ((9 + (2 * se)) + 1) (((upd (upd (upd (U.2 0) (9 + (2 * bu)) (((U.2 0) (9 + (2 * bu))) - (pr * q))) (9 + (2 * se)) (((upd (U.2 0) (9 + (2 * bu)) (((U.2 0) (9 + (2 * bu))) - (pr * q))) (9 + (2 * se))) + (pr * q))) ((9 + (2 * bu)) + 1) (((upd (upd (U.2 0) (9 + (2 * bu)) (((U.2 0) (9 + (2 * bu))) - (pr * q))) (9 + (2 * se)) (((upd (U.2 0) (9 + (2 * bu)) (((U.2 0) (9 + (2 * bu))) - (pr * q))) (9 + (2 * se))) + (pr * q))) ((9 + (2 * bu)) + 1)) + q)) ((9 + (2 * se)) + 1)) - q)) 5 pr) 6) + 1)) 7 from congrArg (upd (upd (upd (upd (upd (upd (U.2 0) (9 + (2 * bu)) (((U.2 0) (9 + (2 * bu))) - (pr * q))) (9 + (2 * se)) (((upd (U.2 0) (9 + (2 * bu)) (((U.2 0) (9 + (2 * bu))) - (pr * q))) (9 + (2 * se))) + (pr * q))) ((9 + (2 * bu)) + 1) (((upd (upd (U.2 0) (9 + (2 * bu)) (((U.2 0) (9 + (2 * bu))) - (pr * q))) (9 + (2 * se)) (((upd (U.2 0) (9 + (2 * bu)) (((U.2 0) (9 + (2 * bu))) - (pr * q))) (9 + (2 * se))) + (pr * q))) ((9 + (2 * bu)) + 1)) + q)) ((9 + (2 * se)) + 1) (((upd (upd (upd (U.2 0) (9 + (2 * bu)) (((U.2 0) (9 + (2 * bu))) - (pr * q))) (9 + (2 * se)) (((upd (U.2 0) (9 + (2 * bu)) (((U.2 0) (9 + (2 * bu))) - (pr * q))) (9 + (2 * se))) + (pr * q))) ((9 + (2 * bu)) + 1) (((upd (upd (U.2 0) (9 + (2 * bu)) (((U.2 0) (9 + (2 * bu))) - (pr * q))) (9 + (2 * se)) (((upd (U.2 0) (9 + (2 * bu)) (((U.2 0) (9 + (2 * bu))) - (pr * q))) (9 + (2 * se))) + (pr * q))) ((9 + (2 * bu)) + 1)) + q)) ((9 + (2 * se)) + 1)) - q)) 5 pr) 6 (((upd (upd (upd (upd (upd (U.2 0) (9 + (2 * bu)) (((U.2 0) (9 + (2 * bu))) - (pr * q))) (9 + (2 * se)) (((upd (U.2 0) (9 + (2 * bu)) (((U.2 0) (9 + (2 * bu))) - (pr * q))) (9 + (2 * se))) + (pr * q))) ((9 + (2 * bu)) + 1) (((upd (upd (U.2 0) (9 + (2 * bu)) (((U.2 0) (9 + (2 * bu))) - (pr * q))) (9 + (2 * se)) (((upd (U.2 0) (9 + (2 * bu)) (((U.2 0) (9 + (2 * bu))) - (pr * q))) (9 + (2 * se))) + (pr * q))) ((9 + (2 * bu)) + 1)) + q)) ((9 + (2 * se)) + 1) (((upd (upd (upd (U.2 0) (9 + (2 * bu)) (((U.2 0) (9 + (2 * bu))) - (pr * q))) (9 + (2 * se)) (((upd (U.2 0) (9 + (2 * bu)) (((U.2 0) (9 + (2 * bu))) - (pr * q))) (9 + (2 * se))) + (pr * q))) ((9 + (2 * bu)) + 1) (((upd (upd (U.2 0) (9 + (2 * bu)) (((U.2 0) (9 + (2 * bu))) - (pr * q))) (9 + (2 * se)) (((upd (U.2 0) (9 + (2 * bu)) (((U.2 0) (9 + (2 * bu))) - (pr * q))) (9 + (2 * se))) + (pr * q))) ((9 + (2 * bu)) + 1)) + q)) ((9 + (2 * se)) + 1)) - q)) 5 pr) 6) + 1)) (nI_clamp (n := 7) (by omega))) ?_
  refine lv_iload C.1 C.2.1 dX12_pays_98 (lv_at hl 4 rfl) ?_
  refine lv_iadd C.1 C.2.1 dX12_pays_100 ?_
  refine r_iast C hw 1 rfl (vp_in_nI (n := 7) (by omega) (by decide)) (w' := moW G mo (mR (mR (mR (mR (mR (mR (mR U 0 (upd (U.2 0) (9 + (2 * bu)) (((U.2 0) (9 + (2 * bu))) - (pr * q)))) 0 (upd (upd (U.2 0) (9 + (2 * bu)) (((U.2 0) (9 + (2 * bu))) - (pr * q))) (9 + (2 * se)) (((upd (U.2 0) (9 + (2 * bu)) (((U.2 0) (9 + (2 * bu))) - (pr * q))) (9 + (2 * se))) + (pr * q)))) 0 (upd (upd (upd (U.2 0) (9 + (2 * bu)) (((U.2 0) (9 + (2 * bu))) - (pr * q))) (9 + (2 * se)) (((upd (U.2 0) (9 + (2 * bu)) (((U.2 0) (9 + (2 * bu))) - (pr * q))) (9 + (2 * se))) + (pr * q))) ((9 + (2 * bu)) + 1) (((upd (upd (U.2 0) (9 + (2 * bu)) (((U.2 0) (9 + (2 * bu))) - (pr * q))) (9 + (2 * se)) (((upd (U.2 0) (9 + (2 * bu)) (((U.2 0) (9 + (2 * bu))) - (pr * q))) (9 + (2 * se))) + (pr * q))) ((9 + (2 * bu)) + 1)) + q))) 0 (upd (upd (upd (upd (U.2 0) (9 + (2 * bu)) (((U.2 0) (9 + (2 * bu))) - (pr * q))) (9 + (2 * se)) (((upd (U.2 0) (9 + (2 * bu)) (((U.2 0) (9 + (2 * bu))) - (pr * q))) (9 + (2 * se))) + (pr * q))) ((9 + (2 * bu)) + 1) (((upd (upd (U.2 0) (9 + (2 * bu)) (((U.2 0) (9 + (2 * bu))) - (pr * q))) (9 + (2 * se)) (((upd (U.2 0) (9 + (2 * bu)) (((U.2 0) (9 + (2 * bu))) - (pr * q))) (9 + (2 * se))) + (pr * q))) ((9 + (2 * bu)) + 1)) + q)) ((9 + (2 * se)) + 1) (((upd (upd (upd (U.2 0) (9 + (2 * bu)) (((U.2 0) (9 + (2 * bu))) - (pr * q))) (9 + (2 * se)) (((upd (U.2 0) (9 + (2 * bu)) (((U.2 0) (9 + (2 * bu))) - (pr * q))) (9 + (2 * se))) + (pr * q))) ((9 + (2 * bu)) + 1) (((upd (upd (U.2 0) (9 + (2 * bu)) (((U.2 0) (9 + (2 * bu))) - (pr * q))) (9 + (2 * se)) (((upd (U.2 0) (9 + (2 * bu)) (((U.2 0) (9 + (2 * bu))) - (pr * q))) (9 + (2 * se))) + (pr * q))) ((9 + (2 * bu)) + 1)) + q)) ((9 + (2 * se)) + 1)) - q))) 0 (upd (upd (upd (upd (upd (U.2 0) (9 + (2 * bu)) (((U.2 0) (9 + (2 * bu))) - (pr * q))) (9 + (2 * se)) (((upd (U.2 0) (9 + (2 * bu)) (((U.2 0) (9 + (2 * bu))) - (pr * q))) (9 + (2 * se))) + (pr * q))) ((9 + (2 * bu)) + 1) (((upd (upd (U.2 0) (9 + (2 * bu)) (((U.2 0) (9 + (2 * bu))) - (pr * q))) (9 + (2 * se)) (((upd (U.2 0) (9 + (2 * bu)) (((U.2 0) (9 + (2 * bu))) - (pr * q))) (9 + (2 * se))) + (pr * q))) ((9 + (2 * bu)) + 1)) + q)) ((9 + (2 * se)) + 1) (((upd (upd (upd (U.2 0) (9 + (2 * bu)) (((U.2 0) (9 + (2 * bu))) - (pr * q))) (9 + (2 * se)) (((upd (U.2 0) (9 + (2 * bu)) (((U.2 0) (9 + (2 * bu))) - (pr * q))) (9 + (2 * se))) + (pr * q))) ((9 + (2 * bu)) + 1) (((upd (upd (U.2 0) (9 + (2 * bu)) (((U.2 0) (9 + (2 * bu))) - (pr * q))) (9 + (2 * se)) (((upd (U.2 0) (9 + (2 * bu)) (((U.2 0) (9 + (2 * bu))) - (pr * q))) (9 + (2 * se))) + (pr * q))) ((9 + (2 * bu)) + 1)) + q)) ((9 + (2 * se)) + 1)) - q)) 5 pr)) 0 (upd (upd (upd (upd (upd (upd (U.2 0) (9 + (2 * bu)) (((U.2 0) (9 + (2 * bu))) - (pr * q))) (9 + (2 * se)) (((upd (U.2 0) (9 + (2 * bu)) (((U.2 0) (9 + (2 * bu))) - (pr * q))) (9 + (2 * se))) + (pr * q))) ((9 + (2 * bu)) + 1) (((upd (upd (U.2 0) (9 + (2 * bu)) (((U.2 0) (9 + (2 * bu))) - (pr * q))) (9 + (2 * se)) (((upd (U.2 0) (9 + (2 * bu)) (((U.2 0) (9 + (2 * bu))) - (pr * q))) (9 + (2 * se))) + (pr * q))) ((9 + (2 * bu)) + 1)) + q)) ((9 + (2 * se)) + 1) (((upd (upd (upd (U.2 0) (9 + (2 * bu)) (((U.2 0) (9 + (2 * bu))) - (pr * q))) (9 + (2 * se)) (((upd (U.2 0) (9 + (2 * bu)) (((U.2 0) (9 + (2 * bu))) - (pr * q))) (9 + (2 * se))) + (pr * q))) ((9 + (2 * bu)) + 1) (((upd (upd (U.2 0) (9 + (2 * bu)) (((U.2 0) (9 + (2 * bu))) - (pr * q))) (9 + (2 * se)) (((upd (U.2 0) (9 + (2 * bu)) (((U.2 0) (9 + (2 * bu))) - (pr * q))) (9 + (2 * se))) + (pr * q))) ((9 + (2 * bu)) + 1)) + q)) ((9 + (2 * se)) + 1)) - q)) 5 pr) 6 (((upd (upd (upd (upd (upd (U.2 0) (9 + (2 * bu)) (((U.2 0) (9 + (2 * bu))) - (pr * q))) (9 + (2 * se)) (((upd (U.2 0) (9 + (2 * bu)) (((U.2 0) (9 + (2 * bu))) - (pr * q))) (9 + (2 * se))) + (pr * q))) ((9 + (2 * bu)) + 1) (((upd (upd (U.2 0) (9 + (2 * bu)) (((U.2 0) (9 + (2 * bu))) - (pr * q))) (9 + (2 * se)) (((upd (U.2 0) (9 + (2 * bu)) (((U.2 0) (9 + (2 * bu))) - (pr * q))) (9 + (2 * se))) + (pr * q))) ((9 + (2 * bu)) + 1)) + q)) ((9 + (2 * se)) + 1) (((upd (upd (upd (U.2 0) (9 + (2 * bu)) (((U.2 0) (9 + (2 * bu))) - (pr * q))) (9 + (2 * se)) (((upd (U.2 0) (9 + (2 * bu)) (((U.2 0) (9 + (2 * bu))) - (pr * q))) (9 + (2 * se))) + (pr * q))) ((9 + (2 * bu)) + 1) (((upd (upd (U.2 0) (9 + (2 * bu)) (((U.2 0) (9 + (2 * bu))) - (pr * q))) (9 + (2 * se)) (((upd (U.2 0) (9 + (2 * bu)) (((U.2 0) (9 + (2 * bu))) - (pr * q))) (9 + (2 * se))) + (pr * q))) ((9 + (2 * bu)) + 1)) + q)) ((9 + (2 * se)) + 1)) - q)) 5 pr) 6) + 1))) 0 (upd (upd (upd (upd (upd (upd (upd (U.2 0) (9 + (2 * bu)) (((U.2 0) (9 + (2 * bu))) - (pr * q))) (9 + (2 * se)) (((upd (U.2 0) (9 + (2 * bu)) (((U.2 0) (9 + (2 * bu))) - (pr * q))) (9 + (2 * se))) + (pr * q))) ((9 + (2 * bu)) + 1) (((upd (upd (U.2 0) (9 + (2 * bu)) (((U.2 0) (9 + (2 * bu))) - (pr * q))) (9 + (2 * se)) (((upd (U.2 0) (9 + (2 * bu)) (((U.2 0) (9 + (2 * bu))) - (pr * q))) (9 + (2 * se))) + (pr * q))) ((9 + (2 * bu)) + 1)) + q)) ((9 + (2 * se)) + 1) (((upd (upd (upd (U.2 0) (9 + (2 * bu)) (((U.2 0) (9 + (2 * bu))) - (pr * q))) (9 + (2 * se)) (((upd (U.2 0) (9 + (2 * bu)) (((U.2 0) (9 + (2 * bu))) - (pr * q))) (9 + (2 * se))) + (pr * q))) ((9 + (2 * bu)) + 1) (((upd (upd (U.2 0) (9 + (2 * bu)) (((U.2 0) (9 + (2 * bu))) - (pr * q))) (9 + (2 * se)) (((upd (U.2 0) (9 + (2 * bu)) (((U.2 0) (9 + (2 * bu))) - (pr * q))) (9 + (2 * se))) + (pr * q))) ((9 + (2 * bu)) + 1)) + q)) ((9 + (2 * se)) + 1)) - q)) 5 pr) 6 (((upd (upd (upd (upd (upd (U.2 0) (9 + (2 * bu)) (((U.2 0) (9 + (2 * bu))) - (pr * q))) (9 + (2 * se)) (((upd (U.2 0) (9 + (2 * bu)) (((U.2 0) (9 + (2 * bu))) - (pr * q))) (9 + (2 * se))) + (pr * q))) ((9 + (2 * bu)) + 1) (((upd (upd (U.2 0) (9 + (2 * bu)) (((U.2 0) (9 + (2 * bu))) - (pr * q))) (9 + (2 * se)) (((upd (U.2 0) (9 + (2 * bu)) (((U.2 0) (9 + (2 * bu))) - (pr * q))) (9 + (2 * se))) + (pr * q))) ((9 + (2 * bu)) + 1)) + q)) ((9 + (2 * se)) + 1) (((upd (upd (upd (U.2 0) (9 + (2 * bu)) (((U.2 0) (9 + (2 * bu))) - (pr * q))) (9 + (2 * se)) (((upd (U.2 0) (9 + (2 * bu)) (((U.2 0) (9 + (2 * bu))) - (pr * q))) (9 + (2 * se))) + (pr * q))) ((9 + (2 * bu)) + 1) (((upd (upd (U.2 0) (9 + (2 * bu)) (((U.2 0) (9 + (2 * bu))) - (pr * q))) (9 + (2 * se)) (((upd (U.2 0) (9 + (2 * bu)) (((U.2 0) (9 + (2 * bu))) - (pr * q))) (9 + (2 * se))) + (pr * q))) ((9 + (2 * bu)) + 1)) + q)) ((9 + (2 * se)) + 1)) - q)) 5 pr) 6) + 1)) 7 (((upd (upd (upd (upd (upd (upd (U.2 0) (9 + (2 * bu)) (((U.2 0) (9 + (2 * bu))) - (pr * q))) (9 + (2 * se)) (((upd (U.2 0) (9 + (2 * bu)) (((U.2 0) (9 + (2 * bu))) - (pr * q))) (9 + (2 * se))) + (pr * q))) ((9 + (2 * bu)) + 1) (((upd (upd (U.2 0) (9 + (2 * bu)) (((U.2 0) (9 + (2 * bu))) - (pr * q))) (9 + (2 * se)) (((upd (U.2 0) (9 + (2 * bu)) (((U.2 0) (9 + (2 * bu))) - (pr * q))) (9 + (2 * se))) + (pr * q))) ((9 + (2 * bu)) + 1)) + q)) ((9 + (2 * se)) + 1) (((upd (upd (upd (U.2 0) (9 + (2 * bu)) (((U.2 0) (9 + (2 * bu))) - (pr * q))) (9 + (2 * se)) (((upd (U.2 0) (9 + (2 * bu)) (((U.2 0) (9 + (2 * bu))) - (pr * q))) (9 + (2 * se))) + (pr * q))) ((9 + (2 * bu)) + 1) (((upd (upd (U.2 0) (9 + (2 * bu)) (((U.2 0) (9 + (2 * bu))) - (pr * q))) (9 + (2 * se)) (((upd (U.2 0) (9 + (2 * bu)) (((U.2 0) (9 + (2 * bu))) - (pr * q))) (9 + (2 * se))) + (pr * q))) ((9 + (2 * bu)) + 1)) + q)) ((9 + (2 * se)) + 1)) - q)) 5 pr) 6 (((upd (upd (upd (upd (upd (U.2 0) (9 + (2 * bu)) (((U.2 0) (9 + (2 * bu))) - (pr * q))) (9 + (2 * se)) (((upd (U.2 0) (9 + (2 * bu)) (((U.2 0) (9 + (2 * bu))) - (pr * q))) (9 + (2 * se))) + (pr * q))) ((9 + (2 * bu)) + 1) (((upd (upd (U.2 0) (9 + (2 * bu)) (((U.2 0) (9 + (2 * bu))) - (pr * q))) (9 + (2 * se)) (((upd (U.2 0) (9 + (2 * bu)) (((U.2 0) (9 + (2 * bu))) - (pr * q))) (9 + (2 * se))) + (pr * q))) ((9 + (2 * bu)) + 1)) + q)) ((9 + (2 * se)) + 1) (((upd (upd (upd (U.2 0) (9 + (2 * bu)) (((U.2 0) (9 + (2 * bu))) - (pr * q))) (9 + (2 * se)) (((upd (U.2 0) (9 + (2 * bu)) (((U.2 0) (9 + (2 * bu))) - (pr * q))) (9 + (2 * se))) + (pr * q))) ((9 + (2 * bu)) + 1) (((upd (upd (U.2 0) (9 + (2 * bu)) (((U.2 0) (9 + (2 * bu))) - (pr * q))) (9 + (2 * se)) (((upd (U.2 0) (9 + (2 * bu)) (((U.2 0) (9 + (2 * bu))) - (pr * q))) (9 + (2 * se))) + (pr * q))) ((9 + (2 * bu)) + 1)) + q)) ((9 + (2 * se)) + 1)) - q)) 5 pr) 6) + 1)) 7) + q))) ++ X) rfl dX12_pays_101 (fun H locs hw => ?_)
  refine lv_aload_n C.1 C.2.1 dX12_pays_102 rfl (lv_at hl 0 rfl) ?_
  refine r_get C hw 0 rfl rfl in_X12 0 (by decide) fl_X12_9 rfl (v := .ref (mo 1)) rfl dX12_pays_103 ?_
  refine lv_bipush (v := 8) C.1 C.2.1 dX12_pays_106 (by decide) ?_
  refine lv_dup2_11 C.1 C.2.1 dX12_pays_108 rfl rfl ?_
  refine r_iald C hw 1 rfl (vp_in_nI (n := 8) (by omega) (by decide)) dX12_pays_109 ?_
  refine r_toe (show _ = (upd (upd (upd (upd (upd (upd (upd (U.2 0) (9 + (2 * bu)) (((U.2 0) (9 + (2 * bu))) - (pr * q))) (9 + (2 * se)) (((upd (U.2 0) (9 + (2 * bu)) (((U.2 0) (9 + (2 * bu))) - (pr * q))) (9 + (2 * se))) + (pr * q))) ((9 + (2 * bu)) + 1) (((upd (upd (U.2 0) (9 + (2 * bu)) (((U.2 0) (9 + (2 * bu))) - (pr * q))) (9 + (2 * se)) (((upd (U.2 0) (9 + (2 * bu)) (((U.2 0) (9 + (2 * bu))) - (pr * q))) (9 + (2 * se))) + (pr * q))) ((9 + (2 * bu)) + 1)) + q)) ((9 + (2 * se)) + 1) (((upd (upd (upd (U.2 0) (9 + (2 * bu)) (((U.2 0) (9 + (2 * bu))) - (pr * q))) (9 + (2 * se)) (((upd (U.2 0) (9 + (2 * bu)) (((U.2 0) (9 + (2 * bu))) - (pr * q))) (9 + (2 * se))) + (pr * q))) ((9 + (2 * bu)) + 1) (((upd (upd (U.2 0) (9 + (2 * bu)) (((U.2 0) (9 + (2 * bu))) - (pr * q))) (9 + (2 * se)) (((upd (U.2 0) (9 + (2 * bu)) (((U.2 0) (9 + (2 * bu))) - (pr * q))) (9 + (2 * se))) + (pr * q))) ((9 + (2 * bu)) + 1)) + q)) ((9 + (2 * se)) + 1)) - q)) 5 pr) 6 (((upd (upd (upd (upd (upd (U.2 0) (9 + (2 * bu)) (((U.2 0) (9 + (2 * bu))) - (pr * q))) (9 + (2 * se)) (((upd (U.2 0) (9 + (2 * bu)) (((U.2 0) (9 + (2 * bu))) - (pr * q))) (9 + (2 * se))) + (pr * q))) ((9 + (2 * bu)) + 1) (((upd (upd (U.2 0) (9 + (2 * bu)) (((U.2 0) (9 + (2 * bu))) - (pr * q))) (9 + (2 * se)) (((upd (U.2 0) (9 + (2 * bu)) (((U.2 0) (9 + (2 * bu))) - (pr * q))) (9 + (2 * se))) + (pr * q))) ((9 + (2 * bu)) + 1)) + q)) ((9 + (2 * se)) + 1) (((upd (upd (upd (U.2 0) (9 + (2 * bu)) (((U.2 0) (9 + (2 * bu))) - (pr * q))) (9 + (2 * se)) (((upd (U.2 0) (9 + (2 * bu)) (((U.2 0) (9 + (2 * bu))) - (pr * q))) (9 + (2 * se))) + (pr * q))) ((9 + (2 * bu)) + 1) (((upd (upd (U.2 0) (9 + (2 * bu)) (((U.2 0) (9 + (2 * bu))) - (pr * q))) (9 + (2 * se)) (((upd (U.2 0) (9 + (2 * bu)) (((U.2 0) (9 + (2 * bu))) - (pr * q))) (9 + (2 * se))) + (pr * q))) ((9 + (2 * bu)) + 1)) + q)) ((9 + (2 * se)) + 1)) - q)) 5 pr) 6) + 1)) 7 (((upd (upd (upd (upd (upd (upd (U.2 0) (9 + (2 * bu)) (((U.2 0) (9 + (2 * bu))) - (pr * q))) (9 + (2 * se)) (((upd (U.2 0) (9 + (2 * bu)) (((U.2 0) (9 + (2 * bu))) - (pr * q))) (9 + (2 * se))) + (pr * q))) ((9 + (2 * bu)) + 1) (((upd (upd (U.2 0) (9 + (2 * bu)) (((U.2 0) (9 + (2 * bu))) - (pr * q))) (9 + (2 * se)) (((upd (U.2 0) (9 + (2 * bu)) (((U.2 0) (9 + (2 * bu))) - (pr * q))) (9 + (2 * se))) + (pr * q))) ((9 + (2 * bu)) + 1)) + q)) ((9 + (2 * se)) + 1) (((upd (upd (upd (U.2 0) (9 + (2 * bu)) (((U.2 0) (9 + (2 * bu))) - (pr * q))) (9 + (2 * se)) (((upd (U.2 0) (9 + (2 * bu)) (((U.2 0) (9 + (2 * bu))) - (pr * q))) (9 + (2 * se))) + (pr * q))) ((9 + (2 * bu)) + 1) (((upd (upd (U.2 0) (9 + (2 * bu)) (((U.2 0) (9 + (2 * bu))) - (pr * q))) (9 + (2 * se)) (((upd (U.2 0) (9 + (2 * bu)) (((U.2 0) (9 + (2 * bu))) - (pr * q))) (9 + (2 * se))) + (pr * q))) ((9 + (2 * bu)) + 1)) + q)) ((9 + (2 * se)) + 1)) - q)) 5 pr) 6 (((upd (upd (upd (upd (upd (U.2 0) (9 + (2 * bu)) (((U.2 0) (9 + (2 * bu))) - (pr * q))) (9 + (2 * se)) (((upd (U.2 0) (9 + (2 * bu)) (((U.2 0) (9 + (2 * bu))) - (pr * q))) (9 + (2 * se))) + (pr * q))) ((9 + (2 * bu)) + 1) (((upd (upd (U.2 0) (9 + (2 * bu)) (((U.2 0) (9 + (2 * bu))) - (pr * q))) (9 + (2 * se)) (((upd (U.2 0) (9 + (2 * bu)) (((U.2 0) (9 + (2 * bu))) - (pr * q))) (9 + (2 * se))) + (pr * q))) ((9 + (2 * bu)) + 1)) + q)) ((9 + (2 * se)) + 1) (((upd (upd (upd (U.2 0) (9 + (2 * bu)) (((U.2 0) (9 + (2 * bu))) - (pr * q))) (9 + (2 * se)) (((upd (U.2 0) (9 + (2 * bu)) (((U.2 0) (9 + (2 * bu))) - (pr * q))) (9 + (2 * se))) + (pr * q))) ((9 + (2 * bu)) + 1) (((upd (upd (U.2 0) (9 + (2 * bu)) (((U.2 0) (9 + (2 * bu))) - (pr * q))) (9 + (2 * se)) (((upd (U.2 0) (9 + (2 * bu)) (((U.2 0) (9 + (2 * bu))) - (pr * q))) (9 + (2 * se))) + (pr * q))) ((9 + (2 * bu)) + 1)) + q)) ((9 + (2 * se)) + 1)) - q)) 5 pr) 6) + 1)) 7) + q)) 8 from congrArg (upd (upd (upd (upd (upd (upd (upd (U.2 0) (9 + (2 * bu)) (((U.2 0) (9 + (2 * bu))) - (pr * q))) (9 + (2 * se)) (((upd (U.2 0) (9 + (2 * bu)) (((U.2 0) (9 + (2 * bu))) - (pr * q))) (9 + (2 * se))) + (pr * q))) ((9 + (2 * bu)) + 1) (((upd (upd (U.2 0) (9 + (2 * bu)) (((U.2 0) (9 + (2 * bu))) - (pr * q))) (9 + (2 * se)) (((upd (U.2 0) (9 + (2 * bu)) (((U.2 0) (9 + (2 * bu))) - (pr * q))) (9 + (2 * se))) + (pr * q))) ((9 + (2 * bu)) + 1)) + q)) ((9 + (2 * se)) + 1) (((upd (upd (upd (U.2 0) (9 + (2 * bu)) (((U.2 0) (9 + (2 * bu))) - (pr * q))) (9 + (2 * se)) (((upd (U.2 0) (9 + (2 * bu)) (((U.2 0) (9 + (2 * bu))) - (pr * q))) (9 + (2 * se))) + (pr * q))) ((9 + (2 * bu)) + 1) (((upd (upd (U.2 0) (9 + (2 * bu)) (((U.2 0) (9 + (2 * bu))) - (pr * q))) (9 + (2 * se)) (((upd (U.2 0) (9 + (2 * bu)) (((U.2 0) (9 + (2 * bu))) - (pr * q))) (9 + (2 * se))) + (pr * q))) ((9 + (2 * bu)) + 1)) + q)) ((9 + (2 * se)) + 1)) - q)) 5 pr) 6 (((upd (upd (upd (upd (upd (U.2 0) (9 + (2 * bu)) (((U.2 0) (9 + (2 * bu))) - (pr * q))) (9 + (2 * se)) (((upd (U.2 0) (9 + (2 * bu)) (((U.2 0) (9 + (2 * bu))) - (pr * q))) (9 + (2 * se))) + (pr * q))) ((9 + (2 * bu)) + 1) (((upd (upd (U.2 0) (9 + (2 * bu)) (((U.2 0) (9 + (2 * bu))) - (pr * q))) (9 + (2 * se)) (((upd (U.2 0) (9 + (2 * bu)) (((U.2 0) (9 + (2 * bu))) - (pr * q))) (9 + (2 * se))) + (pr * q))) ((9 + (2 * bu)) + 1)) + q)) ((9 + (2 * se)) + 1) (((upd (upd (upd (U.2 0) (9 + (2 * bu)) (((U.2 0) (9 + (2 * bu))) - (pr * q))) (9 + (2 * se)) (((upd (U.2 0) (9 + (2 * bu)) (((U.2 0) (9 + (2 * bu))) - (pr * q))) (9 + (2 * se))) + (pr * q))) ((9 + (2 * bu)) + 1) (((upd (upd (U.2 0) (9 + (2 * bu)) (((U.2 0) (9 + (2 * bu))) - (pr * q))) (9 + (2 * se)) (((upd (U.2 0) (9 + (2 * bu)) (((U.2 0) (9 + (2 * bu))) - (pr * q))) (9 + (2 * se))) + (pr * q))) ((9 + (2 * bu)) + 1)) + q)) ((9 + (2 * se)) + 1)) - q)) 5 pr) 6) + 1)) 7 (((upd (upd (upd (upd (upd (upd (U.2 0) (9 + (2 * bu)) (((U.2 0) (9 + (2 * bu))) - (pr * q))) (9 + (2 * se)) (((upd (U.2 0) (9 + (2 * bu)) (((U.2 0) (9 + (2 * bu))) - (pr * q))) (9 + (2 * se))) + (pr * q))) ((9 + (2 * bu)) + 1) (((upd (upd (U.2 0) (9 + (2 * bu)) (((U.2 0) (9 + (2 * bu))) - (pr * q))) (9 + (2 * se)) (((upd (U.2 0) (9 + (2 * bu)) (((U.2 0) (9 + (2 * bu))) - (pr * q))) (9 + (2 * se))) + (pr * q))) ((9 + (2 * bu)) + 1)) + q)) ((9 + (2 * se)) + 1) (((upd (upd (upd (U.2 0) (9 + (2 * bu)) (((U.2 0) (9 + (2 * bu))) - (pr * q))) (9 + (2 * se)) (((upd (U.2 0) (9 + (2 * bu)) (((U.2 0) (9 + (2 * bu))) - (pr * q))) (9 + (2 * se))) + (pr * q))) ((9 + (2 * bu)) + 1) (((upd (upd (U.2 0) (9 + (2 * bu)) (((U.2 0) (9 + (2 * bu))) - (pr * q))) (9 + (2 * se)) (((upd (U.2 0) (9 + (2 * bu)) (((U.2 0) (9 + (2 * bu))) - (pr * q))) (9 + (2 * se))) + (pr * q))) ((9 + (2 * bu)) + 1)) + q)) ((9 + (2 * se)) + 1)) - q)) 5 pr) 6 (((upd (upd (upd (upd (upd (U.2 0) (9 + (2 * bu)) (((U.2 0) (9 + (2 * bu))) - (pr * q))) (9 + (2 * se)) (((upd (U.2 0) (9 + (2 * bu)) (((U.2 0) (9 + (2 * bu))) - (pr * q))) (9 + (2 * se))) + (pr * q))) ((9 + (2 * bu)) + 1) (((upd (upd (U.2 0) (9 + (2 * bu)) (((U.2 0) (9 + (2 * bu))) - (pr * q))) (9 + (2 * se)) (((upd (U.2 0) (9 + (2 * bu)) (((U.2 0) (9 + (2 * bu))) - (pr * q))) (9 + (2 * se))) + (pr * q))) ((9 + (2 * bu)) + 1)) + q)) ((9 + (2 * se)) + 1) (((upd (upd (upd (U.2 0) (9 + (2 * bu)) (((U.2 0) (9 + (2 * bu))) - (pr * q))) (9 + (2 * se)) (((upd (U.2 0) (9 + (2 * bu)) (((U.2 0) (9 + (2 * bu))) - (pr * q))) (9 + (2 * se))) + (pr * q))) ((9 + (2 * bu)) + 1) (((upd (upd (U.2 0) (9 + (2 * bu)) (((U.2 0) (9 + (2 * bu))) - (pr * q))) (9 + (2 * se)) (((upd (U.2 0) (9 + (2 * bu)) (((U.2 0) (9 + (2 * bu))) - (pr * q))) (9 + (2 * se))) + (pr * q))) ((9 + (2 * bu)) + 1)) + q)) ((9 + (2 * se)) + 1)) - q)) 5 pr) 6) + 1)) 7) + q)) (nI_clamp (n := 8) (by omega))) ?_
  refine lv_iload_n C.1 C.2.1 dX12_pays_110 rfl (lv_at hl 3 rfl) ?_
  refine lv_iload C.1 C.2.1 dX12_pays_111 (lv_at hl 4 rfl) ?_
  refine lv_imul C.1 C.2.1 dX12_pays_113 ?_
  refine lv_iadd C.1 C.2.1 dX12_pays_114 ?_
  refine r_iast C hw 1 rfl (vp_in_nI (n := 8) (by omega) (by decide)) (w' := moW G mo (mR (mR (mR (mR (mR (mR (mR (mR U 0 (upd (U.2 0) (9 + (2 * bu)) (((U.2 0) (9 + (2 * bu))) - (pr * q)))) 0 (upd (upd (U.2 0) (9 + (2 * bu)) (((U.2 0) (9 + (2 * bu))) - (pr * q))) (9 + (2 * se)) (((upd (U.2 0) (9 + (2 * bu)) (((U.2 0) (9 + (2 * bu))) - (pr * q))) (9 + (2 * se))) + (pr * q)))) 0 (upd (upd (upd (U.2 0) (9 + (2 * bu)) (((U.2 0) (9 + (2 * bu))) - (pr * q))) (9 + (2 * se)) (((upd (U.2 0) (9 + (2 * bu)) (((U.2 0) (9 + (2 * bu))) - (pr * q))) (9 + (2 * se))) + (pr * q))) ((9 + (2 * bu)) + 1) (((upd (upd (U.2 0) (9 + (2 * bu)) (((U.2 0) (9 + (2 * bu))) - (pr * q))) (9 + (2 * se)) (((upd (U.2 0) (9 + (2 * bu)) (((U.2 0) (9 + (2 * bu))) - (pr * q))) (9 + (2 * se))) + (pr * q))) ((9 + (2 * bu)) + 1)) + q))) 0 (upd (upd (upd (upd (U.2 0) (9 + (2 * bu)) (((U.2 0) (9 + (2 * bu))) - (pr * q))) (9 + (2 * se)) (((upd (U.2 0) (9 + (2 * bu)) (((U.2 0) (9 + (2 * bu))) - (pr * q))) (9 + (2 * se))) + (pr * q))) ((9 + (2 * bu)) + 1) (((upd (upd (U.2 0) (9 + (2 * bu)) (((U.2 0) (9 + (2 * bu))) - (pr * q))) (9 + (2 * se)) (((upd (U.2 0) (9 + (2 * bu)) (((U.2 0) (9 + (2 * bu))) - (pr * q))) (9 + (2 * se))) + (pr * q))) ((9 + (2 * bu)) + 1)) + q)) ((9 + (2 * se)) + 1) (((upd (upd (upd (U.2 0) (9 + (2 * bu)) (((U.2 0) (9 + (2 * bu))) - (pr * q))) (9 + (2 * se)) (((upd (U.2 0) (9 + (2 * bu)) (((U.2 0) (9 + (2 * bu))) - (pr * q))) (9 + (2 * se))) + (pr * q))) ((9 + (2 * bu)) + 1) (((upd (upd (U.2 0) (9 + (2 * bu)) (((U.2 0) (9 + (2 * bu))) - (pr * q))) (9 + (2 * se)) (((upd (U.2 0) (9 + (2 * bu)) (((U.2 0) (9 + (2 * bu))) - (pr * q))) (9 + (2 * se))) + (pr * q))) ((9 + (2 * bu)) + 1)) + q)) ((9 + (2 * se)) + 1)) - q))) 0 (upd (upd (upd (upd (upd (U.2 0) (9 + (2 * bu)) (((U.2 0) (9 + (2 * bu))) - (pr * q))) (9 + (2 * se)) (((upd (U.2 0) (9 + (2 * bu)) (((U.2 0) (9 + (2 * bu))) - (pr * q))) (9 + (2 * se))) + (pr * q))) ((9 + (2 * bu)) + 1) (((upd (upd (U.2 0) (9 + (2 * bu)) (((U.2 0) (9 + (2 * bu))) - (pr * q))) (9 + (2 * se)) (((upd (U.2 0) (9 + (2 * bu)) (((U.2 0) (9 + (2 * bu))) - (pr * q))) (9 + (2 * se))) + (pr * q))) ((9 + (2 * bu)) + 1)) + q)) ((9 + (2 * se)) + 1) (((upd (upd (upd (U.2 0) (9 + (2 * bu)) (((U.2 0) (9 + (2 * bu))) - (pr * q))) (9 + (2 * se)) (((upd (U.2 0) (9 + (2 * bu)) (((U.2 0) (9 + (2 * bu))) - (pr * q))) (9 + (2 * se))) + (pr * q))) ((9 + (2 * bu)) + 1) (((upd (upd (U.2 0) (9 + (2 * bu)) (((U.2 0) (9 + (2 * bu))) - (pr * q))) (9 + (2 * se)) (((upd (U.2 0) (9 + (2 * bu)) (((U.2 0) (9 + (2 * bu))) - (pr * q))) (9 + (2 * se))) + (pr * q))) ((9 + (2 * bu)) + 1)) + q)) ((9 + (2 * se)) + 1)) - q)) 5 pr)) 0 (upd (upd (upd (upd (upd (upd (U.2 0) (9 + (2 * bu)) (((U.2 0) (9 + (2 * bu))) - (pr * q))) (9 + (2 * se)) (((upd (U.2 0) (9 + (2 * bu)) (((U.2 0) (9 + (2 * bu))) - (pr * q))) (9 + (2 * se))) + (pr * q))) ((9 + (2 * bu)) + 1) (((upd (upd (U.2 0) (9 + (2 * bu)) (((U.2 0) (9 + (2 * bu))) - (pr * q))) (9 + (2 * se)) (((upd (U.2 0) (9 + (2 * bu)) (((U.2 0) (9 + (2 * bu))) - (pr * q))) (9 + (2 * se))) + (pr * q))) ((9 + (2 * bu)) + 1)) + q)) ((9 + (2 * se)) + 1) (((upd (upd (upd (U.2 0) (9 + (2 * bu)) (((U.2 0) (9 + (2 * bu))) - (pr * q))) (9 + (2 * se)) (((upd (U.2 0) (9 + (2 * bu)) (((U.2 0) (9 + (2 * bu))) - (pr * q))) (9 + (2 * se))) + (pr * q))) ((9 + (2 * bu)) + 1) (((upd (upd (U.2 0) (9 + (2 * bu)) (((U.2 0) (9 + (2 * bu))) - (pr * q))) (9 + (2 * se)) (((upd (U.2 0) (9 + (2 * bu)) (((U.2 0) (9 + (2 * bu))) - (pr * q))) (9 + (2 * se))) + (pr * q))) ((9 + (2 * bu)) + 1)) + q)) ((9 + (2 * se)) + 1)) - q)) 5 pr) 6 (((upd (upd (upd (upd (upd (U.2 0) (9 + (2 * bu)) (((U.2 0) (9 + (2 * bu))) - (pr * q))) (9 + (2 * se)) (((upd (U.2 0) (9 + (2 * bu)) (((U.2 0) (9 + (2 * bu))) - (pr * q))) (9 + (2 * se))) + (pr * q))) ((9 + (2 * bu)) + 1) (((upd (upd (U.2 0) (9 + (2 * bu)) (((U.2 0) (9 + (2 * bu))) - (pr * q))) (9 + (2 * se)) (((upd (U.2 0) (9 + (2 * bu)) (((U.2 0) (9 + (2 * bu))) - (pr * q))) (9 + (2 * se))) + (pr * q))) ((9 + (2 * bu)) + 1)) + q)) ((9 + (2 * se)) + 1) (((upd (upd (upd (U.2 0) (9 + (2 * bu)) (((U.2 0) (9 + (2 * bu))) - (pr * q))) (9 + (2 * se)) (((upd (U.2 0) (9 + (2 * bu)) (((U.2 0) (9 + (2 * bu))) - (pr * q))) (9 + (2 * se))) + (pr * q))) ((9 + (2 * bu)) + 1) (((upd (upd (U.2 0) (9 + (2 * bu)) (((U.2 0) (9 + (2 * bu))) - (pr * q))) (9 + (2 * se)) (((upd (U.2 0) (9 + (2 * bu)) (((U.2 0) (9 + (2 * bu))) - (pr * q))) (9 + (2 * se))) + (pr * q))) ((9 + (2 * bu)) + 1)) + q)) ((9 + (2 * se)) + 1)) - q)) 5 pr) 6) + 1))) 0 (upd (upd (upd (upd (upd (upd (upd (U.2 0) (9 + (2 * bu)) (((U.2 0) (9 + (2 * bu))) - (pr * q))) (9 + (2 * se)) (((upd (U.2 0) (9 + (2 * bu)) (((U.2 0) (9 + (2 * bu))) - (pr * q))) (9 + (2 * se))) + (pr * q))) ((9 + (2 * bu)) + 1) (((upd (upd (U.2 0) (9 + (2 * bu)) (((U.2 0) (9 + (2 * bu))) - (pr * q))) (9 + (2 * se)) (((upd (U.2 0) (9 + (2 * bu)) (((U.2 0) (9 + (2 * bu))) - (pr * q))) (9 + (2 * se))) + (pr * q))) ((9 + (2 * bu)) + 1)) + q)) ((9 + (2 * se)) + 1) (((upd (upd (upd (U.2 0) (9 + (2 * bu)) (((U.2 0) (9 + (2 * bu))) - (pr * q))) (9 + (2 * se)) (((upd (U.2 0) (9 + (2 * bu)) (((U.2 0) (9 + (2 * bu))) - (pr * q))) (9 + (2 * se))) + (pr * q))) ((9 + (2 * bu)) + 1) (((upd (upd (U.2 0) (9 + (2 * bu)) (((U.2 0) (9 + (2 * bu))) - (pr * q))) (9 + (2 * se)) (((upd (U.2 0) (9 + (2 * bu)) (((U.2 0) (9 + (2 * bu))) - (pr * q))) (9 + (2 * se))) + (pr * q))) ((9 + (2 * bu)) + 1)) + q)) ((9 + (2 * se)) + 1)) - q)) 5 pr) 6 (((upd (upd (upd (upd (upd (U.2 0) (9 + (2 * bu)) (((U.2 0) (9 + (2 * bu))) - (pr * q))) (9 + (2 * se)) (((upd (U.2 0) (9 + (2 * bu)) (((U.2 0) (9 + (2 * bu))) - (pr * q))) (9 + (2 * se))) + (pr * q))) ((9 + (2 * bu)) + 1) (((upd (upd (U.2 0) (9 + (2 * bu)) (((U.2 0) (9 + (2 * bu))) - (pr * q))) (9 + (2 * se)) (((upd (U.2 0) (9 + (2 * bu)) (((U.2 0) (9 + (2 * bu))) - (pr * q))) (9 + (2 * se))) + (pr * q))) ((9 + (2 * bu)) + 1)) + q)) ((9 + (2 * se)) + 1) (((upd (upd (upd (U.2 0) (9 + (2 * bu)) (((U.2 0) (9 + (2 * bu))) - (pr * q))) (9 + (2 * se)) (((upd (U.2 0) (9 + (2 * bu)) (((U.2 0) (9 + (2 * bu))) - (pr * q))) (9 + (2 * se))) + (pr * q))) ((9 + (2 * bu)) + 1) (((upd (upd (U.2 0) (9 + (2 * bu)) (((U.2 0) (9 + (2 * bu))) - (pr * q))) (9 + (2 * se)) (((upd (U.2 0) (9 + (2 * bu)) (((U.2 0) (9 + (2 * bu))) - (pr * q))) (9 + (2 * se))) + (pr * q))) ((9 + (2 * bu)) + 1)) + q)) ((9 + (2 * se)) + 1)) - q)) 5 pr) 6) + 1)) 7 (((upd (upd (upd (upd (upd (upd (U.2 0) (9 + (2 * bu)) (((U.2 0) (9 + (2 * bu))) - (pr * q))) (9 + (2 * se)) (((upd (U.2 0) (9 + (2 * bu)) (((U.2 0) (9 + (2 * bu))) - (pr * q))) (9 + (2 * se))) + (pr * q))) ((9 + (2 * bu)) + 1) (((upd (upd (U.2 0) (9 + (2 * bu)) (((U.2 0) (9 + (2 * bu))) - (pr * q))) (9 + (2 * se)) (((upd (U.2 0) (9 + (2 * bu)) (((U.2 0) (9 + (2 * bu))) - (pr * q))) (9 + (2 * se))) + (pr * q))) ((9 + (2 * bu)) + 1)) + q)) ((9 + (2 * se)) + 1) (((upd (upd (upd (U.2 0) (9 + (2 * bu)) (((U.2 0) (9 + (2 * bu))) - (pr * q))) (9 + (2 * se)) (((upd (U.2 0) (9 + (2 * bu)) (((U.2 0) (9 + (2 * bu))) - (pr * q))) (9 + (2 * se))) + (pr * q))) ((9 + (2 * bu)) + 1) (((upd (upd (U.2 0) (9 + (2 * bu)) (((U.2 0) (9 + (2 * bu))) - (pr * q))) (9 + (2 * se)) (((upd (U.2 0) (9 + (2 * bu)) (((U.2 0) (9 + (2 * bu))) - (pr * q))) (9 + (2 * se))) + (pr * q))) ((9 + (2 * bu)) + 1)) + q)) ((9 + (2 * se)) + 1)) - q)) 5 pr) 6 (((upd (upd (upd (upd (upd (U.2 0) (9 + (2 * bu)) (((U.2 0) (9 + (2 * bu))) - (pr * q))) (9 + (2 * se)) (((upd (U.2 0) (9 + (2 * bu)) (((U.2 0) (9 + (2 * bu))) - (pr * q))) (9 + (2 * se))) + (pr * q))) ((9 + (2 * bu)) + 1) (((upd (upd (U.2 0) (9 + (2 * bu)) (((U.2 0) (9 + (2 * bu))) - (pr * q))) (9 + (2 * se)) (((upd (U.2 0) (9 + (2 * bu)) (((U.2 0) (9 + (2 * bu))) - (pr * q))) (9 + (2 * se))) + (pr * q))) ((9 + (2 * bu)) + 1)) + q)) ((9 + (2 * se)) + 1) (((upd (upd (upd (U.2 0) (9 + (2 * bu)) (((U.2 0) (9 + (2 * bu))) - (pr * q))) (9 + (2 * se)) (((upd (U.2 0) (9 + (2 * bu)) (((U.2 0) (9 + (2 * bu))) - (pr * q))) (9 + (2 * se))) + (pr * q))) ((9 + (2 * bu)) + 1) (((upd (upd (U.2 0) (9 + (2 * bu)) (((U.2 0) (9 + (2 * bu))) - (pr * q))) (9 + (2 * se)) (((upd (U.2 0) (9 + (2 * bu)) (((U.2 0) (9 + (2 * bu))) - (pr * q))) (9 + (2 * se))) + (pr * q))) ((9 + (2 * bu)) + 1)) + q)) ((9 + (2 * se)) + 1)) - q)) 5 pr) 6) + 1)) 7) + q))) 0 (upd (upd (upd (upd (upd (upd (upd (upd (U.2 0) (9 + (2 * bu)) (((U.2 0) (9 + (2 * bu))) - (pr * q))) (9 + (2 * se)) (((upd (U.2 0) (9 + (2 * bu)) (((U.2 0) (9 + (2 * bu))) - (pr * q))) (9 + (2 * se))) + (pr * q))) ((9 + (2 * bu)) + 1) (((upd (upd (U.2 0) (9 + (2 * bu)) (((U.2 0) (9 + (2 * bu))) - (pr * q))) (9 + (2 * se)) (((upd (U.2 0) (9 + (2 * bu)) (((U.2 0) (9 + (2 * bu))) - (pr * q))) (9 + (2 * se))) + (pr * q))) ((9 + (2 * bu)) + 1)) + q)) ((9 + (2 * se)) + 1) (((upd (upd (upd (U.2 0) (9 + (2 * bu)) (((U.2 0) (9 + (2 * bu))) - (pr * q))) (9 + (2 * se)) (((upd (U.2 0) (9 + (2 * bu)) (((U.2 0) (9 + (2 * bu))) - (pr * q))) (9 + (2 * se))) + (pr * q))) ((9 + (2 * bu)) + 1) (((upd (upd (U.2 0) (9 + (2 * bu)) (((U.2 0) (9 + (2 * bu))) - (pr * q))) (9 + (2 * se)) (((upd (U.2 0) (9 + (2 * bu)) (((U.2 0) (9 + (2 * bu))) - (pr * q))) (9 + (2 * se))) + (pr * q))) ((9 + (2 * bu)) + 1)) + q)) ((9 + (2 * se)) + 1)) - q)) 5 pr) 6 (((upd (upd (upd (upd (upd (U.2 0) (9 + (2 * bu)) (((U.2 0) (9 + (2 * bu))) - (pr * q))) (9 + (2 * se)) (((upd (U.2 0) (9 + (2 * bu)) (((U.2 0) (9 + (2 * bu))) - (pr * q))) (9 + (2 * se))) + (pr * q))) ((9 + (2 * bu)) + 1) (((upd (upd (U.2 0) (9 + (2 * bu)) (((U.2 0) (9 + (2 * bu))) - (pr * q))) (9 + (2 * se)) (((upd (U.2 0) (9 + (2 * bu)) (((U.2 0) (9 + (2 * bu))) - (pr * q))) (9 + (2 * se))) + (pr * q))) ((9 + (2 * bu)) + 1)) + q)) ((9 + (2 * se)) + 1) (((upd (upd (upd (U.2 0) (9 + (2 * bu)) (((U.2 0) (9 + (2 * bu))) - (pr * q))) (9 + (2 * se)) (((upd (U.2 0) (9 + (2 * bu)) (((U.2 0) (9 + (2 * bu))) - (pr * q))) (9 + (2 * se))) + (pr * q))) ((9 + (2 * bu)) + 1) (((upd (upd (U.2 0) (9 + (2 * bu)) (((U.2 0) (9 + (2 * bu))) - (pr * q))) (9 + (2 * se)) (((upd (U.2 0) (9 + (2 * bu)) (((U.2 0) (9 + (2 * bu))) - (pr * q))) (9 + (2 * se))) + (pr * q))) ((9 + (2 * bu)) + 1)) + q)) ((9 + (2 * se)) + 1)) - q)) 5 pr) 6) + 1)) 7 (((upd (upd (upd (upd (upd (upd (U.2 0) (9 + (2 * bu)) (((U.2 0) (9 + (2 * bu))) - (pr * q))) (9 + (2 * se)) (((upd (U.2 0) (9 + (2 * bu)) (((U.2 0) (9 + (2 * bu))) - (pr * q))) (9 + (2 * se))) + (pr * q))) ((9 + (2 * bu)) + 1) (((upd (upd (U.2 0) (9 + (2 * bu)) (((U.2 0) (9 + (2 * bu))) - (pr * q))) (9 + (2 * se)) (((upd (U.2 0) (9 + (2 * bu)) (((U.2 0) (9 + (2 * bu))) - (pr * q))) (9 + (2 * se))) + (pr * q))) ((9 + (2 * bu)) + 1)) + q)) ((9 + (2 * se)) + 1) (((upd (upd (upd (U.2 0) (9 + (2 * bu)) (((U.2 0) (9 + (2 * bu))) - (pr * q))) (9 + (2 * se)) (((upd (U.2 0) (9 + (2 * bu)) (((U.2 0) (9 + (2 * bu))) - (pr * q))) (9 + (2 * se))) + (pr * q))) ((9 + (2 * bu)) + 1) (((upd (upd (U.2 0) (9 + (2 * bu)) (((U.2 0) (9 + (2 * bu))) - (pr * q))) (9 + (2 * se)) (((upd (U.2 0) (9 + (2 * bu)) (((U.2 0) (9 + (2 * bu))) - (pr * q))) (9 + (2 * se))) + (pr * q))) ((9 + (2 * bu)) + 1)) + q)) ((9 + (2 * se)) + 1)) - q)) 5 pr) 6 (((upd (upd (upd (upd (upd (U.2 0) (9 + (2 * bu)) (((U.2 0) (9 + (2 * bu))) - (pr * q))) (9 + (2 * se)) (((upd (U.2 0) (9 + (2 * bu)) (((U.2 0) (9 + (2 * bu))) - (pr * q))) (9 + (2 * se))) + (pr * q))) ((9 + (2 * bu)) + 1) (((upd (upd (U.2 0) (9 + (2 * bu)) (((U.2 0) (9 + (2 * bu))) - (pr * q))) (9 + (2 * se)) (((upd (U.2 0) (9 + (2 * bu)) (((U.2 0) (9 + (2 * bu))) - (pr * q))) (9 + (2 * se))) + (pr * q))) ((9 + (2 * bu)) + 1)) + q)) ((9 + (2 * se)) + 1) (((upd (upd (upd (U.2 0) (9 + (2 * bu)) (((U.2 0) (9 + (2 * bu))) - (pr * q))) (9 + (2 * se)) (((upd (U.2 0) (9 + (2 * bu)) (((U.2 0) (9 + (2 * bu))) - (pr * q))) (9 + (2 * se))) + (pr * q))) ((9 + (2 * bu)) + 1) (((upd (upd (U.2 0) (9 + (2 * bu)) (((U.2 0) (9 + (2 * bu))) - (pr * q))) (9 + (2 * se)) (((upd (U.2 0) (9 + (2 * bu)) (((U.2 0) (9 + (2 * bu))) - (pr * q))) (9 + (2 * se))) + (pr * q))) ((9 + (2 * bu)) + 1)) + q)) ((9 + (2 * se)) + 1)) - q)) 5 pr) 6) + 1)) 7) + q)) 8 (((upd (upd (upd (upd (upd (upd (upd (U.2 0) (9 + (2 * bu)) (((U.2 0) (9 + (2 * bu))) - (pr * q))) (9 + (2 * se)) (((upd (U.2 0) (9 + (2 * bu)) (((U.2 0) (9 + (2 * bu))) - (pr * q))) (9 + (2 * se))) + (pr * q))) ((9 + (2 * bu)) + 1) (((upd (upd (U.2 0) (9 + (2 * bu)) (((U.2 0) (9 + (2 * bu))) - (pr * q))) (9 + (2 * se)) (((upd (U.2 0) (9 + (2 * bu)) (((U.2 0) (9 + (2 * bu))) - (pr * q))) (9 + (2 * se))) + (pr * q))) ((9 + (2 * bu)) + 1)) + q)) ((9 + (2 * se)) + 1) (((upd (upd (upd (U.2 0) (9 + (2 * bu)) (((U.2 0) (9 + (2 * bu))) - (pr * q))) (9 + (2 * se)) (((upd (U.2 0) (9 + (2 * bu)) (((U.2 0) (9 + (2 * bu))) - (pr * q))) (9 + (2 * se))) + (pr * q))) ((9 + (2 * bu)) + 1) (((upd (upd (U.2 0) (9 + (2 * bu)) (((U.2 0) (9 + (2 * bu))) - (pr * q))) (9 + (2 * se)) (((upd (U.2 0) (9 + (2 * bu)) (((U.2 0) (9 + (2 * bu))) - (pr * q))) (9 + (2 * se))) + (pr * q))) ((9 + (2 * bu)) + 1)) + q)) ((9 + (2 * se)) + 1)) - q)) 5 pr) 6 (((upd (upd (upd (upd (upd (U.2 0) (9 + (2 * bu)) (((U.2 0) (9 + (2 * bu))) - (pr * q))) (9 + (2 * se)) (((upd (U.2 0) (9 + (2 * bu)) (((U.2 0) (9 + (2 * bu))) - (pr * q))) (9 + (2 * se))) + (pr * q))) ((9 + (2 * bu)) + 1) (((upd (upd (U.2 0) (9 + (2 * bu)) (((U.2 0) (9 + (2 * bu))) - (pr * q))) (9 + (2 * se)) (((upd (U.2 0) (9 + (2 * bu)) (((U.2 0) (9 + (2 * bu))) - (pr * q))) (9 + (2 * se))) + (pr * q))) ((9 + (2 * bu)) + 1)) + q)) ((9 + (2 * se)) + 1) (((upd (upd (upd (U.2 0) (9 + (2 * bu)) (((U.2 0) (9 + (2 * bu))) - (pr * q))) (9 + (2 * se)) (((upd (U.2 0) (9 + (2 * bu)) (((U.2 0) (9 + (2 * bu))) - (pr * q))) (9 + (2 * se))) + (pr * q))) ((9 + (2 * bu)) + 1) (((upd (upd (U.2 0) (9 + (2 * bu)) (((U.2 0) (9 + (2 * bu))) - (pr * q))) (9 + (2 * se)) (((upd (U.2 0) (9 + (2 * bu)) (((U.2 0) (9 + (2 * bu))) - (pr * q))) (9 + (2 * se))) + (pr * q))) ((9 + (2 * bu)) + 1)) + q)) ((9 + (2 * se)) + 1)) - q)) 5 pr) 6) + 1)) 7 (((upd (upd (upd (upd (upd (upd (U.2 0) (9 + (2 * bu)) (((U.2 0) (9 + (2 * bu))) - (pr * q))) (9 + (2 * se)) (((upd (U.2 0) (9 + (2 * bu)) (((U.2 0) (9 + (2 * bu))) - (pr * q))) (9 + (2 * se))) + (pr * q))) ((9 + (2 * bu)) + 1) (((upd (upd (U.2 0) (9 + (2 * bu)) (((U.2 0) (9 + (2 * bu))) - (pr * q))) (9 + (2 * se)) (((upd (U.2 0) (9 + (2 * bu)) (((U.2 0) (9 + (2 * bu))) - (pr * q))) (9 + (2 * se))) + (pr * q))) ((9 + (2 * bu)) + 1)) + q)) ((9 + (2 * se)) + 1) (((upd (upd (upd (U.2 0) (9 + (2 * bu)) (((U.2 0) (9 + (2 * bu))) - (pr * q))) (9 + (2 * se)) (((upd (U.2 0) (9 + (2 * bu)) (((U.2 0) (9 + (2 * bu))) - (pr * q))) (9 + (2 * se))) + (pr * q))) ((9 + (2 * bu)) + 1) (((upd (upd (U.2 0) (9 + (2 * bu)) (((U.2 0) (9 + (2 * bu))) - (pr * q))) (9 + (2 * se)) (((upd (U.2 0) (9 + (2 * bu)) (((U.2 0) (9 + (2 * bu))) - (pr * q))) (9 + (2 * se))) + (pr * q))) ((9 + (2 * bu)) + 1)) + q)) ((9 + (2 * se)) + 1)) - q)) 5 pr) 6 (((upd (upd (upd (upd (upd (U.2 0) (9 + (2 * bu)) (((U.2 0) (9 + (2 * bu))) - (pr * q))) (9 + (2 * se)) (((upd (U.2 0) (9 + (2 * bu)) (((U.2 0) (9 + (2 * bu))) - (pr * q))) (9 + (2 * se))) + (pr * q))) ((9 + (2 * bu)) + 1) (((upd (upd (U.2 0) (9 + (2 * bu)) (((U.2 0) (9 + (2 * bu))) - (pr * q))) (9 + (2 * se)) (((upd (U.2 0) (9 + (2 * bu)) (((U.2 0) (9 + (2 * bu))) - (pr * q))) (9 + (2 * se))) + (pr * q))) ((9 + (2 * bu)) + 1)) + q)) ((9 + (2 * se)) + 1) (((upd (upd (upd (U.2 0) (9 + (2 * bu)) (((U.2 0) (9 + (2 * bu))) - (pr * q))) (9 + (2 * se)) (((upd (U.2 0) (9 + (2 * bu)) (((U.2 0) (9 + (2 * bu))) - (pr * q))) (9 + (2 * se))) + (pr * q))) ((9 + (2 * bu)) + 1) (((upd (upd (U.2 0) (9 + (2 * bu)) (((U.2 0) (9 + (2 * bu))) - (pr * q))) (9 + (2 * se)) (((upd (U.2 0) (9 + (2 * bu)) (((U.2 0) (9 + (2 * bu))) - (pr * q))) (9 + (2 * se))) + (pr * q))) ((9 + (2 * bu)) + 1)) + q)) ((9 + (2 * se)) + 1)) - q)) 5 pr) 6) + 1)) 7) + q)) 8) + (pr * q)))) ++ X) rfl dX12_pays_115 (fun H locs hw => ?_)
  exact r_vret C hw rfl () (trivial) rfl (Nat.le_of_ble_eq_true rfl) (Nat.le_of_ble_eq_true rfl) dX12_pays_116

