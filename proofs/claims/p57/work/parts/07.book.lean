/-! Book: what it answers and does, over a state's world -/
def buyS (S : SV) (k : Nat) : Bool := decide (S.2.1 4 k = 1)
/-- the first place with p -/
def fnd (p : Nat → Bool) : Nat → Option Nat
  | 0 => none
  | n + 1 => match fnd p n with
    | some k => some k
    | none => if p n = true then some n else none
theorem fnd_f {p : Nat → Bool} {k : Nat} (h : fnd p k = none) (hp : p k = false) : fnd p (k + 1) = none := by simp [fnd, h, hp]
theorem fnd_t {p : Nat → Bool} {k : Nat} (h : fnd p k = none) (hp : p k = true) : ∀ {n : Nat}, k < n → fnd p n = some k
  | 0, hn => by omega
  | n + 1, hn => by
    rcases Nat.lt_or_ge k n with h1 | h1
    · simp [fnd, fnd_t h hp h1]
    · obtain rfl : k = n := by omega
      simp [fnd, h, hp]
theorem fnd_lt {p : Nat → Bool} : ∀ {n k : Nat}, fnd p n = some k → k < n ∧ p k = true
  | 0, k, h => by simp [fnd] at h
  | n + 1, k, h => by
    cases hf : fnd p n with
    | some j =>
      rw [fnd, hf] at h
      have e : j = k := by simpa using h
      subst e
      have := fnd_lt hf
      exact ⟨by omega, this.2⟩
    | none =>
      rw [fnd, hf] at h
      by_cases hp : p n = true
      · simp [hp] at h
        subst h
        exact ⟨by omega, hp⟩
      · simp [hp] at h
def slotF (S : SV) (x : Int32) (n : Nat) : Option Nat := fnd (fun k => decide (S.2.1 2 k = x)) n
/-- a sum over the places with c -/
def bS (c : Nat → Bool) (v : Nat → Int32) (n : Nat) : Int32 := fr (fun k s => if c k = true then s + v k else s) n 0
theorem bS_t {c : Nat → Bool} {v : Nat → Int32} {k : Nat} {x : Int32} (h : x = bS c v k) (hc : c k = true) : x + v k = bS c v (k + 1) := by
  rw [h]
  show _ = if c k = true then _ else _
  rw [if_pos hc]
  rfl
theorem bS_f {c : Nat → Bool} {v : Nat → Int32} {k : Nat} {x : Int32} (h : x = bS c v k) (hc : c k = false) : x = bS c v (k + 1) := by
  rw [h]
  show _ = if c k = true then _ else _
  rw [if_neg (by rw [hc]; decide)]
  rfl
def ahd (S : SV) (b : Bool) (i j : Nat) : Bool := if b = true then !decide (S.2.1 5 i - S.2.1 5 j ≤ 0) else !decide (0 ≤ S.2.1 5 i - S.2.1 5 j)
def bstep (S : SV) (b : Bool) (k : Nat) (o : Option Nat) : Option Nat := if buyS S k = b then (match o with
  | none => some k
  | some j => if ahd S b k j = true then some k else some j) else o
/-- the place of the order of a side with the highest priority -/
def best (S : SV) (b : Bool) (n : Nat) : Option Nat := fr (bstep S b) n none
theorem best_s (S : SV) (b : Bool) (k : Nat) : best S b (k + 1) = bstep S b k (best S b k) := rfl
theorem bstep_n {S : SV} {b : Bool} {k : Nat} {o : Option Nat} (h : ¬ buyS S k = b) : bstep S b k o = o := if_neg h
theorem bstep_0 {S : SV} {b : Bool} {k : Nat} (h : buyS S k = b) : bstep S b k none = some k := if_pos h
theorem bstep_t {S : SV} {b : Bool} {k j : Nat} (h : buyS S k = b) (ha : ahd S b k j = true) : bstep S b k (some j) = some k := (if_pos h).trans (if_pos ha)
theorem bstep_f {S : SV} {b : Bool} {k j : Nat} (h : buyS S k = b) (ha : ahd S b k j = false) : bstep S b k (some j) = some j := (if_pos h).trans (if_neg (by rw [ha]; decide))
theorem best_lt {S : SV} {b : Bool} : ∀ {n j : Nat}, best S b n = some j → j < n
  | 0, j, h => by cases h
  | n + 1, j, h => by
    rw [best_s] at h
    by_cases hb : buyS S n = b
    · cases ho : best S b n with
      | none => rw [ho, bstep_0 hb] at h; cases h; omega
      | some q =>
        rw [ho] at h
        have hq := best_lt ho
        cases ha : ahd S b n q with
        | true => rw [bstep_t hb ha] at h; cases h; omega
        | false => rw [bstep_f hb ha] at h; cases h; omega
    · rw [bstep_n hb] at h
      have := best_lt h
      omega
def qAt (S : SV) (b : Bool) (p : Int32) (n : Nat) : Int32 := bS (fun k => decide (buyS S k = b) && decide (S.2.1 5 k = p)) (S.2.1 6) n
def bndM (S : SV) (st : Int32) (n : Nat) : Int32 := bS (fun k => buyS S k && decide (S.2.1 3 k = st)) (fun k => S.2.1 5 k * S.2.1 6 k) n
def bndD (S : SV) (st : Int32) (n : Nat) : Int32 := bS (fun k => !buyS S k && decide (S.2.1 3 k = st)) (S.2.1 6) n
def dmd (S : SV) (p : Int32) (n : Nat) : Int32 := bS (fun k => buyS S k && !decide (S.2.1 5 k < p)) (S.2.1 6) n
def sup (S : SV) (p : Int32) (n : Nat) : Int32 := bS (fun k => !buyS S k && !decide (p < S.2.1 5 k)) (S.2.1 6) n
def bCnt (S : SV) (n : Nat) : Int32 := bS (buyS S) (fun _ => 1) n
def i32min (x y : Int32) : Int32 := if x ≤ y then x else y
def i32max (x y : Int32) : Int32 := if x < y then y else x
def i32abs (x : Int32) : Int32 := if x < 0 then -x else x
def volS (S : SV) (p : Int32) (n : Nat) : Int32 := i32min (dmd S p n) (sup S p n)
def sprS (S : SV) (n : Nat) : Int32 := match best S true n, best S false n with
  | some i, some j => S.2.1 5 j - S.2.1 5 i
  | _, _ => 1000
def rmS (S : SV) (n j : Nat) : SV := sI (sR (sR (sR (sR (sR (sR S 2 (rgap 20 (S.2.1 2) j)) 3 (rgap 20 (S.2.1 3) j)) 4 (rgap 20 (S.2.1 4) j)) 5 (rgap 20 (S.2.1 5) j)) 6 (rgap 20 (S.2.1 6) j)) 7 (rgap 20 (S.2.1 7) j)) 1 (nI (n - 1))
def subQ (S : SV) (j : Nat) (t : Int32) : SV := sR S 6 (upd (S.2.1 6) j (S.2.1 6 j + -t))
def rdS (S : SV) (n j : Nat) (t : Int32) : SV := if upd (S.2.1 6) j (S.2.1 6 j + -t) j = 0 then rmS (subQ S j t) n j else subQ S j t
def enS (S : SV) (n : Nat) (num st : Int32) (b : Bool) (p q mi : Int32) : SV := sI (sR (sR (sR (sR (sR (sR S 2 (upd (S.2.1 2) n num)) 3 (upd (S.2.1 3) n st)) 4 (upd (S.2.1 4) n (bI b))) 5 (upd (S.2.1 5) n p)) 6 (upd (S.2.1 6) n q)) 7 (upd (S.2.1 7) n mi)) 1 (nI (n + 1))

set_option maxHeartbeats 4000000 in
set_option maxRecDepth 100000 in
theorem k1_isFull {l : Launch} {G : Gx} (hF : SF l G) {a : Nat → Nat} {S : SV} {X : va_W} {n : Nat} (hc : S.1 1 = nI n) (hn : n ≤ 20) : MI l G yX1_isFull cX1_isFull 1 .boolean 0 0 0 [.ref (a 6)] (stW G a S ++ X) (fun x _ => x = bI (decide (20 ≤ n))) (fun _ : Unit => stW G a S ++ X) := by
  refine mt_of hF (by decide) (Nat.le_of_ble_eq_true rfl) ?_
  intro p e s m below meth c C hin ls hl H locs hw
  have hl : lv_has ls 1 [(0, .ref (a 6))] := hl
  refine lv_aload_n C.1 C.2.1 dX1_isFull_0 rfl (lv_at hl 0 rfl) ?_
  refine r_get C hw 6 rfl rfl in_X1 6 (by decide) fl_X1_35 rfl (v := .int (S.1 1)) rfl dX1_isFull_1 ?_
  refine r_toe (show _ = nI n from hc) ?_
  refine lv_bipush (v := 20) C.1 C.2.1 dX1_isFull_4 (by decide) ?_
  refine lv_icmp_lt (tgt := 13) C.1 C.2.1 dX1_isFull_6 (by decide) (fun c_6 => ?_) (fun c_6 => ?_)
  · refine lv_iconst (v := 0) C.1 C.2.1 dX1_isFull_13 (by decide) ?_
    exact r_iret C hw rfl rfl () (by have h := lt_T (by decide) (by omega) c_6; simp [bI]; omega) rfl (Nat.le_of_ble_eq_true rfl) (Nat.le_of_ble_eq_true rfl) dX1_isFull_14
  · refine lv_iconst (v := 1) C.1 C.2.1 dX1_isFull_9 (by decide) ?_
    refine lv_goto (tgt := 14) C.1 C.2.1 dX1_isFull_10 (by decide) ?_
    exact r_iret C hw rfl rfl () (by have h := lt_F (by decide) (by omega) c_6; simp [bI]; omega) rfl (Nat.le_of_ble_eq_true rfl) (Nat.le_of_ble_eq_true rfl) dX1_isFull_14

set_option maxHeartbeats 4000000 in
set_option maxRecDepth 100000 in
theorem k1_buys {l : Launch} {G : Gx} (hF : SF l G) {a : Nat → Nat} {S : SV} {X : va_W} {j : Nat} (hj : j < 20) : MI l G yX1_buys cX1_buys 2 .boolean 1 0 0 [.ref (a 6), .int (nI j)] (stW G a S ++ X) (fun x _ => x = bI (buyS S j)) (fun _ : Unit => stW G a S ++ X) := by
  refine mt_of hF (by decide) (Nat.le_of_ble_eq_true rfl) ?_
  intro p e s m below meth c C hin ls hl H locs hw
  have hl : lv_has ls 2 [(0, .ref (a 6)), (1, .int (nI j))] := hl
  refine lv_aload_n C.1 C.2.1 dX1_buys_0 rfl (lv_at hl 0 rfl) ?_
  refine r_get C hw 6 rfl rfl in_X1 2 (by decide) fl_X1_23 rfl (v := .ref (a 11)) rfl dX1_buys_1 ?_
  refine lv_iload_n C.1 C.2.1 dX1_buys_4 rfl (lv_at hl 1 rfl) ?_
  refine r_vi C hw (k7_get hF (strow_4 G a S X) (by decide) (strow_e G a S X 4) (nI j)) ml_X1_39 yf_X7_get 11 rfl rfl (As := [.int (nI j)]) rfl rfl ⟨Nat.le_of_ble_eq_true rfl, Nat.le_of_ble_eq_true rfl⟩ ⟨Nat.le_of_ble_eq_true rfl, Nat.le_of_ble_eq_true rfl⟩ hl.1 (Nat.le_of_ble_eq_true rfl) dX1_buys_5 (fun r_5 _ H locs hp_5 hw => ?_)
  obtain rfl : r_5 = ((S.2.1 4) j) := by rw [hp_5]; exact rget_nI (by omega) (by decide)
  replace hw : WH G s (stW G a S ++ X) H locs := hw
  refine lv_iconst (v := 1) C.1 C.2.1 dX1_buys_8 (by decide) ?_
  refine lv_icmp_ne (tgt := 16) C.1 C.2.1 dX1_buys_9 (by decide) (fun c_9 => ?_) (fun c_9 => ?_)
  · refine lv_iconst (v := 0) C.1 C.2.1 dX1_buys_16 (by decide) ?_
    exact r_iret C hw rfl rfl () (by simp [buyS, bI, c_9]) rfl (Nat.le_of_ble_eq_true rfl) (Nat.le_of_ble_eq_true rfl) dX1_buys_17
  · refine lv_iconst (v := 1) C.1 C.2.1 dX1_buys_12 (by decide) ?_
    refine lv_goto (tgt := 17) C.1 C.2.1 dX1_buys_13 (by decide) ?_
    exact r_iret C hw rfl rfl () (by simp [buyS, bI, c_9]) rfl (Nat.le_of_ble_eq_true rfl) (Nat.le_of_ble_eq_true rfl) dX1_buys_17

set_option maxHeartbeats 4000000 in
set_option maxRecDepth 100000 in
theorem k1_slotOf {l : Launch} {G : Gx} (hF : SF l G) {a : Nat → Nat} {S : SV} {X : va_W} {n : Nat} (hc : S.1 1 = nI n) (hn : n ≤ 20) (x : Int32) : MI l G yX1_slotOf cX1_slotOf 3 .int 1 0 0 [.ref (a 6), .int x] (stW G a S ++ X) (fun r _ => r = oI (slotF S x n)) (fun _ : Unit => stW G a S ++ X) := by
  refine mt_of hF (by decide) (Nat.le_of_ble_eq_true rfl) ?_
  intro p e s m below meth c C hin ls hl H locs hw
  have hl : lv_has ls 3 [(0, .ref (a 6)), (1, .int x)] := hl
  refine lv_iconst (v := 0) C.1 C.2.1 dX1_slotOf_0 (by decide) ?_
  refine lv_istore_n (lv' := [(2, .int 0), (0, .ref (a 6)), (1, .int x)]) C.1 C.2.1 dX1_slotOf_1 rfl hl (by decide) rfl (fun ls hl => ?_)
  refine w_loop (σ := Nat) G (fun u k => k ≤ n ∧ n < k + u ∧ slotF S x k = none) (fun k => stW G a S ++ X) (fun k => 0) (fun k => 0) (fun k => [(0, .ref (a 6)), (1, .int x), (2, .int (nI k))]) 3 ?_ ?_ (n + 1) 0 (⟨Nat.zero_le _, by omega, rfl⟩) hw (lv_sub hl [1, 2, 0] rfl)
  · rintro n2 k ⟨h1, h2, h3⟩ ih2 H locs hw ls hl
    replace hw : WH G s (stW G a S ++ X) H locs := hw
    replace hl : lv_has ls 3 [(0, .ref (a 6)), (1, .int x), (2, .int (nI k))] := hl
    refine lv_iload_n C.1 C.2.1 dX1_slotOf_2 rfl (lv_at hl 2 rfl) ?_
    refine lv_aload_n C.1 C.2.1 dX1_slotOf_3 rfl (lv_at hl 0 rfl) ?_
    refine r_get C hw 6 rfl rfl in_X1 6 (by decide) fl_X1_35 rfl (v := .int (S.1 1)) rfl dX1_slotOf_4 ?_
    refine r_toe (show _ = nI n from hc) ?_
    refine lv_icmp_ge (tgt := 30) C.1 C.2.1 dX1_slotOf_7 (by decide) (fun c_7 => ?_) (fun c_7 => ?_)
    · obtain rfl := le_T h1 (by omega) c_7
      refine lv_iconst (v := -1) C.1 C.2.1 dX1_slotOf_30 (by decide) ?_
      exact r_iret C hw rfl rfl () (by rw [h3]; rfl) rfl (Nat.le_of_ble_eq_true rfl) (Nat.le_of_ble_eq_true rfl) dX1_slotOf_31
    · have hk := le_F h1 (by omega) c_7
      refine lv_aload_n C.1 C.2.1 dX1_slotOf_10 rfl (lv_at hl 0 rfl) ?_
      refine r_get C hw 6 rfl rfl in_X1 0 (by decide) fl_X1_14 rfl (v := .ref (a 7)) rfl dX1_slotOf_11 ?_
      refine lv_iload_n C.1 C.2.1 dX1_slotOf_14 rfl (lv_at hl 2 rfl) ?_
      refine r_vi C hw (k7_get hF (strow_2 G a S X) (by decide) (strow_e G a S X 2) (nI k)) ml_X1_39 yf_X7_get 7 rfl rfl (As := [.int (nI k)]) rfl rfl ⟨Nat.le_of_ble_eq_true rfl, Nat.le_of_ble_eq_true rfl⟩ ⟨Nat.le_of_ble_eq_true rfl, Nat.le_of_ble_eq_true rfl⟩ hl.1 (Nat.le_of_ble_eq_true rfl) dX1_slotOf_15 (fun r_15 _ H locs hp_15 hw => ?_)
      obtain rfl : r_15 = ((S.2.1 2) k) := by rw [hp_15]; exact rget_nI (by omega) (by decide)
      replace hw : WH G s (stW G a S ++ X) H locs := hw
      refine lv_iload_n C.1 C.2.1 dX1_slotOf_18 rfl (lv_at hl 1 rfl) ?_
      refine lv_icmp_ne (tgt := 24) C.1 C.2.1 dX1_slotOf_19 (by decide) (fun c_19 => ?_) (fun c_19 => ?_)
      · refine lv_iinc (v := nI (k + 1)) (lv' := [(2, .int (nI (k + 1))), (0, .ref (a 6)), (1, .int x)]) C.1 C.2.1 dX1_slotOf_24 hl (k := 2) rfl (inc_nI k) (by decide) rfl (fun ls hl => ?_)
        refine lv_goto (tgt := 2) C.1 C.2.1 dX1_slotOf_27 (by decide) ?_
        exact ih2 (k + 1) (⟨by omega, by omega, fnd_f h3 (by simp [c_19])⟩) _ _ hw _ (lv_sub hl [1, 2, 0] rfl)
      · refine lv_iload_n C.1 C.2.1 dX1_slotOf_22 rfl (lv_at hl 2 rfl) ?_
        exact r_iret C hw rfl rfl () (by rw [slotF, fnd_t h3 (by simp [c_19]) hk]; rfl) rfl (Nat.le_of_ble_eq_true rfl) (Nat.le_of_ble_eq_true rfl) dX1_slotOf_23
  · rintro k ⟨h1, h2, h3⟩; omega

set_option maxHeartbeats 4000000 in
set_option maxRecDepth 100000 in
theorem k1_enter {l : Launch} {G : Gx} (hF : SF l G) {a : Nat → Nat} {S : SV} {X : va_W} {n : Nat} (hc : S.1 1 = nI n) (hn : n < 20) (num st : Int32) (b : Bool) (pr q mi : Int32) : MV l G yX1_enter cX1_enter 7 1 0 0 [.ref (a 6), .int num, .int st, .int (bI b), .int pr, .int q, .int mi] (stW G a S ++ X) (fun _ => True) (fun _ : Unit => stW G a (enS S n num st b pr q mi) ++ X) := by
  refine mt_of hF (by decide) (Nat.le_of_ble_eq_true rfl) ?_
  intro p e s m below meth c C hin ls hl H locs hw
  have hl : lv_has ls 7 [(0, .ref (a 6)), (1, .int num), (2, .int st), (3, .int (bI b)), (4, .int pr), (5, .int q), (6, .int mi)] := hl
  refine lv_aload_n C.1 C.2.1 dX1_enter_0 rfl (lv_at hl 0 rfl) ?_
  refine r_get C hw 6 rfl rfl in_X1 0 (by decide) fl_X1_14 rfl (v := .ref (a 7)) rfl dX1_enter_1 ?_
  refine lv_aload_n C.1 C.2.1 dX1_enter_4 rfl (lv_at hl 0 rfl) ?_
  refine r_get C hw 6 rfl rfl in_X1 6 (by decide) fl_X1_35 rfl (v := .int (S.1 1)) rfl dX1_enter_5 ?_
  refine r_toe (show _ = nI n from hc) ?_
  refine lv_iload_n C.1 C.2.1 dX1_enter_8 rfl (lv_at hl 1 rfl) ?_
  refine r_vv C hw (k7_set hF (strow_2 G a S X) (by decide) (strow_e G a S X 2) (nI n) num) ml_X1_43 yf_X7_set 7 rfl rfl (As := [.int (nI n), .int num]) rfl rfl ⟨Nat.le_of_ble_eq_true rfl, Nat.le_of_ble_eq_true rfl⟩ ⟨Nat.le_of_ble_eq_true rfl, Nat.le_of_ble_eq_true rfl⟩ hl.1 (Nat.le_of_ble_eq_true rfl) dX1_enter_9 (fun _ H locs hp_9 hw => ?_)
  replace hw : WH G s (stW G a (sR S 2 (upd (S.2.1 2) n num)) ++ X) H locs := hw.to (congrArg (fun g => stW G a (sR S 2 g) ++ X) (rset_nI (by omega) (by decide)))
  refine lv_aload_n C.1 C.2.1 dX1_enter_12 rfl (lv_at hl 0 rfl) ?_
  refine r_get C hw 6 rfl rfl in_X1 1 (by decide) fl_X1_20 rfl (v := .ref (a 9)) rfl dX1_enter_13 ?_
  refine lv_aload_n C.1 C.2.1 dX1_enter_16 rfl (lv_at hl 0 rfl) ?_
  refine r_get C hw 6 rfl rfl in_X1 6 (by decide) fl_X1_35 rfl (v := .int (S.1 1)) rfl dX1_enter_17 ?_
  refine r_toe (show _ = nI n from hc) ?_
  refine lv_iload_n C.1 C.2.1 dX1_enter_20 rfl (lv_at hl 2 rfl) ?_
  refine r_vv C hw (k7_set hF (strow_3 G a (sR S 2 (upd (S.2.1 2) n num)) X) (by decide) (strow_e G a (sR S 2 (upd (S.2.1 2) n num)) X 3) (nI n) st) ml_X1_43 yf_X7_set 9 rfl rfl (As := [.int (nI n), .int st]) rfl rfl ⟨Nat.le_of_ble_eq_true rfl, Nat.le_of_ble_eq_true rfl⟩ ⟨Nat.le_of_ble_eq_true rfl, Nat.le_of_ble_eq_true rfl⟩ hl.1 (Nat.le_of_ble_eq_true rfl) dX1_enter_21 (fun _ H locs hp_21 hw => ?_)
  replace hw : WH G s (stW G a (sR (sR S 2 (upd (S.2.1 2) n num)) 3 (upd (S.2.1 3) n st)) ++ X) H locs := hw.to (congrArg (fun g => stW G a (sR (sR S 2 (upd (S.2.1 2) n num)) 3 g) ++ X) (rset_nI (by omega) (by decide)))
  refine lv_aload_n C.1 C.2.1 dX1_enter_24 rfl (lv_at hl 0 rfl) ?_
  refine r_get C hw 6 rfl rfl in_X1 2 (by decide) fl_X1_23 rfl (v := .ref (a 11)) rfl dX1_enter_25 ?_
  refine lv_aload_n C.1 C.2.1 dX1_enter_28 rfl (lv_at hl 0 rfl) ?_
  refine r_get C hw 6 rfl rfl in_X1 6 (by decide) fl_X1_35 rfl (v := .int (S.1 1)) rfl dX1_enter_29 ?_
  refine r_toe (show _ = nI n from hc) ?_
  refine lv_iload_n C.1 C.2.1 dX1_enter_32 rfl (lv_at hl 3 rfl) ?_
  refine lv_if_eq (tgt := 40) C.1 C.2.1 dX1_enter_33 (by decide) (fun c_33 => ?_) (fun c_33 => ?_)
  · obtain rfl : b = false := bI_eq0.mp c_33
    refine lv_iconst (v := 0) C.1 C.2.1 dX1_enter_40 (by decide) ?_
    refine r_vv C hw (k7_set hF (strow_4 G a (sR (sR S 2 (upd (S.2.1 2) n num)) 3 (upd (S.2.1 3) n st)) X) (by decide) (strow_e G a (sR (sR S 2 (upd (S.2.1 2) n num)) 3 (upd (S.2.1 3) n st)) X 4) (nI n) 0) ml_X1_43 yf_X7_set 11 rfl rfl (As := [.int (nI n), .int 0]) rfl rfl ⟨Nat.le_of_ble_eq_true rfl, Nat.le_of_ble_eq_true rfl⟩ ⟨Nat.le_of_ble_eq_true rfl, Nat.le_of_ble_eq_true rfl⟩ hl.1 (Nat.le_of_ble_eq_true rfl) dX1_enter_41 (fun _ H locs hp_41 hw => ?_)
    replace hw : WH G s (stW G a (sR (sR (sR S 2 (upd (S.2.1 2) n num)) 3 (upd (S.2.1 3) n st)) 4 (upd (S.2.1 4) n 0)) ++ X) H locs := hw.to (congrArg (fun g => stW G a (sR (sR (sR S 2 (upd (S.2.1 2) n num)) 3 (upd (S.2.1 3) n st)) 4 g) ++ X) (rset_nI (by omega) (by decide)))
    refine lv_aload_n C.1 C.2.1 dX1_enter_44 rfl (lv_at hl 0 rfl) ?_
    refine r_get C hw 6 rfl rfl in_X1 3 (by decide) fl_X1_26 rfl (v := .ref (a 13)) rfl dX1_enter_45 ?_
    refine lv_aload_n C.1 C.2.1 dX1_enter_48 rfl (lv_at hl 0 rfl) ?_
    refine r_get C hw 6 rfl rfl in_X1 6 (by decide) fl_X1_35 rfl (v := .int (S.1 1)) rfl dX1_enter_49 ?_
    refine r_toe (show _ = nI n from hc) ?_
    refine lv_iload C.1 C.2.1 dX1_enter_52 (lv_at hl 4 rfl) ?_
    refine r_vv C hw (k7_set hF (strow_5 G a (sR (sR (sR S 2 (upd (S.2.1 2) n num)) 3 (upd (S.2.1 3) n st)) 4 (upd (S.2.1 4) n 0)) X) (by decide) (strow_e G a (sR (sR (sR S 2 (upd (S.2.1 2) n num)) 3 (upd (S.2.1 3) n st)) 4 (upd (S.2.1 4) n 0)) X 5) (nI n) pr) ml_X1_43 yf_X7_set 13 rfl rfl (As := [.int (nI n), .int pr]) rfl rfl ⟨Nat.le_of_ble_eq_true rfl, Nat.le_of_ble_eq_true rfl⟩ ⟨Nat.le_of_ble_eq_true rfl, Nat.le_of_ble_eq_true rfl⟩ hl.1 (Nat.le_of_ble_eq_true rfl) dX1_enter_54 (fun _ H locs hp_54 hw => ?_)
    replace hw : WH G s (stW G a (sR (sR (sR (sR S 2 (upd (S.2.1 2) n num)) 3 (upd (S.2.1 3) n st)) 4 (upd (S.2.1 4) n 0)) 5 (upd (S.2.1 5) n pr)) ++ X) H locs := hw.to (congrArg (fun g => stW G a (sR (sR (sR (sR S 2 (upd (S.2.1 2) n num)) 3 (upd (S.2.1 3) n st)) 4 (upd (S.2.1 4) n 0)) 5 g) ++ X) (rset_nI (by omega) (by decide)))
    refine lv_aload_n C.1 C.2.1 dX1_enter_57 rfl (lv_at hl 0 rfl) ?_
    refine r_get C hw 6 rfl rfl in_X1 4 (by decide) fl_X1_29 rfl (v := .ref (a 15)) rfl dX1_enter_58 ?_
    refine lv_aload_n C.1 C.2.1 dX1_enter_61 rfl (lv_at hl 0 rfl) ?_
    refine r_get C hw 6 rfl rfl in_X1 6 (by decide) fl_X1_35 rfl (v := .int (S.1 1)) rfl dX1_enter_62 ?_
    refine r_toe (show _ = nI n from hc) ?_
    refine lv_iload C.1 C.2.1 dX1_enter_65 (lv_at hl 5 rfl) ?_
    refine r_vv C hw (k7_set hF (strow_6 G a (sR (sR (sR (sR S 2 (upd (S.2.1 2) n num)) 3 (upd (S.2.1 3) n st)) 4 (upd (S.2.1 4) n 0)) 5 (upd (S.2.1 5) n pr)) X) (by decide) (strow_e G a (sR (sR (sR (sR S 2 (upd (S.2.1 2) n num)) 3 (upd (S.2.1 3) n st)) 4 (upd (S.2.1 4) n 0)) 5 (upd (S.2.1 5) n pr)) X 6) (nI n) q) ml_X1_43 yf_X7_set 15 rfl rfl (As := [.int (nI n), .int q]) rfl rfl ⟨Nat.le_of_ble_eq_true rfl, Nat.le_of_ble_eq_true rfl⟩ ⟨Nat.le_of_ble_eq_true rfl, Nat.le_of_ble_eq_true rfl⟩ hl.1 (Nat.le_of_ble_eq_true rfl) dX1_enter_67 (fun _ H locs hp_67 hw => ?_)
    replace hw : WH G s (stW G a (sR (sR (sR (sR (sR S 2 (upd (S.2.1 2) n num)) 3 (upd (S.2.1 3) n st)) 4 (upd (S.2.1 4) n 0)) 5 (upd (S.2.1 5) n pr)) 6 (upd (S.2.1 6) n q)) ++ X) H locs := hw.to (congrArg (fun g => stW G a (sR (sR (sR (sR (sR S 2 (upd (S.2.1 2) n num)) 3 (upd (S.2.1 3) n st)) 4 (upd (S.2.1 4) n 0)) 5 (upd (S.2.1 5) n pr)) 6 g) ++ X) (rset_nI (by omega) (by decide)))
    refine lv_aload_n C.1 C.2.1 dX1_enter_70 rfl (lv_at hl 0 rfl) ?_
    refine r_get C hw 6 rfl rfl in_X1 5 (by decide) fl_X1_32 rfl (v := .ref (a 17)) rfl dX1_enter_71 ?_
    refine lv_aload_n C.1 C.2.1 dX1_enter_74 rfl (lv_at hl 0 rfl) ?_
    refine r_get C hw 6 rfl rfl in_X1 6 (by decide) fl_X1_35 rfl (v := .int (S.1 1)) rfl dX1_enter_75 ?_
    refine r_toe (show _ = nI n from hc) ?_
    refine lv_iload C.1 C.2.1 dX1_enter_78 (lv_at hl 6 rfl) ?_
    refine r_vv C hw (k7_set hF (strow_7 G a (sR (sR (sR (sR (sR S 2 (upd (S.2.1 2) n num)) 3 (upd (S.2.1 3) n st)) 4 (upd (S.2.1 4) n 0)) 5 (upd (S.2.1 5) n pr)) 6 (upd (S.2.1 6) n q)) X) (by decide) (strow_e G a (sR (sR (sR (sR (sR S 2 (upd (S.2.1 2) n num)) 3 (upd (S.2.1 3) n st)) 4 (upd (S.2.1 4) n 0)) 5 (upd (S.2.1 5) n pr)) 6 (upd (S.2.1 6) n q)) X 7) (nI n) mi) ml_X1_43 yf_X7_set 17 rfl rfl (As := [.int (nI n), .int mi]) rfl rfl ⟨Nat.le_of_ble_eq_true rfl, Nat.le_of_ble_eq_true rfl⟩ ⟨Nat.le_of_ble_eq_true rfl, Nat.le_of_ble_eq_true rfl⟩ hl.1 (Nat.le_of_ble_eq_true rfl) dX1_enter_80 (fun _ H locs hp_80 hw => ?_)
    replace hw : WH G s (stW G a (sR (sR (sR (sR (sR (sR S 2 (upd (S.2.1 2) n num)) 3 (upd (S.2.1 3) n st)) 4 (upd (S.2.1 4) n 0)) 5 (upd (S.2.1 5) n pr)) 6 (upd (S.2.1 6) n q)) 7 (upd (S.2.1 7) n mi)) ++ X) H locs := hw.to (congrArg (fun g => stW G a (sR (sR (sR (sR (sR (sR S 2 (upd (S.2.1 2) n num)) 3 (upd (S.2.1 3) n st)) 4 (upd (S.2.1 4) n 0)) 5 (upd (S.2.1 5) n pr)) 6 (upd (S.2.1 6) n q)) 7 g) ++ X) (rset_nI (by omega) (by decide)))
    refine lv_aload_n C.1 C.2.1 dX1_enter_83 rfl (lv_at hl 0 rfl) ?_
    refine lv_dup C.1 C.2.1 dX1_enter_84 rfl ?_
    refine r_get C hw 6 rfl rfl in_X1 6 (by decide) fl_X1_35 rfl (v := .int (S.1 1)) rfl dX1_enter_85 ?_
    refine r_toe (show _ = nI n from hc) ?_
    refine lv_iconst (v := 1) C.1 C.2.1 dX1_enter_88 (by decide) ?_
    refine lv_iadd C.1 C.2.1 dX1_enter_89 ?_
    refine r_toe (show _ = nI (n + 1) from nI_1 n) ?_
    refine r_put C hw 6 rfl rfl in_X1 tyX1 tyX1_ok nmX1 6 (by decide) fl_X1_35 rfl rfl rfl rfl (Nat.le_of_ble_eq_true rfl) (w' := stW G a (sI (sR (sR (sR (sR (sR (sR S 2 (upd (S.2.1 2) n num)) 3 (upd (S.2.1 3) n st)) 4 (upd (S.2.1 4) n 0)) 5 (upd (S.2.1 5) n pr)) 6 (upd (S.2.1 6) n q)) 7 (upd (S.2.1 7) n mi)) 1 (nI (n + 1))) ++ X) rfl dX1_enter_90 (fun H locs hw => ?_)
    exact r_vret C hw rfl () (trivial) rfl (Nat.le_of_ble_eq_true rfl) (Nat.le_of_ble_eq_true rfl) dX1_enter_93
  · obtain rfl : b = true := bI_ne0.mp c_33
    refine lv_iconst (v := 1) C.1 C.2.1 dX1_enter_36 (by decide) ?_
    refine lv_goto (tgt := 41) C.1 C.2.1 dX1_enter_37 (by decide) ?_
    refine r_vv C hw (k7_set hF (strow_4 G a (sR (sR S 2 (upd (S.2.1 2) n num)) 3 (upd (S.2.1 3) n st)) X) (by decide) (strow_e G a (sR (sR S 2 (upd (S.2.1 2) n num)) 3 (upd (S.2.1 3) n st)) X 4) (nI n) 1) ml_X1_43 yf_X7_set 11 rfl rfl (As := [.int (nI n), .int 1]) rfl rfl ⟨Nat.le_of_ble_eq_true rfl, Nat.le_of_ble_eq_true rfl⟩ ⟨Nat.le_of_ble_eq_true rfl, Nat.le_of_ble_eq_true rfl⟩ hl.1 (Nat.le_of_ble_eq_true rfl) dX1_enter_41 (fun _ H locs hp_41 hw => ?_)
    replace hw : WH G s (stW G a (sR (sR (sR S 2 (upd (S.2.1 2) n num)) 3 (upd (S.2.1 3) n st)) 4 (upd (S.2.1 4) n 1)) ++ X) H locs := hw.to (congrArg (fun g => stW G a (sR (sR (sR S 2 (upd (S.2.1 2) n num)) 3 (upd (S.2.1 3) n st)) 4 g) ++ X) (rset_nI (by omega) (by decide)))
    refine lv_aload_n C.1 C.2.1 dX1_enter_44 rfl (lv_at hl 0 rfl) ?_
    refine r_get C hw 6 rfl rfl in_X1 3 (by decide) fl_X1_26 rfl (v := .ref (a 13)) rfl dX1_enter_45 ?_
    refine lv_aload_n C.1 C.2.1 dX1_enter_48 rfl (lv_at hl 0 rfl) ?_
    refine r_get C hw 6 rfl rfl in_X1 6 (by decide) fl_X1_35 rfl (v := .int (S.1 1)) rfl dX1_enter_49 ?_
    refine r_toe (show _ = nI n from hc) ?_
    refine lv_iload C.1 C.2.1 dX1_enter_52 (lv_at hl 4 rfl) ?_
    refine r_vv C hw (k7_set hF (strow_5 G a (sR (sR (sR S 2 (upd (S.2.1 2) n num)) 3 (upd (S.2.1 3) n st)) 4 (upd (S.2.1 4) n 1)) X) (by decide) (strow_e G a (sR (sR (sR S 2 (upd (S.2.1 2) n num)) 3 (upd (S.2.1 3) n st)) 4 (upd (S.2.1 4) n 1)) X 5) (nI n) pr) ml_X1_43 yf_X7_set 13 rfl rfl (As := [.int (nI n), .int pr]) rfl rfl ⟨Nat.le_of_ble_eq_true rfl, Nat.le_of_ble_eq_true rfl⟩ ⟨Nat.le_of_ble_eq_true rfl, Nat.le_of_ble_eq_true rfl⟩ hl.1 (Nat.le_of_ble_eq_true rfl) dX1_enter_54 (fun _ H locs hp_54 hw => ?_)
    replace hw : WH G s (stW G a (sR (sR (sR (sR S 2 (upd (S.2.1 2) n num)) 3 (upd (S.2.1 3) n st)) 4 (upd (S.2.1 4) n 1)) 5 (upd (S.2.1 5) n pr)) ++ X) H locs := hw.to (congrArg (fun g => stW G a (sR (sR (sR (sR S 2 (upd (S.2.1 2) n num)) 3 (upd (S.2.1 3) n st)) 4 (upd (S.2.1 4) n 1)) 5 g) ++ X) (rset_nI (by omega) (by decide)))
    refine lv_aload_n C.1 C.2.1 dX1_enter_57 rfl (lv_at hl 0 rfl) ?_
    refine r_get C hw 6 rfl rfl in_X1 4 (by decide) fl_X1_29 rfl (v := .ref (a 15)) rfl dX1_enter_58 ?_
    refine lv_aload_n C.1 C.2.1 dX1_enter_61 rfl (lv_at hl 0 rfl) ?_
    refine r_get C hw 6 rfl rfl in_X1 6 (by decide) fl_X1_35 rfl (v := .int (S.1 1)) rfl dX1_enter_62 ?_
    refine r_toe (show _ = nI n from hc) ?_
    refine lv_iload C.1 C.2.1 dX1_enter_65 (lv_at hl 5 rfl) ?_
    refine r_vv C hw (k7_set hF (strow_6 G a (sR (sR (sR (sR S 2 (upd (S.2.1 2) n num)) 3 (upd (S.2.1 3) n st)) 4 (upd (S.2.1 4) n 1)) 5 (upd (S.2.1 5) n pr)) X) (by decide) (strow_e G a (sR (sR (sR (sR S 2 (upd (S.2.1 2) n num)) 3 (upd (S.2.1 3) n st)) 4 (upd (S.2.1 4) n 1)) 5 (upd (S.2.1 5) n pr)) X 6) (nI n) q) ml_X1_43 yf_X7_set 15 rfl rfl (As := [.int (nI n), .int q]) rfl rfl ⟨Nat.le_of_ble_eq_true rfl, Nat.le_of_ble_eq_true rfl⟩ ⟨Nat.le_of_ble_eq_true rfl, Nat.le_of_ble_eq_true rfl⟩ hl.1 (Nat.le_of_ble_eq_true rfl) dX1_enter_67 (fun _ H locs hp_67 hw => ?_)
    replace hw : WH G s (stW G a (sR (sR (sR (sR (sR S 2 (upd (S.2.1 2) n num)) 3 (upd (S.2.1 3) n st)) 4 (upd (S.2.1 4) n 1)) 5 (upd (S.2.1 5) n pr)) 6 (upd (S.2.1 6) n q)) ++ X) H locs := hw.to (congrArg (fun g => stW G a (sR (sR (sR (sR (sR S 2 (upd (S.2.1 2) n num)) 3 (upd (S.2.1 3) n st)) 4 (upd (S.2.1 4) n 1)) 5 (upd (S.2.1 5) n pr)) 6 g) ++ X) (rset_nI (by omega) (by decide)))
    refine lv_aload_n C.1 C.2.1 dX1_enter_70 rfl (lv_at hl 0 rfl) ?_
    refine r_get C hw 6 rfl rfl in_X1 5 (by decide) fl_X1_32 rfl (v := .ref (a 17)) rfl dX1_enter_71 ?_
    refine lv_aload_n C.1 C.2.1 dX1_enter_74 rfl (lv_at hl 0 rfl) ?_
    refine r_get C hw 6 rfl rfl in_X1 6 (by decide) fl_X1_35 rfl (v := .int (S.1 1)) rfl dX1_enter_75 ?_
    refine r_toe (show _ = nI n from hc) ?_
    refine lv_iload C.1 C.2.1 dX1_enter_78 (lv_at hl 6 rfl) ?_
    refine r_vv C hw (k7_set hF (strow_7 G a (sR (sR (sR (sR (sR S 2 (upd (S.2.1 2) n num)) 3 (upd (S.2.1 3) n st)) 4 (upd (S.2.1 4) n 1)) 5 (upd (S.2.1 5) n pr)) 6 (upd (S.2.1 6) n q)) X) (by decide) (strow_e G a (sR (sR (sR (sR (sR S 2 (upd (S.2.1 2) n num)) 3 (upd (S.2.1 3) n st)) 4 (upd (S.2.1 4) n 1)) 5 (upd (S.2.1 5) n pr)) 6 (upd (S.2.1 6) n q)) X 7) (nI n) mi) ml_X1_43 yf_X7_set 17 rfl rfl (As := [.int (nI n), .int mi]) rfl rfl ⟨Nat.le_of_ble_eq_true rfl, Nat.le_of_ble_eq_true rfl⟩ ⟨Nat.le_of_ble_eq_true rfl, Nat.le_of_ble_eq_true rfl⟩ hl.1 (Nat.le_of_ble_eq_true rfl) dX1_enter_80 (fun _ H locs hp_80 hw => ?_)
    replace hw : WH G s (stW G a (sR (sR (sR (sR (sR (sR S 2 (upd (S.2.1 2) n num)) 3 (upd (S.2.1 3) n st)) 4 (upd (S.2.1 4) n 1)) 5 (upd (S.2.1 5) n pr)) 6 (upd (S.2.1 6) n q)) 7 (upd (S.2.1 7) n mi)) ++ X) H locs := hw.to (congrArg (fun g => stW G a (sR (sR (sR (sR (sR (sR S 2 (upd (S.2.1 2) n num)) 3 (upd (S.2.1 3) n st)) 4 (upd (S.2.1 4) n 1)) 5 (upd (S.2.1 5) n pr)) 6 (upd (S.2.1 6) n q)) 7 g) ++ X) (rset_nI (by omega) (by decide)))
    refine lv_aload_n C.1 C.2.1 dX1_enter_83 rfl (lv_at hl 0 rfl) ?_
    refine lv_dup C.1 C.2.1 dX1_enter_84 rfl ?_
    refine r_get C hw 6 rfl rfl in_X1 6 (by decide) fl_X1_35 rfl (v := .int (S.1 1)) rfl dX1_enter_85 ?_
    refine r_toe (show _ = nI n from hc) ?_
    refine lv_iconst (v := 1) C.1 C.2.1 dX1_enter_88 (by decide) ?_
    refine lv_iadd C.1 C.2.1 dX1_enter_89 ?_
    refine r_toe (show _ = nI (n + 1) from nI_1 n) ?_
    refine r_put C hw 6 rfl rfl in_X1 tyX1 tyX1_ok nmX1 6 (by decide) fl_X1_35 rfl rfl rfl rfl (Nat.le_of_ble_eq_true rfl) (w' := stW G a (sI (sR (sR (sR (sR (sR (sR S 2 (upd (S.2.1 2) n num)) 3 (upd (S.2.1 3) n st)) 4 (upd (S.2.1 4) n 1)) 5 (upd (S.2.1 5) n pr)) 6 (upd (S.2.1 6) n q)) 7 (upd (S.2.1 7) n mi)) 1 (nI (n + 1))) ++ X) rfl dX1_enter_90 (fun H locs hw => ?_)
    exact r_vret C hw rfl () (trivial) rfl (Nat.le_of_ble_eq_true rfl) (Nat.le_of_ble_eq_true rfl) dX1_enter_93

set_option maxHeartbeats 4000000 in
set_option maxRecDepth 100000 in
theorem k1_remove {l : Launch} {G : Gx} (hF : SF l G) {a : Nat → Nat} {S : SV} {X : va_W} {n : Nat} (hc : S.1 1 = nI n) (hn : n ≤ 20) {j : Nat} (hj : j < n) : MV l G yX1_remove cX1_remove 2 1 0 0 [.ref (a 6), .int (nI j)] (stW G a S ++ X) (fun _ => True) (fun _ : Unit => stW G a (rmS S n j) ++ X) := by
  refine mt_of hF (by decide) (Nat.le_of_ble_eq_true rfl) ?_
  intro p e s m below meth c C hin ls hl H locs hw
  have hl : lv_has ls 2 [(0, .ref (a 6)), (1, .int (nI j))] := hl
  refine lv_aload_n C.1 C.2.1 dX1_remove_0 rfl (lv_at hl 0 rfl) ?_
  refine r_get C hw 6 rfl rfl in_X1 0 (by decide) fl_X1_14 rfl (v := .ref (a 7)) rfl dX1_remove_1 ?_
  refine lv_iload_n C.1 C.2.1 dX1_remove_4 rfl (lv_at hl 1 rfl) ?_
  refine r_vv C hw (k7_closeGap hF (strow_2 G a S X) (by decide) (show j < 20 by omega) (strow_e G a S X 2)) ml_X1_47 yf_X7_closeGap 7 rfl rfl (As := [.int (nI j)]) rfl rfl ⟨Nat.le_of_ble_eq_true rfl, Nat.le_of_ble_eq_true rfl⟩ ⟨Nat.le_of_ble_eq_true rfl, Nat.le_of_ble_eq_true rfl⟩ hl.1 (Nat.le_of_ble_eq_true rfl) dX1_remove_5 (fun _ H locs hp_5 hw => ?_)
  replace hw : WH G s (stW G a (sR S 2 (rgap 20 (S.2.1 2) j)) ++ X) H locs := hw
  refine lv_aload_n C.1 C.2.1 dX1_remove_8 rfl (lv_at hl 0 rfl) ?_
  refine r_get C hw 6 rfl rfl in_X1 1 (by decide) fl_X1_20 rfl (v := .ref (a 9)) rfl dX1_remove_9 ?_
  refine lv_iload_n C.1 C.2.1 dX1_remove_12 rfl (lv_at hl 1 rfl) ?_
  refine r_vv C hw (k7_closeGap hF (strow_3 G a (sR S 2 (rgap 20 (S.2.1 2) j)) X) (by decide) (show j < 20 by omega) (strow_e G a (sR S 2 (rgap 20 (S.2.1 2) j)) X 3)) ml_X1_47 yf_X7_closeGap 9 rfl rfl (As := [.int (nI j)]) rfl rfl ⟨Nat.le_of_ble_eq_true rfl, Nat.le_of_ble_eq_true rfl⟩ ⟨Nat.le_of_ble_eq_true rfl, Nat.le_of_ble_eq_true rfl⟩ hl.1 (Nat.le_of_ble_eq_true rfl) dX1_remove_13 (fun _ H locs hp_13 hw => ?_)
  replace hw : WH G s (stW G a (sR (sR S 2 (rgap 20 (S.2.1 2) j)) 3 (rgap 20 (S.2.1 3) j)) ++ X) H locs := hw
  refine lv_aload_n C.1 C.2.1 dX1_remove_16 rfl (lv_at hl 0 rfl) ?_
  refine r_get C hw 6 rfl rfl in_X1 2 (by decide) fl_X1_23 rfl (v := .ref (a 11)) rfl dX1_remove_17 ?_
  refine lv_iload_n C.1 C.2.1 dX1_remove_20 rfl (lv_at hl 1 rfl) ?_
  refine r_vv C hw (k7_closeGap hF (strow_4 G a (sR (sR S 2 (rgap 20 (S.2.1 2) j)) 3 (rgap 20 (S.2.1 3) j)) X) (by decide) (show j < 20 by omega) (strow_e G a (sR (sR S 2 (rgap 20 (S.2.1 2) j)) 3 (rgap 20 (S.2.1 3) j)) X 4)) ml_X1_47 yf_X7_closeGap 11 rfl rfl (As := [.int (nI j)]) rfl rfl ⟨Nat.le_of_ble_eq_true rfl, Nat.le_of_ble_eq_true rfl⟩ ⟨Nat.le_of_ble_eq_true rfl, Nat.le_of_ble_eq_true rfl⟩ hl.1 (Nat.le_of_ble_eq_true rfl) dX1_remove_21 (fun _ H locs hp_21 hw => ?_)
  replace hw : WH G s (stW G a (sR (sR (sR S 2 (rgap 20 (S.2.1 2) j)) 3 (rgap 20 (S.2.1 3) j)) 4 (rgap 20 (S.2.1 4) j)) ++ X) H locs := hw
  refine lv_aload_n C.1 C.2.1 dX1_remove_24 rfl (lv_at hl 0 rfl) ?_
  refine r_get C hw 6 rfl rfl in_X1 3 (by decide) fl_X1_26 rfl (v := .ref (a 13)) rfl dX1_remove_25 ?_
  refine lv_iload_n C.1 C.2.1 dX1_remove_28 rfl (lv_at hl 1 rfl) ?_
  refine r_vv C hw (k7_closeGap hF (strow_5 G a (sR (sR (sR S 2 (rgap 20 (S.2.1 2) j)) 3 (rgap 20 (S.2.1 3) j)) 4 (rgap 20 (S.2.1 4) j)) X) (by decide) (show j < 20 by omega) (strow_e G a (sR (sR (sR S 2 (rgap 20 (S.2.1 2) j)) 3 (rgap 20 (S.2.1 3) j)) 4 (rgap 20 (S.2.1 4) j)) X 5)) ml_X1_47 yf_X7_closeGap 13 rfl rfl (As := [.int (nI j)]) rfl rfl ⟨Nat.le_of_ble_eq_true rfl, Nat.le_of_ble_eq_true rfl⟩ ⟨Nat.le_of_ble_eq_true rfl, Nat.le_of_ble_eq_true rfl⟩ hl.1 (Nat.le_of_ble_eq_true rfl) dX1_remove_29 (fun _ H locs hp_29 hw => ?_)
  replace hw : WH G s (stW G a (sR (sR (sR (sR S 2 (rgap 20 (S.2.1 2) j)) 3 (rgap 20 (S.2.1 3) j)) 4 (rgap 20 (S.2.1 4) j)) 5 (rgap 20 (S.2.1 5) j)) ++ X) H locs := hw
  refine lv_aload_n C.1 C.2.1 dX1_remove_32 rfl (lv_at hl 0 rfl) ?_
  refine r_get C hw 6 rfl rfl in_X1 4 (by decide) fl_X1_29 rfl (v := .ref (a 15)) rfl dX1_remove_33 ?_
  refine lv_iload_n C.1 C.2.1 dX1_remove_36 rfl (lv_at hl 1 rfl) ?_
  refine r_vv C hw (k7_closeGap hF (strow_6 G a (sR (sR (sR (sR S 2 (rgap 20 (S.2.1 2) j)) 3 (rgap 20 (S.2.1 3) j)) 4 (rgap 20 (S.2.1 4) j)) 5 (rgap 20 (S.2.1 5) j)) X) (by decide) (show j < 20 by omega) (strow_e G a (sR (sR (sR (sR S 2 (rgap 20 (S.2.1 2) j)) 3 (rgap 20 (S.2.1 3) j)) 4 (rgap 20 (S.2.1 4) j)) 5 (rgap 20 (S.2.1 5) j)) X 6)) ml_X1_47 yf_X7_closeGap 15 rfl rfl (As := [.int (nI j)]) rfl rfl ⟨Nat.le_of_ble_eq_true rfl, Nat.le_of_ble_eq_true rfl⟩ ⟨Nat.le_of_ble_eq_true rfl, Nat.le_of_ble_eq_true rfl⟩ hl.1 (Nat.le_of_ble_eq_true rfl) dX1_remove_37 (fun _ H locs hp_37 hw => ?_)
  replace hw : WH G s (stW G a (sR (sR (sR (sR (sR S 2 (rgap 20 (S.2.1 2) j)) 3 (rgap 20 (S.2.1 3) j)) 4 (rgap 20 (S.2.1 4) j)) 5 (rgap 20 (S.2.1 5) j)) 6 (rgap 20 (S.2.1 6) j)) ++ X) H locs := hw
  refine lv_aload_n C.1 C.2.1 dX1_remove_40 rfl (lv_at hl 0 rfl) ?_
  refine r_get C hw 6 rfl rfl in_X1 5 (by decide) fl_X1_32 rfl (v := .ref (a 17)) rfl dX1_remove_41 ?_
  refine lv_iload_n C.1 C.2.1 dX1_remove_44 rfl (lv_at hl 1 rfl) ?_
  refine r_vv C hw (k7_closeGap hF (strow_7 G a (sR (sR (sR (sR (sR S 2 (rgap 20 (S.2.1 2) j)) 3 (rgap 20 (S.2.1 3) j)) 4 (rgap 20 (S.2.1 4) j)) 5 (rgap 20 (S.2.1 5) j)) 6 (rgap 20 (S.2.1 6) j)) X) (by decide) (show j < 20 by omega) (strow_e G a (sR (sR (sR (sR (sR S 2 (rgap 20 (S.2.1 2) j)) 3 (rgap 20 (S.2.1 3) j)) 4 (rgap 20 (S.2.1 4) j)) 5 (rgap 20 (S.2.1 5) j)) 6 (rgap 20 (S.2.1 6) j)) X 7)) ml_X1_47 yf_X7_closeGap 17 rfl rfl (As := [.int (nI j)]) rfl rfl ⟨Nat.le_of_ble_eq_true rfl, Nat.le_of_ble_eq_true rfl⟩ ⟨Nat.le_of_ble_eq_true rfl, Nat.le_of_ble_eq_true rfl⟩ hl.1 (Nat.le_of_ble_eq_true rfl) dX1_remove_45 (fun _ H locs hp_45 hw => ?_)
  replace hw : WH G s (stW G a (sR (sR (sR (sR (sR (sR S 2 (rgap 20 (S.2.1 2) j)) 3 (rgap 20 (S.2.1 3) j)) 4 (rgap 20 (S.2.1 4) j)) 5 (rgap 20 (S.2.1 5) j)) 6 (rgap 20 (S.2.1 6) j)) 7 (rgap 20 (S.2.1 7) j)) ++ X) H locs := hw
  refine lv_aload_n C.1 C.2.1 dX1_remove_48 rfl (lv_at hl 0 rfl) ?_
  refine lv_dup C.1 C.2.1 dX1_remove_49 rfl ?_
  refine r_get C hw 6 rfl rfl in_X1 6 (by decide) fl_X1_35 rfl (v := .int (S.1 1)) rfl dX1_remove_50 ?_
  refine r_toe (show _ = nI n from hc) ?_
  refine lv_iconst (v := 1) C.1 C.2.1 dX1_remove_53 (by decide) ?_
  refine lv_isub C.1 C.2.1 dX1_remove_54 ?_
  refine r_toe (show _ = nI (n - 1) from nI_p1 (by omega)) ?_
  refine r_put C hw 6 rfl rfl in_X1 tyX1 tyX1_ok nmX1 6 (by decide) fl_X1_35 rfl rfl rfl rfl (Nat.le_of_ble_eq_true rfl) (w' := stW G a (sI (sR (sR (sR (sR (sR (sR S 2 (rgap 20 (S.2.1 2) j)) 3 (rgap 20 (S.2.1 3) j)) 4 (rgap 20 (S.2.1 4) j)) 5 (rgap 20 (S.2.1 5) j)) 6 (rgap 20 (S.2.1 6) j)) 7 (rgap 20 (S.2.1 7) j)) 1 (nI (n - 1))) ++ X) rfl dX1_remove_55 (fun H locs hw => ?_)
  exact r_vret C hw rfl () (trivial) rfl (Nat.le_of_ble_eq_true rfl) (Nat.le_of_ble_eq_true rfl) dX1_remove_58

set_option maxHeartbeats 4000000 in
set_option maxRecDepth 100000 in
theorem k1_reduce {l : Launch} {G : Gx} (hF : SF l G) {a : Nat → Nat} {S : SV} {X : va_W} {n : Nat} (hc : S.1 1 = nI n) (hn : n ≤ 20) {j : Nat} (hj : j < n) (t : Int32) : MV l G yX1_reduce cX1_reduce 3 2 0 0 [.ref (a 6), .int (nI j), .int t] (stW G a S ++ X) (fun _ => True) (fun _ : Unit => stW G a (rdS S n j t) ++ X) := by
  refine mt_of hF (by decide) (Nat.le_of_ble_eq_true rfl) ?_
  intro p e s m below meth c C hin ls hl H locs hw
  have hl : lv_has ls 3 [(0, .ref (a 6)), (1, .int (nI j)), (2, .int t)] := hl
  refine lv_aload_n C.1 C.2.1 dX1_reduce_0 rfl (lv_at hl 0 rfl) ?_
  refine r_get C hw 6 rfl rfl in_X1 4 (by decide) fl_X1_29 rfl (v := .ref (a 15)) rfl dX1_reduce_1 ?_
  refine lv_iload_n C.1 C.2.1 dX1_reduce_4 rfl (lv_at hl 1 rfl) ?_
  refine lv_iload_n C.1 C.2.1 dX1_reduce_5 rfl (lv_at hl 2 rfl) ?_
  refine lv_ineg C.1 C.2.1 dX1_reduce_6 ?_
  refine r_vv C hw (k7_add hF (strow_6 G a S X) (by decide) (strow_e G a S X 6) (nI j) (-t)) ml_X1_50 yf_X7_add 15 rfl rfl (As := [.int (nI j), .int (-t)]) rfl rfl ⟨Nat.le_of_ble_eq_true rfl, Nat.le_of_ble_eq_true rfl⟩ ⟨Nat.le_of_ble_eq_true rfl, Nat.le_of_ble_eq_true rfl⟩ hl.1 (Nat.le_of_ble_eq_true rfl) dX1_reduce_7 (fun _ H locs hp_7 hw => ?_)
  replace hw : WH G s (stW G a (sR S 6 (upd (S.2.1 6) j ((S.2.1 6) j + (-t)))) ++ X) H locs := hw.to (congrArg (fun g => stW G a (sR S 6 g) ++ X) (radd_nI (by omega) (by decide)))
  refine lv_aload_n C.1 C.2.1 dX1_reduce_10 rfl (lv_at hl 0 rfl) ?_
  refine r_get C hw 6 rfl rfl in_X1 4 (by decide) fl_X1_29 rfl (v := .ref (a 15)) rfl dX1_reduce_11 ?_
  refine lv_iload_n C.1 C.2.1 dX1_reduce_14 rfl (lv_at hl 1 rfl) ?_
  refine r_vi C hw (k7_get hF (strow_6 G a (sR S 6 (upd (S.2.1 6) j ((S.2.1 6) j + (-t)))) X) (by decide) (strow_e G a (sR S 6 (upd (S.2.1 6) j ((S.2.1 6) j + (-t)))) X 6) (nI j)) ml_X1_39 yf_X7_get 15 rfl rfl (As := [.int (nI j)]) rfl rfl ⟨Nat.le_of_ble_eq_true rfl, Nat.le_of_ble_eq_true rfl⟩ ⟨Nat.le_of_ble_eq_true rfl, Nat.le_of_ble_eq_true rfl⟩ hl.1 (Nat.le_of_ble_eq_true rfl) dX1_reduce_15 (fun r_15 _ H locs hp_15 hw => ?_)
  obtain rfl : r_15 = ((upd (S.2.1 6) j ((S.2.1 6) j + (-t))) j) := by rw [hp_15]; exact rget_nI (by omega) (by decide)
  replace hw : WH G s (stW G a (sR S 6 (upd (S.2.1 6) j ((S.2.1 6) j + (-t)))) ++ X) H locs := hw
  refine lv_if_ne (tgt := 26) C.1 C.2.1 dX1_reduce_18 (by decide) (fun c_18 => ?_) (fun c_18 => ?_)
  · exact r_vret C hw rfl () (trivial) (by rw [rdS, if_neg c_18]; rfl) (Nat.le_of_ble_eq_true rfl) (Nat.le_of_ble_eq_true rfl) dX1_reduce_26
  · refine lv_aload_n C.1 C.2.1 dX1_reduce_21 rfl (lv_at hl 0 rfl) ?_
    refine lv_iload_n C.1 C.2.1 dX1_reduce_22 rfl (lv_at hl 1 rfl) ?_
    refine r_vv C hw (k1_remove hF (a := a) (S := (sR S 6 (upd (S.2.1 6) j ((S.2.1 6) j + (-t))))) (X := X) (n := n) hc hn (j := j) hj) ml_X1_53 yf_X1_remove 6 rfl rfl (As := [.int (nI j)]) rfl rfl ⟨Nat.le_of_ble_eq_true rfl, Nat.le_of_ble_eq_true rfl⟩ ⟨Nat.le_of_ble_eq_true rfl, Nat.le_of_ble_eq_true rfl⟩ hl.1 (Nat.le_of_ble_eq_true rfl) dX1_reduce_23 (fun _ H locs hp_23 hw => ?_)
    replace hw : WH G s (stW G a (rmS (sR S 6 (upd (S.2.1 6) j ((S.2.1 6) j + (-t)))) n j) ++ X) H locs := hw
    exact r_vret C hw rfl () (trivial) (by rw [rdS, if_pos c_18]; rfl) (Nat.le_of_ble_eq_true rfl) (Nat.le_of_ble_eq_true rfl) dX1_reduce_26

set_option maxHeartbeats 4000000 in
set_option maxRecDepth 100000 in
theorem k1_clear {l : Launch} {G : Gx} (hF : SF l G) {a : Nat → Nat} {S : SV} {X : va_W} : MV l G yX1_clear cX1_clear 1 0 0 0 [.ref (a 6)] (stW G a S ++ X) (fun _ => True) (fun _ : Unit => stW G a (sI S 1 0) ++ X) := by
  refine mt_of hF (by decide) (Nat.le_of_ble_eq_true rfl) ?_
  intro p e s m below meth c C hin ls hl H locs hw
  have hl : lv_has ls 1 [(0, .ref (a 6))] := hl
  refine lv_aload_n C.1 C.2.1 dX1_clear_0 rfl (lv_at hl 0 rfl) ?_
  refine lv_iconst (v := 0) C.1 C.2.1 dX1_clear_1 (by decide) ?_
  refine r_put C hw 6 rfl rfl in_X1 tyX1 tyX1_ok nmX1 6 (by decide) fl_X1_35 rfl rfl rfl rfl (Nat.le_of_ble_eq_true rfl) (w' := stW G a (sI S 1 0) ++ X) rfl dX1_clear_2 (fun H locs hw => ?_)
  exact r_vret C hw rfl () (trivial) rfl (Nat.le_of_ble_eq_true rfl) (Nat.le_of_ble_eq_true rfl) dX1_clear_5

set_option maxHeartbeats 4000000 in
set_option maxRecDepth 100000 in
theorem k1_isAhead {l : Launch} {G : Gx} (hF : SF l G) {a : Nat → Nat} {S : SV} {X : va_W} (b : Bool) {i j : Nat} (hi : i < 20) (hj : j < 20) : MI l G yX1_isAhead cX1_isAhead 5 .boolean 1 0 0 [.ref (a 6), .int (bI b), .int (nI i), .int (nI j)] (stW G a S ++ X) (fun x _ => x = bI (ahd S b i j)) (fun _ : Unit => stW G a S ++ X) := by
  refine mt_of hF (by decide) (Nat.le_of_ble_eq_true rfl) ?_
  intro p e s m below meth c C hin ls hl H locs hw
  have hl : lv_has ls 5 [(0, .ref (a 6)), (1, .int (bI b)), (2, .int (nI i)), (3, .int (nI j))] := hl
  refine lv_aload_n C.1 C.2.1 dX1_isAhead_0 rfl (lv_at hl 0 rfl) ?_
  refine r_get C hw 6 rfl rfl in_X1 3 (by decide) fl_X1_26 rfl (v := .ref (a 13)) rfl dX1_isAhead_1 ?_
  refine lv_iload_n C.1 C.2.1 dX1_isAhead_4 rfl (lv_at hl 2 rfl) ?_
  refine r_vi C hw (k7_get hF (strow_5 G a S X) (by decide) (strow_e G a S X 5) (nI i)) ml_X1_39 yf_X7_get 13 rfl rfl (As := [.int (nI i)]) rfl rfl ⟨Nat.le_of_ble_eq_true rfl, Nat.le_of_ble_eq_true rfl⟩ ⟨Nat.le_of_ble_eq_true rfl, Nat.le_of_ble_eq_true rfl⟩ hl.1 (Nat.le_of_ble_eq_true rfl) dX1_isAhead_5 (fun r_5 _ H locs hp_5 hw => ?_)
  obtain rfl : r_5 = ((S.2.1 5) i) := by rw [hp_5]; exact rget_nI (by omega) (by decide)
  replace hw : WH G s (stW G a S ++ X) H locs := hw
  refine lv_aload_n C.1 C.2.1 dX1_isAhead_8 rfl (lv_at hl 0 rfl) ?_
  refine r_get C hw 6 rfl rfl in_X1 3 (by decide) fl_X1_26 rfl (v := .ref (a 13)) rfl dX1_isAhead_9 ?_
  refine lv_iload_n C.1 C.2.1 dX1_isAhead_12 rfl (lv_at hl 3 rfl) ?_
  refine r_vi C hw (k7_get hF (strow_5 G a S X) (by decide) (strow_e G a S X 5) (nI j)) ml_X1_39 yf_X7_get 13 rfl rfl (As := [.int (nI j)]) rfl rfl ⟨Nat.le_of_ble_eq_true rfl, Nat.le_of_ble_eq_true rfl⟩ ⟨Nat.le_of_ble_eq_true rfl, Nat.le_of_ble_eq_true rfl⟩ hl.1 (Nat.le_of_ble_eq_true rfl) dX1_isAhead_13 (fun r_13 _ H locs hp_13 hw => ?_)
  obtain rfl : r_13 = ((S.2.1 5) j) := by rw [hp_13]; exact rget_nI (by omega) (by decide)
  replace hw : WH G s (stW G a S ++ X) H locs := hw
  refine lv_isub C.1 C.2.1 dX1_isAhead_16 ?_
  refine lv_istore (lv' := [(4, .int (((S.2.1 5) i) - ((S.2.1 5) j))), (0, .ref (a 6)), (1, .int (bI b)), (2, .int (nI i)), (3, .int (nI j))]) C.1 C.2.1 dX1_isAhead_17 hl (by decide) rfl (fun ls hl => ?_)
  refine lv_iload_n C.1 C.2.1 dX1_isAhead_19 rfl (lv_at hl 2 rfl) ?_
  refine lv_if_eq (tgt := 36) C.1 C.2.1 dX1_isAhead_20 (by decide) (fun c_20 => ?_) (fun c_20 => ?_)
  · obtain rfl : b = false := bI_eq0.mp c_20
    refine lv_iload C.1 C.2.1 dX1_isAhead_36 (lv_at hl 0 rfl) ?_
    refine lv_if_ge (tgt := 45) C.1 C.2.1 dX1_isAhead_38 (by decide) (fun c_38 => ?_) (fun c_38 => ?_)
    · refine lv_iconst (v := 0) C.1 C.2.1 dX1_isAhead_45 (by decide) ?_
      exact r_iret C hw rfl rfl () (by simp [ahd, bI, c_38]) rfl (Nat.le_of_ble_eq_true rfl) (Nat.le_of_ble_eq_true rfl) dX1_isAhead_46
    · refine lv_iconst (v := 1) C.1 C.2.1 dX1_isAhead_41 (by decide) ?_
      refine lv_goto (tgt := 46) C.1 C.2.1 dX1_isAhead_42 (by decide) ?_
      exact r_iret C hw rfl rfl () (by simp [ahd, bI, c_38]) rfl (Nat.le_of_ble_eq_true rfl) (Nat.le_of_ble_eq_true rfl) dX1_isAhead_46
  · obtain rfl : b = true := bI_ne0.mp c_20
    refine lv_iload C.1 C.2.1 dX1_isAhead_23 (lv_at hl 0 rfl) ?_
    refine lv_if_le (tgt := 32) C.1 C.2.1 dX1_isAhead_25 (by decide) (fun c_25 => ?_) (fun c_25 => ?_)
    · refine lv_iconst (v := 0) C.1 C.2.1 dX1_isAhead_32 (by decide) ?_
      refine lv_goto (tgt := 46) C.1 C.2.1 dX1_isAhead_33 (by decide) ?_
      exact r_iret C hw rfl rfl () (by simp [ahd, bI, c_25]) rfl (Nat.le_of_ble_eq_true rfl) (Nat.le_of_ble_eq_true rfl) dX1_isAhead_46
    · refine lv_iconst (v := 1) C.1 C.2.1 dX1_isAhead_28 (by decide) ?_
      refine lv_goto (tgt := 46) C.1 C.2.1 dX1_isAhead_29 (by decide) ?_
      exact r_iret C hw rfl rfl () (by simp [ahd, bI, c_25]) rfl (Nat.le_of_ble_eq_true rfl) (Nat.le_of_ble_eq_true rfl) dX1_isAhead_46

set_option maxHeartbeats 4000000 in
set_option maxRecDepth 100000 in
theorem k1_bestSlot {l : Launch} {G : Gx} (hF : SF l G) {a : Nat → Nat} {S : SV} {X : va_W} {n : Nat} (hc : S.1 1 = nI n) (hn : n ≤ 20) (b : Bool) : MI l G yX1_bestSlot cX1_bestSlot 4 .int 2 0 0 [.ref (a 6), .int (bI b)] (stW G a S ++ X) (fun r _ => r = oI (best S b n)) (fun _ : Unit => stW G a S ++ X) := by
  refine mt_of hF (by decide) (Nat.le_of_ble_eq_true rfl) ?_
  intro p e s m below meth c C hin ls hl H locs hw
  have hl : lv_has ls 4 [(0, .ref (a 6)), (1, .int (bI b))] := hl
  refine lv_iconst (v := -1) C.1 C.2.1 dX1_bestSlot_0 (by decide) ?_
  refine lv_istore_n (lv' := [(2, .int (-1)), (0, .ref (a 6)), (1, .int (bI b))]) C.1 C.2.1 dX1_bestSlot_1 rfl hl (by decide) rfl (fun ls hl => ?_)
  refine lv_iconst (v := 0) C.1 C.2.1 dX1_bestSlot_2 (by decide) ?_
  refine lv_istore_n (lv' := [(3, .int 0), (2, .int (-1)), (0, .ref (a 6)), (1, .int (bI b))]) C.1 C.2.1 dX1_bestSlot_3 rfl hl (by decide) rfl (fun ls hl => ?_)
  refine w_loop (σ := Nat × Option Nat) G (fun u ⟨k, o⟩ => k ≤ n ∧ n < k + u ∧ o = best S b k ∧ ∀ j, o = some j → j < k) (fun ⟨k, o⟩ => stW G a S ++ X) (fun ⟨k, o⟩ => 0) (fun ⟨k, o⟩ => 0) (fun ⟨k, o⟩ => [(0, .ref (a 6)), (1, .int (bI b)), (2, .int (oI o)), (3, .int (nI k))]) 4 ?_ ?_ (n + 1) (0, none) (⟨Nat.zero_le _, by omega, rfl, fun j hj => by cases hj⟩) hw (lv_sub hl [2, 3, 1, 0] rfl)
  · rintro n4 ⟨k, o⟩ ⟨h1, h2, h3, h4⟩ ih4 H locs hw ls hl
    replace hw : WH G s (stW G a S ++ X) H locs := hw
    replace hl : lv_has ls 4 [(0, .ref (a 6)), (1, .int (bI b)), (2, .int (oI o)), (3, .int (nI k))] := hl
    refine lv_iload_n C.1 C.2.1 dX1_bestSlot_4 rfl (lv_at hl 3 rfl) ?_
    refine lv_aload_n C.1 C.2.1 dX1_bestSlot_5 rfl (lv_at hl 0 rfl) ?_
    refine r_get C hw 6 rfl rfl in_X1 6 (by decide) fl_X1_35 rfl (v := .int (S.1 1)) rfl dX1_bestSlot_6 ?_
    refine r_toe (show _ = nI n from hc) ?_
    refine lv_icmp_ge (tgt := 44) C.1 C.2.1 dX1_bestSlot_9 (by decide) (fun c_9 => ?_) (fun c_9 => ?_)
    · obtain rfl := le_T h1 (by omega) c_9
      refine lv_iload_n C.1 C.2.1 dX1_bestSlot_44 rfl (lv_at hl 2 rfl) ?_
      exact r_iret C hw rfl rfl () (by rw [h3]) rfl (Nat.le_of_ble_eq_true rfl) (Nat.le_of_ble_eq_true rfl) dX1_bestSlot_45
    · have hk := le_F h1 (by omega) c_9
      refine lv_aload_n C.1 C.2.1 dX1_bestSlot_12 rfl (lv_at hl 0 rfl) ?_
      refine lv_iload_n C.1 C.2.1 dX1_bestSlot_13 rfl (lv_at hl 3 rfl) ?_
      refine r_vi C hw (k1_buys hF (a := a) (S := S) (X := X) (j := k) (by omega)) ml_X1_56 yf_X1_buys 6 rfl rfl (As := [.int (nI k)]) rfl rfl ⟨Nat.le_of_ble_eq_true rfl, Nat.le_of_ble_eq_true rfl⟩ ⟨Nat.le_of_ble_eq_true rfl, Nat.le_of_ble_eq_true rfl⟩ hl.1 (Nat.le_of_ble_eq_true rfl) dX1_bestSlot_14 (fun r_14 _ H locs hp_14 hw => ?_)
      obtain rfl : r_14 = bI (buyS S k) := hp_14
      replace hw : WH G s (stW G a S ++ X) H locs := hw
      refine lv_iload_n C.1 C.2.1 dX1_bestSlot_17 rfl (lv_at hl 1 rfl) ?_
      refine lv_icmp_ne (tgt := 38) C.1 C.2.1 dX1_bestSlot_18 (by decide) (fun c_18 => ?_) (fun c_18 => ?_)
      · have b_18 : ¬ buyS S k = b := fun h => c_18 (by rw [h])
        refine lv_iinc (v := nI (k + 1)) (lv' := [(3, .int (nI (k + 1))), (0, .ref (a 6)), (1, .int (bI b)), (2, .int (oI o))]) C.1 C.2.1 dX1_bestSlot_38 hl (k := 3) rfl (inc_nI k) (by decide) rfl (fun ls hl => ?_)
        refine lv_goto (tgt := 4) C.1 C.2.1 dX1_bestSlot_41 (by decide) ?_
        exact ih4 (k + 1, o) (⟨by omega, by omega, by rw [best_s, bstep_n b_18]; exact h3, fun q hq => by have := h4 q hq; omega⟩) _ _ hw _ (lv_sub hl [1, 2, 3, 0] rfl)
      · have b_18 : buyS S k = b := bI_inj.mp c_18
        refine lv_iload_n C.1 C.2.1 dX1_bestSlot_21 rfl (lv_at hl 2 rfl) ?_
        refine lv_iconst (v := -1) C.1 C.2.1 dX1_bestSlot_22 (by decide) ?_
        refine lv_icmp_eq (tgt := 36) C.1 C.2.1 dX1_bestSlot_23 (by decide) (fun c_23 => ?_) (fun c_23 => ?_)
        · obtain rfl : o = none := (oI_none (fun q hq => by have := h4 q hq; omega)).mp c_23
          replace hl : lv_has ls 4 [(0, .ref (a 6)), (1, .int (bI b)), (2, .int (-1)), (3, .int (nI k))] := hl
          refine lv_iload_n C.1 C.2.1 dX1_bestSlot_36 rfl (lv_at hl 3 rfl) ?_
          refine lv_istore_n (lv' := [(2, .int (nI k)), (0, .ref (a 6)), (1, .int (bI b)), (3, .int (nI k))]) C.1 C.2.1 dX1_bestSlot_37 rfl hl (by decide) rfl (fun ls hl => ?_)
          refine lv_iinc (v := nI (k + 1)) (lv' := [(3, .int (nI (k + 1))), (2, .int (nI k)), (0, .ref (a 6)), (1, .int (bI b))]) C.1 C.2.1 dX1_bestSlot_38 hl (k := 3) rfl (inc_nI k) (by decide) rfl (fun ls hl => ?_)
          refine lv_goto (tgt := 4) C.1 C.2.1 dX1_bestSlot_41 (by decide) ?_
          exact ih4 (k + 1, some k) (⟨by omega, by omega, by rw [best_s, ← h3, bstep_0 b_18], fun q hq => by cases hq; omega⟩) _ _ hw _ (lv_sub hl [2, 3, 1, 0] rfl)
        · obtain ⟨j, rfl⟩ : ∃ j, o = some j := by cases o with | none => exact absurd rfl c_23 | some j => exact ⟨j, rfl⟩
          have hj : j < k := h4 j rfl
          replace hl : lv_has ls 4 [(0, .ref (a 6)), (1, .int (bI b)), (2, .int (nI j)), (3, .int (nI k))] := hl
          refine lv_aload_n C.1 C.2.1 dX1_bestSlot_26 rfl (lv_at hl 0 rfl) ?_
          refine lv_iload_n C.1 C.2.1 dX1_bestSlot_27 rfl (lv_at hl 1 rfl) ?_
          refine lv_iload_n C.1 C.2.1 dX1_bestSlot_28 rfl (lv_at hl 3 rfl) ?_
          refine lv_iload_n C.1 C.2.1 dX1_bestSlot_29 rfl (lv_at hl 2 rfl) ?_
          refine r_vi C hw (k1_isAhead hF (a := a) (S := S) (X := X) b (i := k) (j := j) (by omega) (by omega)) ml_X1_60 yf_X1_isAhead 6 rfl rfl (As := [.int (bI b), .int (nI k), .int (nI j)]) rfl rfl ⟨Nat.le_of_ble_eq_true rfl, Nat.le_of_ble_eq_true rfl⟩ ⟨Nat.le_of_ble_eq_true rfl, Nat.le_of_ble_eq_true rfl⟩ hl.1 (Nat.le_of_ble_eq_true rfl) dX1_bestSlot_30 (fun r_30 _ H locs hp_30 hw => ?_)
          obtain rfl : r_30 = bI (ahd S b k j) := hp_30
          replace hw : WH G s (stW G a S ++ X) H locs := hw
          refine lv_if_eq (tgt := 38) C.1 C.2.1 dX1_bestSlot_33 (by decide) (fun c_33 => ?_) (fun c_33 => ?_)
          · have b_33 := bI_eq0.mp c_33
            refine lv_iinc (v := nI (k + 1)) (lv' := [(3, .int (nI (k + 1))), (0, .ref (a 6)), (1, .int (bI b)), (2, .int (nI j))]) C.1 C.2.1 dX1_bestSlot_38 hl (k := 3) rfl (inc_nI k) (by decide) rfl (fun ls hl => ?_)
            refine lv_goto (tgt := 4) C.1 C.2.1 dX1_bestSlot_41 (by decide) ?_
            exact ih4 (k + 1, some j) (⟨by omega, by omega, by rw [best_s, ← h3, bstep_f b_18 b_33], fun q hq => by cases hq; omega⟩) _ _ hw _ (lv_sub hl [1, 2, 3, 0] rfl)
          · have b_33 := bI_ne0.mp c_33
            refine lv_iload_n C.1 C.2.1 dX1_bestSlot_36 rfl (lv_at hl 3 rfl) ?_
            refine lv_istore_n (lv' := [(2, .int (nI k)), (0, .ref (a 6)), (1, .int (bI b)), (3, .int (nI k))]) C.1 C.2.1 dX1_bestSlot_37 rfl hl (by decide) rfl (fun ls hl => ?_)
            refine lv_iinc (v := nI (k + 1)) (lv' := [(3, .int (nI (k + 1))), (2, .int (nI k)), (0, .ref (a 6)), (1, .int (bI b))]) C.1 C.2.1 dX1_bestSlot_38 hl (k := 3) rfl (inc_nI k) (by decide) rfl (fun ls hl => ?_)
            refine lv_goto (tgt := 4) C.1 C.2.1 dX1_bestSlot_41 (by decide) ?_
            exact ih4 (k + 1, some k) (⟨by omega, by omega, by rw [best_s, ← h3, bstep_t b_18 b_33], fun q hq => by cases hq; omega⟩) _ _ hw _ (lv_sub hl [2, 3, 1, 0] rfl)
  · rintro ⟨k, o⟩ ⟨h1, h2, h3, h4⟩; omega

