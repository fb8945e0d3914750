/-! State: trades, orders, minutes, the pool, copies -/
def trS (S : SV) (bu se pr q : Int32) : SV := sP (sI (sI (sI (sR (sR S 0 (radd 6 (radd 6 (S.2.1 0) bu (-(pr * q))) se (pr * q))) 1 (radd 6 (radd 6 (S.2.1 1) se (-q)) bu q)) 5 pr) 6 (S.1 6 + 1)) 7 (S.1 7 + q)) (S.2.2 + (pr * q).toInt64)
theorem okS_tr {S : SV} (h : okS S) (bu se pr q : Int32) : okS (trS S bu se pr q) := h
theorem okS_set {S : SV} {n : Nat} (h : okS S) (hn : n ≤ 20) : okS (sI S 1 (nI n)) ∧ nO (sI S 1 (nI n)) = n := by
  have e : nO (sI S 1 (nI n)) = n := nO_of rfl hn
  exact ⟨⟨by rw [e]; rfl, by omega, h.2.2.1, h.2.2.2⟩, e⟩
theorem okS_rm {S : SV} (h : okS S) {j : Nat} (hj : j < nO S) : okS (rmS S (nO S) j) ∧ nO (rmS S (nO S) j) = nO S - 1 := okS_set h (by have := h.2.1; omega)
theorem okS_rd {S : SV} (h : okS S) {j : Nat} (hj : j < nO S) (t : Int32) : okS (rdS S (nO S) j t) ∧ nO (rdS S (nO S) j t) ≤ nO S ∧ nO S ≤ nO (rdS S (nO S) j t) + 1 := by
  unfold rdS
  split
  · have := okS_rm (S := subQ S j t) h hj
    exact ⟨this.1, by rw [show nO (rmS (subQ S j t) (nO S) j) = nO S - 1 from this.2]; omega, by rw [show nO (rmS (subQ S j t) (nO S) j) = nO S - 1 from this.2]; omega⟩
  · exact ⟨h, Nat.le_refl _, Nat.le_succ _⟩
def tnB (b : Bool) (pr o : Int32) : Bool := if b = true then decide (o ≤ pr) else decide (pr ≤ o)
def tnS (b : Bool) (st pr : Int32) (S : SV) (x : Int32) (j : Nat) : SV := rdS (trS S (if b = true then st else S.2.1 3 j) (if b = true then S.2.1 3 j else st) (S.2.1 5 j) (mmin x (S.2.1 6 j))) (nO S) j (mmin x (S.2.1 6 j))
/-- a new order meets the book: f meetings at most -/
def tnR (b : Bool) (st pr : Int32) : Nat → SV → Int32 → SV × Int32
  | 0, S, x => (S, x)
  | f + 1, S, x => if x ≤ 0 then (S, x) else match best S (!b) (nO S) with
    | none => (S, x)
    | some j => if tnB b pr (S.2.1 5 j) = true then tnR b st pr f (tnS b st pr S x j) (x - mmin x (S.2.1 6 j)) else (S, x)
theorem tnR_x {b : Bool} {st pr x : Int32} {S : SV} (h : x ≤ 0) : ∀ f, tnR b st pr f S x = (S, x)
  | 0 => rfl
  | f + 1 => if_pos h
theorem tnR_n {b : Bool} {st pr x : Int32} {S : SV} (h : best S (!b) (nO S) = none) : ∀ f, tnR b st pr f S x = (S, x)
  | 0 => rfl
  | f + 1 => by rw [tnR]; split; rfl; rw [h]
theorem tnR_s {b : Bool} {st pr x : Int32} {S : SV} {j : Nat} (h : best S (!b) (nO S) = some j) (hb : tnB b pr (S.2.1 5 j) = false) : ∀ f, tnR b st pr f S x = (S, x)
  | 0 => rfl
  | f + 1 => by rw [tnR]; split; rfl; rw [h]; exact if_neg (by rw [hb]; decide)
theorem tnR_g {b : Bool} {st pr x : Int32} {S : SV} {j : Nat} (hx : ¬ x ≤ 0) (h : best S (!b) (nO S) = some j) (hb : tnB b pr (S.2.1 5 j) = true) (f : Nat) : tnR b st pr (f + 1) S x = tnR b st pr f (tnS b st pr S x j) (x - mmin x (S.2.1 6 j)) := by
  rw [tnR, if_neg hx, h]
  exact if_pos hb
theorem okS_tn {b : Bool} {st pr x : Int32} {S : SV} {j : Nat} (h : okS S) (hj : j < nO S) : okS (tnS b st pr S x j) ∧ nO (tnS b st pr S x j) ≤ nO S ∧ nO S ≤ nO (tnS b st pr S x j) + 1 := okS_rd (okS_tr h _ _ _ _) hj _
theorem okS_tnR {b : Bool} {st pr : Int32} : ∀ (f : Nat) {S : SV} {x : Int32}, okS S → okS (tnR b st pr f S x).1 ∧ nO (tnR b st pr f S x).1 ≤ nO S
  | 0, S, x, h => ⟨h, Nat.le_refl _⟩
  | f + 1, S, x, h => by
    by_cases hx : x ≤ 0
    · rw [tnR_x hx]; exact ⟨h, Nat.le_refl _⟩
    · cases ho : best S (!b) (nO S) with
      | none => rw [tnR_n ho]; exact ⟨h, Nat.le_refl _⟩
      | some j =>
        cases hb : tnB b pr (S.2.1 5 j) with
        | false => rw [tnR_s ho hb]; exact ⟨h, Nat.le_refl _⟩
        | true =>
          rw [tnR_g hx ho hb]
          have h1 := okS_tn (b := b) (st := st) (pr := pr) (x := x) h (best_lt ho)
          have h2 := okS_tnR (b := b) (st := st) (pr := pr) f (x := x - mmin x (S.2.1 6 j)) h1.1
          exact ⟨h2.1, Nat.le_trans h2.2 h1.2.1⟩
/-- State.place: the orders' number grows, the order trades, what is left enters -/
def plL (S : SV) (b : Bool) (st pr q : Int32) : SV × Int32 := if S.1 2 = 0 then ((tnR b st pr 20 (sI S 4 (S.1 4 + 1)) q).1, q - (q - (tnR b st pr 20 (sI S 4 (S.1 4 + 1)) q).2)) else (sI S 4 (S.1 4 + 1), q)
def plS (S : SV) (b : Bool) (st pr q mi : Int32) : SV := if (plL S b st pr q).2 ≤ 0 then (plL S b st pr q).1 else enS (plL S b st pr q).1 (nO (plL S b st pr q).1) (S.1 4) st b pr (plL S b st pr q).2 mi
def tkS (S : SV) (b : Bool) (st pr q : Int32) : SV × Int32 := tnR b st pr 20 (sI S 4 (S.1 4 + 1)) q
def lpR (mi : Int32) : Nat → SV → Int32 → SV × Int32
  | 0, S, x => (S, x)
  | k + 1, S, x => if mi < S.2.1 7 k then lpR mi k (sR S 7 (upd (S.2.1 7) k (S.2.1 7 k - mi))) x else if S.2.1 7 k = 0 then lpR mi k S x else lpR mi k (rmS S (nO S) k) (x + 1)
def lpS (S : SV) (mi : Int32) : SV × Int32 := lpR mi (nO S) (sI S 3 (S.1 3 + mi)) 0
def tpT (S : SV) (x : Int32) (i j : Nat) : Int32 := mmin (mmin (S.2.1 6 i) (S.2.1 6 j)) x
def tpS (pr : Int32) (S : SV) (x : Int32) (i j : Nat) : SV := rdS (rdS (trS S (S.2.1 3 i) (S.2.1 3 j) pr (tpT S x i j)) (nO S) (max i j) (tpT S x i j)) (nO (rdS (trS S (S.2.1 3 i) (S.2.1 3 j) pr (tpT S x i j)) (nO S) (max i j) (tpT S x i j))) (min i j) (tpT S x i j)
def tpR (pr : Int32) : Nat → SV → Int32 → SV × Int32
  | 0, S, x => (S, x)
  | f + 1, S, x => if x ≤ 0 then (S, x) else match best S true (nO S), best S false (nO S) with
    | some i, some j => tpR pr f (tpS pr S x i j) (x - tpT S x i j)
    | _, _ => (S, x)
def epS (S : SV) : SV := sI (sI (tpR (poolS S (nO S)).1 20 S (poolS S (nO S)).2.1).1 1 0) 2 0

set_option maxHeartbeats 4000000 in
set_option maxRecDepth 100000 in
theorem k9_trade {l : Launch} {G : Gx} (hF : SF l G) {a : Nat → Nat} {S : SV} {X : va_W} (bu se pr q : Int32) : MV l G yX9_trade cX9_trade 6 1 0 0 [.ref (a 0), .int bu, .int se, .int pr, .int q] (stW G a S ++ X) (fun _ => True) (fun _ : Unit => stW G a (trS S bu se pr q) ++ X) := by
  refine mt_of hF (by decide) (Nat.le_of_ble_eq_true rfl) ?_
  intro p e s m below meth c C hin ls hl H locs hw
  have hl : lv_has ls 6 [(0, .ref (a 0)), (1, .int bu), (2, .int se), (3, .int pr), (4, .int q)] := hl
  refine lv_iload_n C.1 C.2.1 dX9_trade_0 rfl (lv_at hl 3 rfl) ?_
  refine lv_iload C.1 C.2.1 dX9_trade_1 (lv_at hl 4 rfl) ?_
  refine lv_imul C.1 C.2.1 dX9_trade_3 ?_
  refine lv_istore (lv' := [(5, .int (pr * q)), (0, .ref (a 0)), (1, .int bu), (2, .int se), (3, .int pr), (4, .int q)]) C.1 C.2.1 dX9_trade_4 hl (by decide) rfl (fun ls hl => ?_)
  refine lv_aload_n C.1 C.2.1 dX9_trade_6 rfl (lv_at hl 1 rfl) ?_
  refine r_get C hw 0 rfl rfl in_X9 0 (by decide) fl_X9_12 rfl (v := .ref (a 1)) rfl dX9_trade_7 ?_
  refine r_get C hw 1 rfl rfl in_X8 0 (by decide) fl_X9_92 rfl (v := .ref (a 2)) rfl dX9_trade_10 ?_
  refine lv_iload_n C.1 C.2.1 dX9_trade_13 rfl (lv_at hl 2 rfl) ?_
  refine lv_iload C.1 C.2.1 dX9_trade_14 (lv_at hl 0 rfl) ?_
  refine lv_ineg C.1 C.2.1 dX9_trade_16 ?_
  refine r_vv C hw (k7_add hF (strow_0 G a S X) (by decide) (strow_e G a S X 0) bu (-(pr * q))) ml_X9_147 yf_X7_add 2 rfl rfl (As := [.int bu, .int (-(pr * q))]) rfl rfl ⟨Nat.le_of_ble_eq_true rfl, Nat.le_of_ble_eq_true rfl⟩ ⟨Nat.le_of_ble_eq_true rfl, Nat.le_of_ble_eq_true rfl⟩ hl.1 (Nat.le_of_ble_eq_true rfl) dX9_trade_17 (fun _ H locs hp_17 hw => ?_)
  replace hw : WH G s (stW G a (sR S 0 (radd 6 (S.2.1 0) bu (-(pr * q)))) ++ X) H locs := hw
  refine lv_aload_n C.1 C.2.1 dX9_trade_20 rfl (lv_at hl 1 rfl) ?_
  refine r_get C hw 0 rfl rfl in_X9 0 (by decide) fl_X9_12 rfl (v := .ref (a 1)) rfl dX9_trade_21 ?_
  refine r_get C hw 1 rfl rfl in_X8 0 (by decide) fl_X9_92 rfl (v := .ref (a 2)) rfl dX9_trade_24 ?_
  refine lv_iload_n C.1 C.2.1 dX9_trade_27 rfl (lv_at hl 3 rfl) ?_
  refine lv_iload C.1 C.2.1 dX9_trade_28 (lv_at hl 0 rfl) ?_
  refine r_vv C hw (k7_add hF (strow_0 G a (sR S 0 (radd 6 (S.2.1 0) bu (-(pr * q)))) X) (by decide) (strow_e G a (sR S 0 (radd 6 (S.2.1 0) bu (-(pr * q)))) X 0) se (pr * q)) ml_X9_147 yf_X7_add 2 rfl rfl (As := [.int se, .int (pr * q)]) rfl rfl ⟨Nat.le_of_ble_eq_true rfl, Nat.le_of_ble_eq_true rfl⟩ ⟨Nat.le_of_ble_eq_true rfl, Nat.le_of_ble_eq_true rfl⟩ hl.1 (Nat.le_of_ble_eq_true rfl) dX9_trade_30 (fun _ H locs hp_30 hw => ?_)
  replace hw : WH G s (stW G a (sR (sR S 0 (radd 6 (S.2.1 0) bu (-(pr * q)))) 0 (radd 6 (radd 6 (S.2.1 0) bu (-(pr * q))) se (pr * q))) ++ X) H locs := hw
  refine lv_aload_n C.1 C.2.1 dX9_trade_33 rfl (lv_at hl 1 rfl) ?_
  refine r_get C hw 0 rfl rfl in_X9 0 (by decide) fl_X9_12 rfl (v := .ref (a 1)) rfl dX9_trade_34 ?_
  refine r_get C hw 1 rfl rfl in_X8 1 (by decide) fl_X9_104 rfl (v := .ref (a 4)) rfl dX9_trade_37 ?_
  refine lv_iload_n C.1 C.2.1 dX9_trade_40 rfl (lv_at hl 3 rfl) ?_
  refine lv_iload C.1 C.2.1 dX9_trade_41 (lv_at hl 5 rfl) ?_
  refine lv_ineg C.1 C.2.1 dX9_trade_43 ?_
  refine r_vv C hw (k7_add hF (strow_1 G a (sR (sR S 0 (radd 6 (S.2.1 0) bu (-(pr * q)))) 0 (radd 6 (radd 6 (S.2.1 0) bu (-(pr * q))) se (pr * q))) X) (by decide) (strow_e G a (sR (sR S 0 (radd 6 (S.2.1 0) bu (-(pr * q)))) 0 (radd 6 (radd 6 (S.2.1 0) bu (-(pr * q))) se (pr * q))) X 1) se (-q)) ml_X9_147 yf_X7_add 4 rfl rfl (As := [.int se, .int (-q)]) rfl rfl ⟨Nat.le_of_ble_eq_true rfl, Nat.le_of_ble_eq_true rfl⟩ ⟨Nat.le_of_ble_eq_true rfl, Nat.le_of_ble_eq_true rfl⟩ hl.1 (Nat.le_of_ble_eq_true rfl) dX9_trade_44 (fun _ H locs hp_44 hw => ?_)
  replace hw : WH G s (stW G a (sR (sR (sR S 0 (radd 6 (S.2.1 0) bu (-(pr * q)))) 0 (radd 6 (radd 6 (S.2.1 0) bu (-(pr * q))) se (pr * q))) 1 (radd 6 (S.2.1 1) se (-q))) ++ X) H locs := hw
  refine lv_aload_n C.1 C.2.1 dX9_trade_47 rfl (lv_at hl 1 rfl) ?_
  refine r_get C hw 0 rfl rfl in_X9 0 (by decide) fl_X9_12 rfl (v := .ref (a 1)) rfl dX9_trade_48 ?_
  refine r_get C hw 1 rfl rfl in_X8 1 (by decide) fl_X9_104 rfl (v := .ref (a 4)) rfl dX9_trade_51 ?_
  refine lv_iload_n C.1 C.2.1 dX9_trade_54 rfl (lv_at hl 2 rfl) ?_
  refine lv_iload C.1 C.2.1 dX9_trade_55 (lv_at hl 5 rfl) ?_
  refine r_vv C hw (k7_add hF (strow_1 G a (sR (sR (sR S 0 (radd 6 (S.2.1 0) bu (-(pr * q)))) 0 (radd 6 (radd 6 (S.2.1 0) bu (-(pr * q))) se (pr * q))) 1 (radd 6 (S.2.1 1) se (-q))) X) (by decide) (strow_e G a (sR (sR (sR S 0 (radd 6 (S.2.1 0) bu (-(pr * q)))) 0 (radd 6 (radd 6 (S.2.1 0) bu (-(pr * q))) se (pr * q))) 1 (radd 6 (S.2.1 1) se (-q))) X 1) bu q) ml_X9_147 yf_X7_add 4 rfl rfl (As := [.int bu, .int q]) rfl rfl ⟨Nat.le_of_ble_eq_true rfl, Nat.le_of_ble_eq_true rfl⟩ ⟨Nat.le_of_ble_eq_true rfl, Nat.le_of_ble_eq_true rfl⟩ hl.1 (Nat.le_of_ble_eq_true rfl) dX9_trade_57 (fun _ H locs hp_57 hw => ?_)
  replace hw : WH G s (stW G a (sR (sR (sR (sR S 0 (radd 6 (S.2.1 0) bu (-(pr * q)))) 0 (radd 6 (radd 6 (S.2.1 0) bu (-(pr * q))) se (pr * q))) 1 (radd 6 (S.2.1 1) se (-q))) 1 (radd 6 (radd 6 (S.2.1 1) se (-q)) bu q)) ++ X) H locs := hw
  refine lv_aload_n C.1 C.2.1 dX9_trade_60 rfl (lv_at hl 1 rfl) ?_
  refine lv_iload_n C.1 C.2.1 dX9_trade_61 rfl (lv_at hl 4 rfl) ?_
  refine r_put C hw 0 rfl rfl in_X9 tyX9 tyX9_ok nmX9 5 (by decide) fl_X9_36 rfl rfl rfl rfl (Nat.le_of_ble_eq_true rfl) (w' := stW G a (sI (sR (sR (sR (sR S 0 (radd 6 (S.2.1 0) bu (-(pr * q)))) 0 (radd 6 (radd 6 (S.2.1 0) bu (-(pr * q))) se (pr * q))) 1 (radd 6 (S.2.1 1) se (-q))) 1 (radd 6 (radd 6 (S.2.1 1) se (-q)) bu q)) 5 pr) ++ X) rfl dX9_trade_62 (fun H locs hw => ?_)
  refine lv_aload_n C.1 C.2.1 dX9_trade_65 rfl (lv_at hl 1 rfl) ?_
  refine lv_dup C.1 C.2.1 dX9_trade_66 rfl ?_
  refine r_get C hw 0 rfl rfl in_X9 6 (by decide) fl_X9_39 rfl (v := .int (S.1 6)) rfl dX9_trade_67 ?_
  refine lv_iconst (v := 1) C.1 C.2.1 dX9_trade_70 (by decide) ?_
  refine lv_iadd C.1 C.2.1 dX9_trade_71 ?_
  refine r_put C hw 0 rfl rfl in_X9 tyX9 tyX9_ok nmX9 6 (by decide) fl_X9_39 rfl rfl rfl rfl (Nat.le_of_ble_eq_true rfl) (w' := stW G a (sI (sI (sR (sR (sR (sR S 0 (radd 6 (S.2.1 0) bu (-(pr * q)))) 0 (radd 6 (radd 6 (S.2.1 0) bu (-(pr * q))) se (pr * q))) 1 (radd 6 (S.2.1 1) se (-q))) 1 (radd 6 (radd 6 (S.2.1 1) se (-q)) bu q)) 5 pr) 6 ((S.1 6) + 1)) ++ X) rfl dX9_trade_72 (fun H locs hw => ?_)
  refine lv_aload_n C.1 C.2.1 dX9_trade_75 rfl (lv_at hl 1 rfl) ?_
  refine lv_dup C.1 C.2.1 dX9_trade_76 rfl ?_
  refine r_get C hw 0 rfl rfl in_X9 7 (by decide) fl_X9_42 rfl (v := .int (S.1 7)) rfl dX9_trade_77 ?_
  refine lv_iload C.1 C.2.1 dX9_trade_80 (lv_at hl 5 rfl) ?_
  refine lv_iadd C.1 C.2.1 dX9_trade_82 ?_
  refine r_put C hw 0 rfl rfl in_X9 tyX9 tyX9_ok nmX9 7 (by decide) fl_X9_42 rfl rfl rfl rfl (Nat.le_of_ble_eq_true rfl) (w' := stW G a (sI (sI (sI (sR (sR (sR (sR S 0 (radd 6 (S.2.1 0) bu (-(pr * q)))) 0 (radd 6 (radd 6 (S.2.1 0) bu (-(pr * q))) se (pr * q))) 1 (radd 6 (S.2.1 1) se (-q))) 1 (radd 6 (radd 6 (S.2.1 1) se (-q)) bu q)) 5 pr) 6 ((S.1 6) + 1)) 7 ((S.1 7) + q)) ++ X) rfl dX9_trade_83 (fun H locs hw => ?_)
  refine lv_aload_n C.1 C.2.1 dX9_trade_86 rfl (lv_at hl 1 rfl) ?_
  refine lv_dup C.1 C.2.1 dX9_trade_87 rfl ?_
  refine r_get C hw 0 rfl rfl in_X9 8 (by decide) fl_X9_45 rfl (v := .long S.2.2) rfl dX9_trade_88 ?_
  refine lv_iload C.1 C.2.1 dX9_trade_91 (lv_at hl 0 rfl) ?_
  refine lv_i2l (v := (pr * q).toInt64) C.1 C.2.1 dX9_trade_93 rfl ?_
  refine lv_ladd C.1 C.2.1 dX9_trade_94 ?_
  refine r_put C hw 0 rfl rfl in_X9 tyX9 tyX9_ok nmX9 8 (by decide) fl_X9_45 rfl rfl rfl rfl (Nat.le_of_ble_eq_true rfl) (w' := stW G a (sP (sI (sI (sI (sR (sR (sR (sR S 0 (radd 6 (S.2.1 0) bu (-(pr * q)))) 0 (radd 6 (radd 6 (S.2.1 0) bu (-(pr * q))) se (pr * q))) 1 (radd 6 (S.2.1 1) se (-q))) 1 (radd 6 (radd 6 (S.2.1 1) se (-q)) bu q)) 5 pr) 6 ((S.1 6) + 1)) 7 ((S.1 7) + q)) (S.2.2 + (pr * q).toInt64)) ++ X) rfl dX9_trade_95 (fun H locs hw => ?_)
  exact r_vret C hw rfl () (trivial) rfl (Nat.le_of_ble_eq_true rfl) (Nat.le_of_ble_eq_true rfl) dX9_trade_98

set_option maxHeartbeats 4000000 in
set_option maxRecDepth 100000 in
theorem k9_tradeNew {l : Launch} {G : Gx} (hF : SF l G) {a : Nat → Nat} {S : SV} {X : va_W} (ok : okS S) (b : Bool) (st pr q : Int32) : MI l G yX9_tradeNew cX9_tradeNew 11 .int 3 0 0 [.ref (a 0), .int (bI b), .int st, .int pr, .int q] (stW G a S ++ X) (fun r _ => r = q - (tnR b st pr 20 S q).2) (fun _ : Unit => stW G a (tnR b st pr 20 S q).1 ++ X) := by
  refine mt_of hF (by decide) (Nat.le_of_ble_eq_true rfl) ?_
  intro p e s m below meth c C hin ls hl H locs hw
  have hl : lv_has ls 11 [(0, .ref (a 0)), (1, .int (bI b)), (2, .int st), (3, .int pr), (4, .int q)] := hl
  refine lv_iload C.1 C.2.1 dX9_tradeNew_0 (lv_at hl 4 rfl) ?_
  refine lv_istore (lv' := [(5, .int q), (0, .ref (a 0)), (1, .int (bI b)), (2, .int st), (3, .int pr), (4, .int q)]) C.1 C.2.1 dX9_tradeNew_2 hl (by decide) rfl (fun ls hl => ?_)
  refine lv_iconst (v := 0) C.1 C.2.1 dX9_tradeNew_4 (by decide) ?_
  refine lv_istore (lv' := [(6, .int 0), (5, .int q), (0, .ref (a 0)), (1, .int (bI b)), (2, .int st), (3, .int pr), (4, .int q)]) C.1 C.2.1 dX9_tradeNew_5 hl (by decide) rfl (fun ls hl => ?_)
  refine w_loop (σ := Nat × SV × Int32) G (fun u ⟨k, T, x⟩ => k ≤ 20 ∧ 20 < k + u ∧ okS T ∧ nO T ≤ nO S ∧ tnR b st pr 20 S q = tnR b st pr (20 - k) T x) (fun ⟨k, T, x⟩ => stW G a T ++ X) (fun ⟨k, T, x⟩ => 0) (fun ⟨k, T, x⟩ => 0) (fun ⟨k, T, x⟩ => [(0, .ref (a 0)), (1, .int (bI b)), (2, .int st), (3, .int pr), (4, .int q), (5, .int x), (6, .int (nI k))]) 11 ?_ ?_ 21 (0, S, q) (⟨Nat.zero_le _, by omega, ok, Nat.le_refl _, rfl⟩) hw (lv_sub hl [2, 3, 4, 5, 6, 1, 0] rfl)
  · rintro n7 ⟨k, T, x⟩ ⟨h1, h2, h3, h4, h5⟩ ih7 H locs hw ls hl
    replace hw : WH G s (stW G a T ++ X) H locs := hw
    replace hl : lv_has ls 11 [(0, .ref (a 0)), (1, .int (bI b)), (2, .int st), (3, .int pr), (4, .int q), (5, .int x), (6, .int (nI k))] := hl
    have hT20 : nO T ≤ 20 := h3.2.1
    refine lv_iload C.1 C.2.1 dX9_tradeNew_7 (lv_at hl 6 rfl) ?_
    refine lv_bipush (v := 20) C.1 C.2.1 dX9_tradeNew_9 (by decide) ?_
    refine lv_icmp_ge (tgt := 167) C.1 C.2.1 dX9_tradeNew_11 (by decide) (fun c_11 => ?_) (fun c_11 => ?_)
    · obtain rfl : k = 20 := le_T (n := 20) h1 (by decide) c_11
      have hz : tnR b st pr 20 S q = (T, x) := h5.trans (rfl)
      refine lv_iload C.1 C.2.1 dX9_tradeNew_167 (lv_at hl 4 rfl) ?_
      refine lv_iload C.1 C.2.1 dX9_tradeNew_169 (lv_at hl 5 rfl) ?_
      refine lv_isub C.1 C.2.1 dX9_tradeNew_171 ?_
      exact r_iret C hw rfl rfl () (by rw [hz]) (by rw [hz]) (Nat.le_of_ble_eq_true rfl) (Nat.le_of_ble_eq_true rfl) dX9_tradeNew_172
    · have hk := le_F (n := 20) h1 (by decide) c_11
      refine lv_iload C.1 C.2.1 dX9_tradeNew_14 (lv_at hl 5 rfl) ?_
      refine lv_if_le (tgt := 167) C.1 C.2.1 dX9_tradeNew_16 (by decide) (fun c_16 => ?_) (fun c_16 => ?_)
      · have hz : tnR b st pr 20 S q = (T, x) := h5.trans (tnR_x c_16 _)
        refine lv_iload C.1 C.2.1 dX9_tradeNew_167 (lv_at hl 4 rfl) ?_
        refine lv_iload C.1 C.2.1 dX9_tradeNew_169 (lv_at hl 5 rfl) ?_
        refine lv_isub C.1 C.2.1 dX9_tradeNew_171 ?_
        exact r_iret C hw rfl rfl () (by rw [hz]) (by rw [hz]) (Nat.le_of_ble_eq_true rfl) (Nat.le_of_ble_eq_true rfl) dX9_tradeNew_172
      · refine lv_aload_n C.1 C.2.1 dX9_tradeNew_19 rfl (lv_at hl 0 rfl) ?_
        refine r_get C hw 0 rfl rfl in_X9 1 (by decide) fl_X9_21 rfl (v := .ref (a 6)) rfl dX9_tradeNew_20 ?_
        refine lv_iload_n C.1 C.2.1 dX9_tradeNew_23 rfl (lv_at hl 1 rfl) ?_
        refine lv_if_ne (tgt := 31) C.1 C.2.1 dX9_tradeNew_24 (by decide) (fun c_24 => ?_) (fun c_24 => ?_)
        · obtain rfl : b = true := bI_ne0.mp c_24
          replace hl : lv_has ls 11 [(0, .ref (a 0)), (1, .int (bI true)), (2, .int st), (3, .int pr), (4, .int q), (5, .int x), (6, .int (nI k))] := hl
          refine lv_iconst (v := 0) C.1 C.2.1 dX9_tradeNew_31 (by decide) ?_
          refine r_vi C hw (k1_bestSlot hF (a := a) (S := T) (X := X) (n := nO T) h3.1 h3.2.1 false) ml_X9_121 yf_X1_bestSlot 6 rfl rfl (As := [.int 0]) rfl rfl ⟨Nat.le_of_ble_eq_true rfl, Nat.le_of_ble_eq_true rfl⟩ ⟨Nat.le_of_ble_eq_true rfl, Nat.le_of_ble_eq_true rfl⟩ hl.1 (Nat.le_of_ble_eq_true rfl) dX9_tradeNew_32 (fun r_32 _ H locs hp_32 hw => ?_)
          obtain ⟨o_32, ho_32⟩ : ∃ o, o = best T false (nO T) := ⟨_, rfl⟩
          obtain rfl : r_32 = oI o_32 := by rw [hp_32, ho_32]
          replace hw : WH G s (stW G a T ++ X) H locs := hw
          refine lv_istore (lv' := [(7, .int (oI o_32)), (0, .ref (a 0)), (1, .int (bI true)), (2, .int st), (3, .int pr), (4, .int q), (5, .int x), (6, .int (nI k))]) C.1 C.2.1 dX9_tradeNew_35 hl (by decide) rfl (fun ls hl => ?_)
          refine lv_iload C.1 C.2.1 dX9_tradeNew_37 (lv_at hl 0 rfl) ?_
          refine lv_iconst (v := -1) C.1 C.2.1 dX9_tradeNew_39 (by decide) ?_
          refine lv_icmp_ne (tgt := 46) C.1 C.2.1 dX9_tradeNew_40 (by decide) (fun c_40 => ?_) (fun c_40 => ?_)
          · obtain ⟨j, rfl⟩ : ∃ q, o_32 = some q := by cases o_32 with | none => exact absurd rfl c_40 | some q => exact ⟨q, rfl⟩
            have hj : j < nO T := best_lt ho_32.symm
            replace hl : lv_has ls 11 [(7, .int (nI j)), (0, .ref (a 0)), (1, .int (bI true)), (2, .int st), (3, .int pr), (4, .int q), (5, .int x), (6, .int (nI k))] := hl
            refine lv_aload_n C.1 C.2.1 dX9_tradeNew_46 rfl (lv_at hl 1 rfl) ?_
            refine r_get C hw 0 rfl rfl in_X9 1 (by decide) fl_X9_21 rfl (v := .ref (a 6)) rfl dX9_tradeNew_47 ?_
            refine r_get C hw 6 rfl rfl in_X1 3 (by decide) fl_X9_125 rfl (v := .ref (a 13)) rfl dX9_tradeNew_50 ?_
            refine lv_iload C.1 C.2.1 dX9_tradeNew_53 (lv_at hl 0 rfl) ?_
            refine r_vi C hw (k7_get hF (strow_5 G a T X) (by decide) (strow_e G a T X 5) (nI j)) ml_X9_96 yf_X7_get 13 rfl rfl (As := [.int (nI j)]) rfl rfl ⟨Nat.le_of_ble_eq_true rfl, Nat.le_of_ble_eq_true rfl⟩ ⟨Nat.le_of_ble_eq_true rfl, Nat.le_of_ble_eq_true rfl⟩ hl.1 (Nat.le_of_ble_eq_true rfl) dX9_tradeNew_55 (fun r_55 _ H locs hp_55 hw => ?_)
            obtain rfl : r_55 = ((T.2.1 5) j) := by rw [hp_55]; exact rget_nI (by omega) (by decide)
            replace hw : WH G s (stW G a T ++ X) H locs := hw
            refine lv_istore (lv' := [(8, .int ((T.2.1 5) j)), (7, .int (nI j)), (0, .ref (a 0)), (1, .int (bI true)), (2, .int st), (3, .int pr), (4, .int q), (5, .int x), (6, .int (nI k))]) C.1 C.2.1 dX9_tradeNew_58 hl (by decide) rfl (fun ls hl => ?_)
            refine lv_iload_n C.1 C.2.1 dX9_tradeNew_60 rfl (lv_at hl 3 rfl) ?_
            refine lv_if_eq (tgt := 73) C.1 C.2.1 dX9_tradeNew_61 (by decide) (fun c_61 => absurd c_61 (by decide)) (fun c_61 => ?_)
            refine lv_iload C.1 C.2.1 dX9_tradeNew_64 (lv_at hl 0 rfl) ?_
            refine lv_iload_n C.1 C.2.1 dX9_tradeNew_66 rfl (lv_at hl 5 rfl) ?_
            refine lv_icmp_le (tgt := 82) C.1 C.2.1 dX9_tradeNew_67 (by decide) (fun c_67 => ?_) (fun c_67 => ?_)
            · refine lv_iload C.1 C.2.1 dX9_tradeNew_82 (lv_at hl 7 rfl) ?_
              refine lv_aload_n C.1 C.2.1 dX9_tradeNew_84 rfl (lv_at hl 2 rfl) ?_
              refine r_get C hw 0 rfl rfl in_X9 1 (by decide) fl_X9_21 rfl (v := .ref (a 6)) rfl dX9_tradeNew_85 ?_
              refine r_get C hw 6 rfl rfl in_X1 4 (by decide) fl_X9_128 rfl (v := .ref (a 15)) rfl dX9_tradeNew_88 ?_
              refine lv_iload C.1 C.2.1 dX9_tradeNew_91 (lv_at hl 1 rfl) ?_
              refine r_vi C hw (k7_get hF (strow_6 G a T X) (by decide) (strow_e G a T X 6) (nI j)) ml_X9_96 yf_X7_get 15 rfl rfl (As := [.int (nI j)]) rfl rfl ⟨Nat.le_of_ble_eq_true rfl, Nat.le_of_ble_eq_true rfl⟩ ⟨Nat.le_of_ble_eq_true rfl, Nat.le_of_ble_eq_true rfl⟩ hl.1 (Nat.le_of_ble_eq_true rfl) dX9_tradeNew_93 (fun r_93 _ H locs hp_93 hw => ?_)
              obtain rfl : r_93 = ((T.2.1 6) j) := by rw [hp_93]; exact rget_nI (by omega) (by decide)
              replace hw : WH G s (stW G a T ++ X) H locs := hw
              refine r_mmin C ml_X9_131 hl.1 (Nat.le_of_ble_eq_true rfl) (Nat.le_of_ble_eq_true rfl) (Nat.le_of_ble_eq_true rfl) (Nat.le_of_ble_eq_true rfl) dX9_tradeNew_96 ?_
              refine lv_istore (lv' := [(9, .int (mmin x ((T.2.1 6) j))), (8, .int ((T.2.1 5) j)), (7, .int (nI j)), (0, .ref (a 0)), (1, .int (bI true)), (2, .int st), (3, .int pr), (4, .int q), (5, .int x), (6, .int (nI k))]) C.1 C.2.1 dX9_tradeNew_99 hl (by decide) rfl (fun ls hl => ?_)
              refine lv_aload_n C.1 C.2.1 dX9_tradeNew_101 rfl (lv_at hl 3 rfl) ?_
              refine r_get C hw 0 rfl rfl in_X9 1 (by decide) fl_X9_21 rfl (v := .ref (a 6)) rfl dX9_tradeNew_102 ?_
              refine r_get C hw 6 rfl rfl in_X1 1 (by decide) fl_X9_137 rfl (v := .ref (a 9)) rfl dX9_tradeNew_105 ?_
              refine lv_iload C.1 C.2.1 dX9_tradeNew_108 (lv_at hl 2 rfl) ?_
              refine r_vi C hw (k7_get hF (strow_3 G a T X) (by decide) (strow_e G a T X 3) (nI j)) ml_X9_96 yf_X7_get 9 rfl rfl (As := [.int (nI j)]) rfl rfl ⟨Nat.le_of_ble_eq_true rfl, Nat.le_of_ble_eq_true rfl⟩ ⟨Nat.le_of_ble_eq_true rfl, Nat.le_of_ble_eq_true rfl⟩ hl.1 (Nat.le_of_ble_eq_true rfl) dX9_tradeNew_110 (fun r_110 _ H locs hp_110 hw => ?_)
              obtain rfl : r_110 = ((T.2.1 3) j) := by rw [hp_110]; exact rget_nI (by omega) (by decide)
              replace hw : WH G s (stW G a T ++ X) H locs := hw
              refine lv_istore (lv' := [(10, .int ((T.2.1 3) j)), (9, .int (mmin x ((T.2.1 6) j))), (8, .int ((T.2.1 5) j)), (7, .int (nI j)), (0, .ref (a 0)), (1, .int (bI true)), (2, .int st), (3, .int pr), (4, .int q), (5, .int x), (6, .int (nI k))]) C.1 C.2.1 dX9_tradeNew_113 hl (by decide) rfl (fun ls hl => ?_)
              refine lv_aload_n C.1 C.2.1 dX9_tradeNew_115 rfl (lv_at hl 4 rfl) ?_
              refine lv_iload_n C.1 C.2.1 dX9_tradeNew_116 rfl (lv_at hl 5 rfl) ?_
              refine lv_if_eq (tgt := 124) C.1 C.2.1 dX9_tradeNew_117 (by decide) (fun c_117 => absurd c_117 (by decide)) (fun c_117 => ?_)
              refine lv_iload_n C.1 C.2.1 dX9_tradeNew_120 rfl (lv_at hl 6 rfl) ?_
              refine lv_goto (tgt := 126) C.1 C.2.1 dX9_tradeNew_121 (by decide) ?_
              refine lv_iload_n C.1 C.2.1 dX9_tradeNew_126 rfl (lv_at hl 5 rfl) ?_
              refine lv_if_eq (tgt := 135) C.1 C.2.1 dX9_tradeNew_127 (by decide) (fun c_127 => absurd c_127 (by decide)) (fun c_127 => ?_)
              refine lv_iload C.1 C.2.1 dX9_tradeNew_130 (lv_at hl 0 rfl) ?_
              refine lv_goto (tgt := 136) C.1 C.2.1 dX9_tradeNew_132 (by decide) ?_
              refine lv_iload C.1 C.2.1 dX9_tradeNew_136 (lv_at hl 2 rfl) ?_
              refine lv_iload C.1 C.2.1 dX9_tradeNew_138 (lv_at hl 1 rfl) ?_
              refine r_vv C hw (k9_trade hF (a := a) (S := T) (X := X) st ((T.2.1 3) j) ((T.2.1 5) j) (mmin x ((T.2.1 6) j))) ml_X9_139 yf_X9_trade 0 rfl rfl (As := [.int st, .int ((T.2.1 3) j), .int ((T.2.1 5) j), .int (mmin x ((T.2.1 6) j))]) rfl rfl ⟨Nat.le_of_ble_eq_true rfl, Nat.le_of_ble_eq_true rfl⟩ ⟨Nat.le_of_ble_eq_true rfl, Nat.le_of_ble_eq_true rfl⟩ hl.1 (Nat.le_of_ble_eq_true rfl) dX9_tradeNew_140 (fun _ H locs hp_140 hw => ?_)
              replace hw : WH G s (stW G a (trS T st ((T.2.1 3) j) ((T.2.1 5) j) (mmin x ((T.2.1 6) j))) ++ X) H locs := hw
              refine lv_aload_n C.1 C.2.1 dX9_tradeNew_143 rfl (lv_at hl 4 rfl) ?_
              refine r_get C hw 0 rfl rfl in_X9 1 (by decide) fl_X9_21 rfl (v := .ref (a 6)) rfl dX9_tradeNew_144 ?_
              refine lv_iload C.1 C.2.1 dX9_tradeNew_147 (lv_at hl 3 rfl) ?_
              refine lv_iload C.1 C.2.1 dX9_tradeNew_149 (lv_at hl 1 rfl) ?_
              refine r_vv C hw (k1_reduce hF (a := a) (S := (trS T st ((T.2.1 3) j) ((T.2.1 5) j) (mmin x ((T.2.1 6) j)))) (X := X) (n := (nO T)) (show ((trS T st ((T.2.1 3) j) ((T.2.1 5) j) (mmin x ((T.2.1 6) j)))).1 1 = nI (nO T) from h3.1) h3.2.1 (j := j) hj (mmin x ((T.2.1 6) j))) ml_X9_143 yf_X1_reduce 6 rfl rfl (As := [.int (nI j), .int (mmin x ((T.2.1 6) j))]) rfl rfl ⟨Nat.le_of_ble_eq_true rfl, Nat.le_of_ble_eq_true rfl⟩ ⟨Nat.le_of_ble_eq_true rfl, Nat.le_of_ble_eq_true rfl⟩ hl.1 (Nat.le_of_ble_eq_true rfl) dX9_tradeNew_151 (fun _ H locs hp_151 hw => ?_)
              replace hw : WH G s (stW G a (rdS (trS T st ((T.2.1 3) j) ((T.2.1 5) j) (mmin x ((T.2.1 6) j))) (nO T) j (mmin x ((T.2.1 6) j))) ++ X) H locs := hw
              refine lv_iload C.1 C.2.1 dX9_tradeNew_154 (lv_at hl 9 rfl) ?_
              refine lv_iload C.1 C.2.1 dX9_tradeNew_156 (lv_at hl 1 rfl) ?_
              refine lv_isub C.1 C.2.1 dX9_tradeNew_158 ?_
              refine lv_istore (lv' := [(5, .int (x - (mmin x ((T.2.1 6) j)))), (10, .int ((T.2.1 3) j)), (9, .int (mmin x ((T.2.1 6) j))), (8, .int ((T.2.1 5) j)), (7, .int (nI j)), (0, .ref (a 0)), (1, .int (bI true)), (2, .int st), (3, .int pr), (4, .int q), (6, .int (nI k))]) C.1 C.2.1 dX9_tradeNew_159 hl (by decide) rfl (fun ls hl => ?_)
              refine lv_iinc (v := nI (k + 1)) (lv' := [(6, .int (nI (k + 1))), (5, .int (x - (mmin x ((T.2.1 6) j)))), (10, .int ((T.2.1 3) j)), (9, .int (mmin x ((T.2.1 6) j))), (8, .int ((T.2.1 5) j)), (7, .int (nI j)), (0, .ref (a 0)), (1, .int (bI true)), (2, .int st), (3, .int pr), (4, .int q)]) C.1 C.2.1 dX9_tradeNew_161 hl (k := 10) rfl (inc_nI k) (by decide) rfl (fun ls hl => ?_)
              refine lv_goto (tgt := 7) C.1 C.2.1 dX9_tradeNew_164 (by decide) ?_
              exact ih7 (k + 1, tnS true st pr T x j, x - mmin x (T.2.1 6 j)) (⟨by omega, by omega, (okS_tn h3 hj).1, Nat.le_trans (okS_tn h3 hj).2.1 h4, h5.trans (by rw [show 20 - k = (20 - (k + 1)) + 1 by omega]; exact tnR_g c_16 ho_32.symm (by simp [tnB, c_67]) _)⟩) _ _ hw _ (lv_sub hl [6, 7, 8, 9, 10, 1, 0] rfl)
            · have hz : tnR true st pr 20 S q = (T, x) := h5.trans (tnR_s ho_32.symm (by simp [tnB, c_67]) _)
              refine lv_goto (tgt := 167) C.1 C.2.1 dX9_tradeNew_70 (by decide) ?_
              refine lv_iload C.1 C.2.1 dX9_tradeNew_167 (lv_at hl 6 rfl) ?_
              refine lv_iload C.1 C.2.1 dX9_tradeNew_169 (lv_at hl 7 rfl) ?_
              refine lv_isub C.1 C.2.1 dX9_tradeNew_171 ?_
              exact r_iret C hw rfl rfl () (by rw [hz]) (by rw [hz]) (Nat.le_of_ble_eq_true rfl) (Nat.le_of_ble_eq_true rfl) dX9_tradeNew_172
          · obtain rfl : o_32 = none := (oI_none (fun q hq => by have := best_lt (ho_32.symm.trans hq); omega)).mp c_40
            replace hl : lv_has ls 11 [(7, .int (-1)), (0, .ref (a 0)), (1, .int (bI true)), (2, .int st), (3, .int pr), (4, .int q), (5, .int x), (6, .int (nI k))] := hl
            have hz := h5.trans (tnR_n ho_32.symm _)
            refine lv_goto (tgt := 167) C.1 C.2.1 dX9_tradeNew_43 (by decide) ?_
            refine lv_iload C.1 C.2.1 dX9_tradeNew_167 (lv_at hl 5 rfl) ?_
            refine lv_iload C.1 C.2.1 dX9_tradeNew_169 (lv_at hl 6 rfl) ?_
            refine lv_isub C.1 C.2.1 dX9_tradeNew_171 ?_
            exact r_iret C hw rfl rfl () (by rw [hz]) (by rw [hz]) (Nat.le_of_ble_eq_true rfl) (Nat.le_of_ble_eq_true rfl) dX9_tradeNew_172
        · obtain rfl : b = false := bI_eq0.mp c_24
          replace hl : lv_has ls 11 [(0, .ref (a 0)), (1, .int (bI false)), (2, .int st), (3, .int pr), (4, .int q), (5, .int x), (6, .int (nI k))] := hl
          refine lv_iconst (v := 1) C.1 C.2.1 dX9_tradeNew_27 (by decide) ?_
          refine lv_goto (tgt := 32) C.1 C.2.1 dX9_tradeNew_28 (by decide) ?_
          refine r_vi C hw (k1_bestSlot hF (a := a) (S := T) (X := X) (n := nO T) h3.1 h3.2.1 true) ml_X9_121 yf_X1_bestSlot 6 rfl rfl (As := [.int 1]) rfl rfl ⟨Nat.le_of_ble_eq_true rfl, Nat.le_of_ble_eq_true rfl⟩ ⟨Nat.le_of_ble_eq_true rfl, Nat.le_of_ble_eq_true rfl⟩ hl.1 (Nat.le_of_ble_eq_true rfl) dX9_tradeNew_32 (fun r_32 _ H locs hp_32 hw => ?_)
          obtain ⟨o_32, ho_32⟩ : ∃ o, o = best T true (nO T) := ⟨_, rfl⟩
          obtain rfl : r_32 = oI o_32 := by rw [hp_32, ho_32]
          replace hw : WH G s (stW G a T ++ X) H locs := hw
          refine lv_istore (lv' := [(7, .int (oI o_32)), (0, .ref (a 0)), (1, .int (bI false)), (2, .int st), (3, .int pr), (4, .int q), (5, .int x), (6, .int (nI k))]) C.1 C.2.1 dX9_tradeNew_35 hl (by decide) rfl (fun ls hl => ?_)
          refine lv_iload C.1 C.2.1 dX9_tradeNew_37 (lv_at hl 0 rfl) ?_
          refine lv_iconst (v := -1) C.1 C.2.1 dX9_tradeNew_39 (by decide) ?_
          refine lv_icmp_ne (tgt := 46) C.1 C.2.1 dX9_tradeNew_40 (by decide) (fun c_40 => ?_) (fun c_40 => ?_)
          · obtain ⟨j, rfl⟩ : ∃ q, o_32 = some q := by cases o_32 with | none => exact absurd rfl c_40 | some q => exact ⟨q, rfl⟩
            have hj : j < nO T := best_lt ho_32.symm
            replace hl : lv_has ls 11 [(7, .int (nI j)), (0, .ref (a 0)), (1, .int (bI false)), (2, .int st), (3, .int pr), (4, .int q), (5, .int x), (6, .int (nI k))] := hl
            refine lv_aload_n C.1 C.2.1 dX9_tradeNew_46 rfl (lv_at hl 1 rfl) ?_
            refine r_get C hw 0 rfl rfl in_X9 1 (by decide) fl_X9_21 rfl (v := .ref (a 6)) rfl dX9_tradeNew_47 ?_
            refine r_get C hw 6 rfl rfl in_X1 3 (by decide) fl_X9_125 rfl (v := .ref (a 13)) rfl dX9_tradeNew_50 ?_
            refine lv_iload C.1 C.2.1 dX9_tradeNew_53 (lv_at hl 0 rfl) ?_
            refine r_vi C hw (k7_get hF (strow_5 G a T X) (by decide) (strow_e G a T X 5) (nI j)) ml_X9_96 yf_X7_get 13 rfl rfl (As := [.int (nI j)]) rfl rfl ⟨Nat.le_of_ble_eq_true rfl, Nat.le_of_ble_eq_true rfl⟩ ⟨Nat.le_of_ble_eq_true rfl, Nat.le_of_ble_eq_true rfl⟩ hl.1 (Nat.le_of_ble_eq_true rfl) dX9_tradeNew_55 (fun r_55 _ H locs hp_55 hw => ?_)
            obtain rfl : r_55 = ((T.2.1 5) j) := by rw [hp_55]; exact rget_nI (by omega) (by decide)
            replace hw : WH G s (stW G a T ++ X) H locs := hw
            refine lv_istore (lv' := [(8, .int ((T.2.1 5) j)), (7, .int (nI j)), (0, .ref (a 0)), (1, .int (bI false)), (2, .int st), (3, .int pr), (4, .int q), (5, .int x), (6, .int (nI k))]) C.1 C.2.1 dX9_tradeNew_58 hl (by decide) rfl (fun ls hl => ?_)
            refine lv_iload_n C.1 C.2.1 dX9_tradeNew_60 rfl (lv_at hl 3 rfl) ?_
            refine lv_if_eq (tgt := 73) C.1 C.2.1 dX9_tradeNew_61 (by decide) (fun c_61 => ?_) (fun c_61 => absurd (by decide) c_61)
            refine lv_iload C.1 C.2.1 dX9_tradeNew_73 (lv_at hl 0 rfl) ?_
            refine lv_iload_n C.1 C.2.1 dX9_tradeNew_75 rfl (lv_at hl 5 rfl) ?_
            refine lv_icmp_ge (tgt := 82) C.1 C.2.1 dX9_tradeNew_76 (by decide) (fun c_76 => ?_) (fun c_76 => ?_)
            · refine lv_iload C.1 C.2.1 dX9_tradeNew_82 (lv_at hl 7 rfl) ?_
              refine lv_aload_n C.1 C.2.1 dX9_tradeNew_84 rfl (lv_at hl 2 rfl) ?_
              refine r_get C hw 0 rfl rfl in_X9 1 (by decide) fl_X9_21 rfl (v := .ref (a 6)) rfl dX9_tradeNew_85 ?_
              refine r_get C hw 6 rfl rfl in_X1 4 (by decide) fl_X9_128 rfl (v := .ref (a 15)) rfl dX9_tradeNew_88 ?_
              refine lv_iload C.1 C.2.1 dX9_tradeNew_91 (lv_at hl 1 rfl) ?_
              refine r_vi C hw (k7_get hF (strow_6 G a T X) (by decide) (strow_e G a T X 6) (nI j)) ml_X9_96 yf_X7_get 15 rfl rfl (As := [.int (nI j)]) rfl rfl ⟨Nat.le_of_ble_eq_true rfl, Nat.le_of_ble_eq_true rfl⟩ ⟨Nat.le_of_ble_eq_true rfl, Nat.le_of_ble_eq_true rfl⟩ hl.1 (Nat.le_of_ble_eq_true rfl) dX9_tradeNew_93 (fun r_93 _ H locs hp_93 hw => ?_)
              obtain rfl : r_93 = ((T.2.1 6) j) := by rw [hp_93]; exact rget_nI (by omega) (by decide)
              replace hw : WH G s (stW G a T ++ X) H locs := hw
              refine r_mmin C ml_X9_131 hl.1 (Nat.le_of_ble_eq_true rfl) (Nat.le_of_ble_eq_true rfl) (Nat.le_of_ble_eq_true rfl) (Nat.le_of_ble_eq_true rfl) dX9_tradeNew_96 ?_
              refine lv_istore (lv' := [(9, .int (mmin x ((T.2.1 6) j))), (8, .int ((T.2.1 5) j)), (7, .int (nI j)), (0, .ref (a 0)), (1, .int (bI false)), (2, .int st), (3, .int pr), (4, .int q), (5, .int x), (6, .int (nI k))]) C.1 C.2.1 dX9_tradeNew_99 hl (by decide) rfl (fun ls hl => ?_)
              refine lv_aload_n C.1 C.2.1 dX9_tradeNew_101 rfl (lv_at hl 3 rfl) ?_
              refine r_get C hw 0 rfl rfl in_X9 1 (by decide) fl_X9_21 rfl (v := .ref (a 6)) rfl dX9_tradeNew_102 ?_
              refine r_get C hw 6 rfl rfl in_X1 1 (by decide) fl_X9_137 rfl (v := .ref (a 9)) rfl dX9_tradeNew_105 ?_
              refine lv_iload C.1 C.2.1 dX9_tradeNew_108 (lv_at hl 2 rfl) ?_
              refine r_vi C hw (k7_get hF (strow_3 G a T X) (by decide) (strow_e G a T X 3) (nI j)) ml_X9_96 yf_X7_get 9 rfl rfl (As := [.int (nI j)]) rfl rfl ⟨Nat.le_of_ble_eq_true rfl, Nat.le_of_ble_eq_true rfl⟩ ⟨Nat.le_of_ble_eq_true rfl, Nat.le_of_ble_eq_true rfl⟩ hl.1 (Nat.le_of_ble_eq_true rfl) dX9_tradeNew_110 (fun r_110 _ H locs hp_110 hw => ?_)
              obtain rfl : r_110 = ((T.2.1 3) j) := by rw [hp_110]; exact rget_nI (by omega) (by decide)
              replace hw : WH G s (stW G a T ++ X) H locs := hw
              refine lv_istore (lv' := [(10, .int ((T.2.1 3) j)), (9, .int (mmin x ((T.2.1 6) j))), (8, .int ((T.2.1 5) j)), (7, .int (nI j)), (0, .ref (a 0)), (1, .int (bI false)), (2, .int st), (3, .int pr), (4, .int q), (5, .int x), (6, .int (nI k))]) C.1 C.2.1 dX9_tradeNew_113 hl (by decide) rfl (fun ls hl => ?_)
              refine lv_aload_n C.1 C.2.1 dX9_tradeNew_115 rfl (lv_at hl 4 rfl) ?_
              refine lv_iload_n C.1 C.2.1 dX9_tradeNew_116 rfl (lv_at hl 5 rfl) ?_
              refine lv_if_eq (tgt := 124) C.1 C.2.1 dX9_tradeNew_117 (by decide) (fun c_117 => ?_) (fun c_117 => absurd (by decide) c_117)
              refine lv_iload C.1 C.2.1 dX9_tradeNew_124 (lv_at hl 0 rfl) ?_
              refine lv_iload_n C.1 C.2.1 dX9_tradeNew_126 rfl (lv_at hl 5 rfl) ?_
              refine lv_if_eq (tgt := 135) C.1 C.2.1 dX9_tradeNew_127 (by decide) (fun c_127 => ?_) (fun c_127 => absurd (by decide) c_127)
              refine lv_iload_n C.1 C.2.1 dX9_tradeNew_135 rfl (lv_at hl 6 rfl) ?_
              refine lv_iload C.1 C.2.1 dX9_tradeNew_136 (lv_at hl 2 rfl) ?_
              refine lv_iload C.1 C.2.1 dX9_tradeNew_138 (lv_at hl 1 rfl) ?_
              refine r_vv C hw (k9_trade hF (a := a) (S := T) (X := X) ((T.2.1 3) j) st ((T.2.1 5) j) (mmin x ((T.2.1 6) j))) ml_X9_139 yf_X9_trade 0 rfl rfl (As := [.int ((T.2.1 3) j), .int st, .int ((T.2.1 5) j), .int (mmin x ((T.2.1 6) j))]) rfl rfl ⟨Nat.le_of_ble_eq_true rfl, Nat.le_of_ble_eq_true rfl⟩ ⟨Nat.le_of_ble_eq_true rfl, Nat.le_of_ble_eq_true rfl⟩ hl.1 (Nat.le_of_ble_eq_true rfl) dX9_tradeNew_140 (fun _ H locs hp_140 hw => ?_)
              replace hw : WH G s (stW G a (trS T ((T.2.1 3) j) st ((T.2.1 5) j) (mmin x ((T.2.1 6) j))) ++ X) H locs := hw
              refine lv_aload_n C.1 C.2.1 dX9_tradeNew_143 rfl (lv_at hl 4 rfl) ?_
              refine r_get C hw 0 rfl rfl in_X9 1 (by decide) fl_X9_21 rfl (v := .ref (a 6)) rfl dX9_tradeNew_144 ?_
              refine lv_iload C.1 C.2.1 dX9_tradeNew_147 (lv_at hl 3 rfl) ?_
              refine lv_iload C.1 C.2.1 dX9_tradeNew_149 (lv_at hl 1 rfl) ?_
              refine r_vv C hw (k1_reduce hF (a := a) (S := (trS T ((T.2.1 3) j) st ((T.2.1 5) j) (mmin x ((T.2.1 6) j)))) (X := X) (n := (nO T)) (show ((trS T ((T.2.1 3) j) st ((T.2.1 5) j) (mmin x ((T.2.1 6) j)))).1 1 = nI (nO T) from h3.1) h3.2.1 (j := j) hj (mmin x ((T.2.1 6) j))) ml_X9_143 yf_X1_reduce 6 rfl rfl (As := [.int (nI j), .int (mmin x ((T.2.1 6) j))]) rfl rfl ⟨Nat.le_of_ble_eq_true rfl, Nat.le_of_ble_eq_true rfl⟩ ⟨Nat.le_of_ble_eq_true rfl, Nat.le_of_ble_eq_true rfl⟩ hl.1 (Nat.le_of_ble_eq_true rfl) dX9_tradeNew_151 (fun _ H locs hp_151 hw => ?_)
              replace hw : WH G s (stW G a (rdS (trS T ((T.2.1 3) j) st ((T.2.1 5) j) (mmin x ((T.2.1 6) j))) (nO T) j (mmin x ((T.2.1 6) j))) ++ X) H locs := hw
              refine lv_iload C.1 C.2.1 dX9_tradeNew_154 (lv_at hl 9 rfl) ?_
              refine lv_iload C.1 C.2.1 dX9_tradeNew_156 (lv_at hl 1 rfl) ?_
              refine lv_isub C.1 C.2.1 dX9_tradeNew_158 ?_
              refine lv_istore (lv' := [(5, .int (x - (mmin x ((T.2.1 6) j)))), (10, .int ((T.2.1 3) j)), (9, .int (mmin x ((T.2.1 6) j))), (8, .int ((T.2.1 5) j)), (7, .int (nI j)), (0, .ref (a 0)), (1, .int (bI false)), (2, .int st), (3, .int pr), (4, .int q), (6, .int (nI k))]) C.1 C.2.1 dX9_tradeNew_159 hl (by decide) rfl (fun ls hl => ?_)
              refine lv_iinc (v := nI (k + 1)) (lv' := [(6, .int (nI (k + 1))), (5, .int (x - (mmin x ((T.2.1 6) j)))), (10, .int ((T.2.1 3) j)), (9, .int (mmin x ((T.2.1 6) j))), (8, .int ((T.2.1 5) j)), (7, .int (nI j)), (0, .ref (a 0)), (1, .int (bI false)), (2, .int st), (3, .int pr), (4, .int q)]) C.1 C.2.1 dX9_tradeNew_161 hl (k := 10) rfl (inc_nI k) (by decide) rfl (fun ls hl => ?_)
              refine lv_goto (tgt := 7) C.1 C.2.1 dX9_tradeNew_164 (by decide) ?_
              exact ih7 (k + 1, tnS false st pr T x j, x - mmin x (T.2.1 6 j)) (⟨by omega, by omega, (okS_tn h3 hj).1, Nat.le_trans (okS_tn h3 hj).2.1 h4, h5.trans (by rw [show 20 - k = (20 - (k + 1)) + 1 by omega]; exact tnR_g c_16 ho_32.symm (by simp [tnB, c_76]) _)⟩) _ _ hw _ (lv_sub hl [6, 7, 8, 9, 10, 1, 0] rfl)
            · have hz : tnR false st pr 20 S q = (T, x) := h5.trans (tnR_s ho_32.symm (by simp [tnB, c_76]) _)
              refine lv_goto (tgt := 167) C.1 C.2.1 dX9_tradeNew_79 (by decide) ?_
              refine lv_iload C.1 C.2.1 dX9_tradeNew_167 (lv_at hl 6 rfl) ?_
              refine lv_iload C.1 C.2.1 dX9_tradeNew_169 (lv_at hl 7 rfl) ?_
              refine lv_isub C.1 C.2.1 dX9_tradeNew_171 ?_
              exact r_iret C hw rfl rfl () (by rw [hz]) (by rw [hz]) (Nat.le_of_ble_eq_true rfl) (Nat.le_of_ble_eq_true rfl) dX9_tradeNew_172
          · obtain rfl : o_32 = none := (oI_none (fun q hq => by have := best_lt (ho_32.symm.trans hq); omega)).mp c_40
            replace hl : lv_has ls 11 [(7, .int (-1)), (0, .ref (a 0)), (1, .int (bI false)), (2, .int st), (3, .int pr), (4, .int q), (5, .int x), (6, .int (nI k))] := hl
            have hz := h5.trans (tnR_n ho_32.symm _)
            refine lv_goto (tgt := 167) C.1 C.2.1 dX9_tradeNew_43 (by decide) ?_
            refine lv_iload C.1 C.2.1 dX9_tradeNew_167 (lv_at hl 5 rfl) ?_
            refine lv_iload C.1 C.2.1 dX9_tradeNew_169 (lv_at hl 6 rfl) ?_
            refine lv_isub C.1 C.2.1 dX9_tradeNew_171 ?_
            exact r_iret C hw rfl rfl () (by rw [hz]) (by rw [hz]) (Nat.le_of_ble_eq_true rfl) (Nat.le_of_ble_eq_true rfl) dX9_tradeNew_172
  · rintro ⟨k, T, x⟩ ⟨h1, h2, h3, h4, h5⟩; omega

