/-! the abstract values and the worlds that hold them -/
theorem r_toe {p : Program} {l : Launch} {e : Env} {R : Room} {s : State} {m : MethodId} {args : Array Value} {below : List Frame} {meth : Method} {c : Code} {H : Heap} {locs : List Loc} {cells slots : Nat} {Q : State → Prop} {pc : Nat} {ls : Array Slot} {rest : List Value} {x y : Int32} (h : x = y) (k : W p l e R s m args below meth c H locs cells slots Q (F0 m pc ls (.int y :: rest))) : W p l e R s m args below meth c H locs cells slots Q (F0 m pc ls (.int x :: rest)) := by rw [h]; exact k
theorem lv_to {ls : Array Slot} {n : Nat} {l l' : List (Nat × Value)} (h : lv_has ls n l) (e : l = l') : lv_has ls n l' := e ▸ h
/-- the first n steps of a loop -/
def fr {α : Type} (f : Nat → α → α) : Nat → α → α
  | 0, a => a
  | n + 1, a => f n (fr f n a)
theorem fr_congr {α : Type} {f g : Nat → α → α} : ∀ {n : Nat} {a : α}, (∀ k b, k < n → f k b = g k b) → fr f n a = fr g n a
  | 0, _, _ => rfl
  | n + 1, a, h => by
    show f n (fr f n a) = g n (fr g n a)
    rw [fr_congr (n := n) (fun k b hk => h k b (Nat.lt_succ_of_lt hk))]
    exact h n _ (Nat.lt_succ_self n)
def bI (b : Bool) : Int32 := if b then 1 else 0
def oI (o : Option Nat) : Int32 := match o with
  | none => -1
  | some k => nI k
theorem bI_t : bI true = 1 := rfl
theorem bI_f : bI false = 0 := rfl
theorem bI_nar (b : Bool) : narrow .boolean (.int (bI b)) = .int (bI b) := by cases b <;> rfl
theorem bI_fit (b : Bool) : fits .boolean (.int (bI b)) = true := by cases b <;> rfl
theorem bI_eq0 {b : Bool} : bI b = 0 ↔ b = false := by cases b <;> decide
theorem bI_ne0 {b : Bool} : ¬ bI b = 0 ↔ b = true := by cases b <;> decide
theorem bI_inj {a b : Bool} : bI a = bI b ↔ a = b := by cases a <;> cases b <;> decide
theorem nI_ne1 {k : Nat} (h : k < 2 ^ 31) : nI k ≠ -1 := fun e => by
  have h1 := nI_toInt h
  rw [e] at h1
  have h2 : (-1 : Int32).toInt = -1 := by decide
  omega
theorem oI_none {o : Option Nat} (h : ∀ k, o = some k → k < 2 ^ 31) : oI o = -1 ↔ o = none := by
  cases o with
  | none => simp [oI]
  | some k => simp [oI, nI_ne1 (h k rfl)]
/-- reading a row: 0 outside -/
def rget (n : Nat) (f : Nat → Int32) (i : Int32) : Int32 := if 0 ≤ i.toInt ∧ i.toInt < n then f i.toNatClampNeg else 0
def rset (n : Nat) (f : Nat → Int32) (i x : Int32) : Nat → Int32 := if 0 ≤ i.toInt ∧ i.toInt < n then upd f i.toNatClampNeg x else f
theorem rget_nI {n k : Nat} {f : Nat → Int32} (h : k < n) (hn : n < 2 ^ 31) : rget n f (nI k) = f k := by
  have h1 := nI_toInt (n := k) (by omega)
  rw [rget, if_pos (by omega), nI_clamp (by omega)]
theorem rset_nI {n k : Nat} {f : Nat → Int32} {x : Int32} (h : k < n) (hn : n < 2 ^ 31) : rset n f (nI k) x = upd f k x := by
  have h1 := nI_toInt (n := k) (by omega)
  rw [rset, if_pos (by omega), nI_clamp (by omega)]
theorem i_lt0 {i : Int32} (h : i < 0) : ¬ (0 ≤ i.toInt) := by rw [Int32.lt_iff_toInt_lt, Int32.toInt_zero] at h; omega
theorem i_ge0 {i : Int32} (h : ¬ i < 0) : 0 ≤ i.toInt := by rw [Int32.lt_iff_toInt_lt, Int32.toInt_zero] at h; omega
theorem i_ge {i : Int32} {n : Nat} (hn : n < 2 ^ 31) (h : nI n ≤ i) : ¬ i.toInt < n := by rw [Int32.le_iff_toInt_le, nI_toInt hn] at h; omega
theorem i_lt {i : Int32} {n : Nat} (hn : n < 2 ^ 31) (h : ¬ nI n ≤ i) : i.toInt < n := by rw [Int32.le_iff_toInt_le, nI_toInt hn] at h; omega
theorem i_ltI {i : Int32} {n : Nat} (hn : n < 2 ^ 31) : i < nI n ↔ i.toInt < n := by rw [Int32.lt_iff_toInt_lt, nI_toInt hn]
/-- a row of a world, by what it holds: the Row at q0, its cells at q1 -/
def RowW (G : Gx) (W : (Nat → Int32) → va_W) (q0 q1 r c n : Nat) : Prop := (∀ g, (W g)[q0]? = some (r, .inr (9, [.ref c]))) ∧ (∀ g, (W g)[q1]? = some (c, .inl (G.2.2.1 0, n, .inl g))) ∧ ∀ g g', (W g).set q1 (c, .inl (G.2.2.1 0, n, .inl g')) = W g'
/-- a state: its whole numbers (stalls, orders, poolIsOpen, minute, nextNumber, latestPrice, trades, tradedDrops), its rows (money, drops; numbers, stalls, sides, prices, quantities, minutes), paidMoney -/
abbrev SV : Type := (Nat → Int32) × (Nat → Nat → Int32) × Int64
def sI (S : SV) (k : Nat) (x : Int32) : SV := (va_up S.1 k x, S.2.1, S.2.2)
def sR (S : SV) (k : Nat) (f : Nat → Int32) : SV := (S.1, va_up S.2.1 k f, S.2.2)
def sP (S : SV) (x : Int64) : SV := (S.1, S.2.1, x)
/-- a state's 19 cells, at the addresses a -/
def stW (G : Gx) (a : Nat → Nat) (S : SV) : va_W :=
  [(a 0, .inr (11, [.ref (a 1), .ref (a 6), .int (S.1 2), .int (S.1 3), .int (S.1 4), .int (S.1 5), .int (S.1 6), .int (S.1 7), .long S.2.2])),
   (a 1, .inr (10, [.ref (a 2), .ref (a 4), .int (S.1 0)])),
   (a 2, .inr (9, [.ref (a 3)])), (a 3, .inl (G.2.2.1 0, 6, .inl (S.2.1 0))),
   (a 4, .inr (9, [.ref (a 5)])), (a 5, .inl (G.2.2.1 0, 6, .inl (S.2.1 1))),
   (a 6, .inr (4, [.ref (a 7), .ref (a 9), .ref (a 11), .ref (a 13), .ref (a 15), .ref (a 17), .int (S.1 1)])),
   (a 7, .inr (9, [.ref (a 8)])), (a 8, .inl (G.2.2.1 0, 20, .inl (S.2.1 2))),
   (a 9, .inr (9, [.ref (a 10)])), (a 10, .inl (G.2.2.1 0, 20, .inl (S.2.1 3))),
   (a 11, .inr (9, [.ref (a 12)])), (a 12, .inl (G.2.2.1 0, 20, .inl (S.2.1 4))),
   (a 13, .inr (9, [.ref (a 14)])), (a 14, .inl (G.2.2.1 0, 20, .inl (S.2.1 5))),
   (a 15, .inr (9, [.ref (a 16)])), (a 16, .inl (G.2.2.1 0, 20, .inl (S.2.1 6))),
   (a 17, .inr (9, [.ref (a 18)])), (a 18, .inl (G.2.2.1 0, 20, .inl (S.2.1 7)))]
theorem strow_0 (G : Gx) (a : Nat → Nat) (S : SV) (X : va_W) : RowW G (fun g => stW G a (sR S 0 g) ++ X) 2 3 (a 2) (a 3) 6 := ⟨fun _ => rfl, fun _ => rfl, fun _ _ => rfl⟩
theorem strow_1 (G : Gx) (a : Nat → Nat) (S : SV) (X : va_W) : RowW G (fun g => stW G a (sR S 1 g) ++ X) 4 5 (a 4) (a 5) 6 := ⟨fun _ => rfl, fun _ => rfl, fun _ _ => rfl⟩
theorem strow_2 (G : Gx) (a : Nat → Nat) (S : SV) (X : va_W) : RowW G (fun g => stW G a (sR S 2 g) ++ X) 7 8 (a 7) (a 8) 20 := ⟨fun _ => rfl, fun _ => rfl, fun _ _ => rfl⟩
theorem strow_3 (G : Gx) (a : Nat → Nat) (S : SV) (X : va_W) : RowW G (fun g => stW G a (sR S 3 g) ++ X) 9 10 (a 9) (a 10) 20 := ⟨fun _ => rfl, fun _ => rfl, fun _ _ => rfl⟩
theorem strow_4 (G : Gx) (a : Nat → Nat) (S : SV) (X : va_W) : RowW G (fun g => stW G a (sR S 4 g) ++ X) 11 12 (a 11) (a 12) 20 := ⟨fun _ => rfl, fun _ => rfl, fun _ _ => rfl⟩
theorem strow_5 (G : Gx) (a : Nat → Nat) (S : SV) (X : va_W) : RowW G (fun g => stW G a (sR S 5 g) ++ X) 13 14 (a 13) (a 14) 20 := ⟨fun _ => rfl, fun _ => rfl, fun _ _ => rfl⟩
theorem strow_6 (G : Gx) (a : Nat → Nat) (S : SV) (X : va_W) : RowW G (fun g => stW G a (sR S 6 g) ++ X) 15 16 (a 15) (a 16) 20 := ⟨fun _ => rfl, fun _ => rfl, fun _ _ => rfl⟩
theorem strow_7 (G : Gx) (a : Nat → Nat) (S : SV) (X : va_W) : RowW G (fun g => stW G a (sR S 7 g) ++ X) 17 18 (a 17) (a 18) 20 := ⟨fun _ => rfl, fun _ => rfl, fun _ _ => rfl⟩
theorem stself (S : SV) (k : Nat) : sR S k (S.2.1 k) = S := by
  show (S.1, va_up S.2.1 k (S.2.1 k), S.2.2) = S
  have : va_up S.2.1 k (S.2.1 k) = S.2.1 := by funext j; unfold va_up; split <;> simp_all
  rw [this]
theorem strow_e (G : Gx) (a : Nat → Nat) (S : SV) (X : va_W) (k : Nat) : stW G a (sR S k (S.2.1 k)) ++ X = stW G a S ++ X := by rw [stself]
/-- a loop: what holds at its head, by the turns that are left -/
theorem w_loop {σ : Type} {p : Program} {l : Launch} {e : Env} {R : Room} {s : State} {m : MethodId} {args : Array Value} {below : List Frame} {meth : Method} {c : Code} {Q : State → Prop} {pc : Nat} (G : Gx) (I : Nat → σ → Prop) (Wf : σ → va_W) (cf sf : σ → Nat) (Lf : σ → List (Nat × Value)) (nL : Nat)
    (step : ∀ (n : Nat) (x : σ), I (n + 1) x → (∀ y : σ, I n y → ∀ (H : Heap) (locs : List Loc), WH G s (Wf y) H locs → ∀ ls : Array Slot, lv_has ls nL (Lf y) → W p l e R s m args below meth c H locs (cf y) (sf y) Q (F0 m pc ls [])) → ∀ (H : Heap) (locs : List Loc), WH G s (Wf x) H locs → ∀ ls : Array Slot, lv_has ls nL (Lf x) → W p l e R s m args below meth c H locs (cf x) (sf x) Q (F0 m pc ls []))
    (zero : ∀ x : σ, I 0 x → False) (n : Nat) (x : σ) (hx : I n x) {H : Heap} {locs : List Loc} (hw : WH G s (Wf x) H locs) {ls : Array Slot} (hl : lv_has ls nL (Lf x)) : W p l e R s m args below meth c H locs (cf x) (sf x) Q (F0 m pc ls []) := by
  have key : ∀ (n : Nat) (x : σ), I n x → ∀ (H : Heap) (locs : List Loc), WH G s (Wf x) H locs → ∀ ls : Array Slot, lv_has ls nL (Lf x) → W p l e R s m args below meth c H locs (cf x) (sf x) Q (F0 m pc ls []) := by
    intro n
    induction n with
    | zero => exact fun x h => (zero x h).elim
    | succ n ih => exact fun x h => step n x h ih
  exact key n x hx H locs hw ls hl
theorem le_T {k n : Nat} (hk : k ≤ n) (hn : n < 2 ^ 31) (c : nI n ≤ nI k) : k = n := by
  rcases Nat.lt_or_ge k n with h | h
  · exact absurd c (nI_ge h hn)
  · omega
theorem le_F {k n : Nat} (hk : k ≤ n) (hn : n < 2 ^ 31) (c : ¬ nI n ≤ nI k) : k < n := by
  rcases Nat.lt_or_ge k n with h | h
  · exact h
  · exact absurd (nI_le h (by omega)) c
theorem lt_T {k n : Nat} (hn : n < 2 ^ 31) (hk : k < 2 ^ 31) (c : nI k < nI n) : k < n := (nI_ltI hk hn).mp c
theorem lt_F {k n : Nat} (hn : n < 2 ^ 31) (hk : k < 2 ^ 31) (c : ¬ nI k < nI n) : n ≤ k := Nat.le_of_not_lt (fun h => c ((nI_ltI hk hn).mpr h))
theorem inc_nI (k : Nat) : nI k + Int32.ofInt 1 = nI (k + 1) := by rw [lit1]; exact nI_1 k
def rpre (k : Nat) (g f : Nat → Int32) : Nat → Int32 := fun j => if j < k then g j else f j
theorem rpre_0 {g f : Nat → Int32} : f = rpre 0 g f := by funext j; simp [rpre]
theorem rpre_s {k : Nat} {g f : Nat → Int32} {x : Int32} (h : x = g k) : upd (rpre k g f) k x = rpre (k + 1) g f := by
  subst h
  funext j
  simp only [upd, rpre]
  by_cases h1 : j = k
  · subst h1; simp
  · by_cases h2 : j < k
    · rw [if_neg h1, if_pos h2, if_pos (by omega)]
    · rw [if_neg h1, if_neg h2, if_neg (by omega)]
def rmid (i k : Nat) (f : Nat → Int32) : Nat → Int32 := fun j => if i ≤ j ∧ j < k then f (j + 1) else f j
theorem rmid_0 {i : Nat} {f : Nat → Int32} : f = rmid i i f := by funext j; rw [rmid, if_neg (by omega)]
theorem rmid_s {i k : Nat} {f : Nat → Int32} (h : i ≤ k) : upd (rmid i k f) k (rmid i k f (k + 1)) = rmid i (k + 1) f := by
  funext j
  simp only [upd, rmid]
  by_cases h1 : j = k
  · subst h1; rw [if_pos rfl, if_neg (by omega), if_pos (by omega)]
  · by_cases h2 : i ≤ j ∧ j < k
    · rw [if_neg h1, if_pos h2, if_pos (by omega)]
    · rw [if_neg h1, if_neg h2, if_neg (by omega)]
theorem nI_p1 {n : Nat} (h : 1 ≤ n) : nI n - 1 = nI (n - 1) := pk_sub (b := 1) h
/-- an object of one kind in a world, by its fields' value -/
def ObW {T : Type} (ci : Nat) (fl : T → List Value) (W : T → va_W) (q0 q : Nat) : Prop := (∀ t, (W t)[q0]? = some (q, .inr (ci, fl t))) ∧ ∀ t t', (W t).set q0 (q, .inr (ci, fl t')) = W t'
theorem pnew (A X : va_W) (x : Nat × va_E) : List.Perm ((A ++ X) ++ [x]) (A ++ (x :: X)) := by
  rw [List.append_assoc]
  exact (List.perm_append_singleton x X).append_left A
theorem lv_has.to_eq {ls : Array Slot} {n : Nat} {l l' : List (Nat × Value)} (h : lv_has ls n l) (e : l = l') : lv_has ls n l' := e ▸ h
def isB (x : Int32) : Prop := x = 0 ∨ x = 1
theorem isB_nar {x : Int32} (h : isB x) : narrow .boolean (.int x) = .int x := by rcases h with rfl | rfl <;> rfl
theorem isB_fit {x : Int32} (h : isB x) : fits .boolean (.int x) = true := by rcases h with rfl | rfl <;> rfl
