theorem i_rng (x : Int32) : -2147483648 ≤ x.toInt ∧ x.toInt < 2147483648 := by
  have h1 := Int32.minValue_le_toInt x
  have h2 := Int32.toInt_le x
  have e1 : Int32.minValue.toInt = -2147483648 := by decide
  have e2 : Int32.maxValue.toInt = 2147483647 := by decide
  omega
theorem i_bm {z : Int} (h1 : -2147483648 ≤ z) (h2 : z < 2147483648) : z.bmod (2 ^ 32) = z := by
  rw [Int.bmod_def]
  split <;> omega
theorem i_add {x y : Int32} (h1 : -2147483648 ≤ x.toInt + y.toInt) (h2 : x.toInt + y.toInt < 2147483648) : (x + y).toInt = x.toInt + y.toInt := by
  rw [Int32.toInt_add, i_bm h1 h2]
theorem i_sub {x y : Int32} (h1 : -2147483648 ≤ x.toInt - y.toInt) (h2 : x.toInt - y.toInt < 2147483648) : (x - y).toInt = x.toInt - y.toInt := by
  rw [Int32.toInt_sub, i_bm h1 h2]
theorem i_mul {x y : Int32} (h1 : -2147483648 ≤ x.toInt * y.toInt) (h2 : x.toInt * y.toInt < 2147483648) : (x * y).toInt = x.toInt * y.toInt := by
  rw [Int32.toInt_mul, i_bm h1 h2]
theorem i_neg {x : Int32} (h : x.toInt ≠ -2147483648) : (-x).toInt = -x.toInt := by
  have := i_rng x
  rw [Int32.toInt_neg, i_bm (by omega) (by omega)]
theorem i_le {x y : Int32} : x ≤ y ↔ x.toInt ≤ y.toInt := Int32.le_iff_toInt_le
theorem i_l {x y : Int32} : x < y ↔ x.toInt < y.toInt := Int32.lt_iff_toInt_lt
theorem i_ext {x y : Int32} (h : x.toInt = y.toInt) : x = y := Int32.toInt_inj.mp h
theorem i_0 : (0 : Int32).toInt = 0 := by decide
theorem i_1 : (1 : Int32).toInt = 1 := by decide
/-- sums of whole numbers over places -/
def zs (g : Nat → Int) : Nat → Int
  | 0 => 0
  | n + 1 => zs g n + g n
theorem zs_congr {g h : Nat → Int} : ∀ {n : Nat}, (∀ k, k < n → g k = h k) → zs g n = zs h n
  | 0, _ => rfl
  | n + 1, e => by
    show zs g n + g n = zs h n + h n
    rw [zs_congr (fun k hk => e k (by omega)), e n (by omega)]
theorem zs_nn {g : Nat → Int} : ∀ {n : Nat}, (∀ k, k < n → 0 ≤ g k) → 0 ≤ zs g n
  | 0, _ => Int.le_refl 0
  | n + 1, e => by
    have h1 := zs_nn (n := n) (fun k hk => e k (by omega))
    have h2 := e n (by omega)
    show 0 ≤ zs g n + g n
    omega
theorem zs_le {g : Nat → Int} {c : Int} : ∀ {n : Nat}, (∀ k, k < n → g k ≤ c) → zs g n ≤ c * n
  | 0, _ => by show (0 : Int) ≤ c * 0; omega
  | n + 1, e => by
    have h1 := zs_le (n := n) (fun k hk => e k (by omega))
    have h2 := e n (by omega)
    show zs g n + g n ≤ c * ((n : Int) + 1)
    rw [Int.mul_add]
    omega
theorem zs_mono {g h : Nat → Int} : ∀ {n : Nat}, (∀ k, k < n → g k ≤ h k) → zs g n ≤ zs h n
  | 0, _ => Int.le_refl 0
  | n + 1, e => by
    have h1 := zs_mono (n := n) (fun k hk => e k (by omega))
    have h2 := e n (by omega)
    show zs g n + g n ≤ zs h n + h n
    omega
/-- one place's part is at most the whole -/
theorem zs_ge {g : Nat → Int} : ∀ {n j : Nat}, (∀ k, k < n → 0 ≤ g k) → j < n → g j ≤ zs g n
  | 0, _, _, h => absurd h (by omega)
  | n + 1, j, e, h => by
    show g j ≤ zs g n + g n
    have h0 := zs_nn (n := n) (fun k hk => e k (by omega))
    have hn := e n (by omega)
    by_cases hj : j = n
    · rw [hj]; omega
    · have h1 := zs_ge (n := n) (j := j) (fun k hk => e k (by omega)) (by omega)
      omega
/-- one place changed -/
theorem zs_upd {g h : Nat → Int} : ∀ {n j : Nat}, j < n → (∀ k, k < n → k ≠ j → h k = g k) → zs h n = zs g n - g j + h j
  | 0, _, hj, _ => absurd hj (by omega)
  | n + 1, j, hj, e => by
    show zs h n + h n = zs g n + g n - g j + h j
    by_cases l : j = n
    · subst l
      rw [zs_congr (fun k hk => e k (by omega) (by omega))]
      omega
    · rw [zs_upd (j := j) (n := n) (by omega) (fun k hk => e k (by omega)), e n (by omega) (by omega)]
      omega
/-- one place taken out -/
theorem zs_gap {g h : Nat → Int} : ∀ {n j : Nat}, j < n → (∀ k, k < n - 1 → h k = if k < j then g k else g (k + 1)) → zs h (n - 1) = zs g n - g j
  | 0, _, hj, _ => absurd hj (by omega)
  | 1, j, hj, e => by
    rw [show j = 0 by omega]
    show (0 : Int) = 0 + g 0 - g 0
    omega
  | n + 2, j, hj, e => by
    show zs h n + h n = zs g n + g n + g (n + 1) - g j
    have e' := e n (by omega)
    by_cases l : j = n + 1
    · rw [l, if_pos (by omega)] at e'
      rw [l, zs_congr (fun k hk => (e k (by omega)).trans (if_pos (by omega))), e']
      omega
    · rw [if_neg (by omega)] at e'
      have h1 := zs_gap (g := g) (h := h) (n := n + 1) (j := j) (by omega) (fun k hk => e k (by omega))
      have h2 : zs h n = zs g n + g n - g j := h1
      rw [h2, e']
      omega
theorem zs_add {g h : Nat → Int} : ∀ {n : Nat}, zs (fun k => g k + h k) n = zs g n + zs h n
  | 0 => rfl
  | n + 1 => by
    show zs _ n + (g n + h n) = zs g n + g n + (zs h n + h n)
    rw [zs_add]; omega
/-! The invariant of a model's row -/
theorem i_nI {k : Nat} (h : k < 2 ^ 31) : (nI k).toInt = k := by
  show (Int32.ofNat k).toInt = k
  rw [Int32.toInt_ofNat_of_lt h]
theorem nI_ij {a b : Nat} (ha : a < 2 ^ 31) (hb : b < 2 ^ 31) (h : nI a = nI b) : a = b := by
  have h1 := i_nI ha
  rw [h, i_nI hb] at h1
  omega
/-- weights of an order by its stall, side and price -/
def wM (k : Nat) (s : Nat) (b : Bool) (p : Int) : Int := if b = true ∧ s = k then p else 0
def wD (k : Nat) (s : Nat) (b : Bool) (_ : Int) : Int := if b = false ∧ s = k then 1 else 0
def wQ (_ : Nat) (_ : Bool) (_ : Int) : Int := 1
def wP (x : Int) (_ : Nat) (b : Bool) (p : Int) : Int := if b = true ∧ x ≤ p then 1 else 0
def wS (x : Int) (_ : Nat) (b : Bool) (p : Int) : Int := if b = false ∧ p ≤ x then 1 else 0
def zk (w : Nat → Bool → Int → Int) (f : Nat → Int32) (k : Nat) : Int := w (wF f k) (byF f k) (oF f k 3).toInt
def zw (w : Nat → Bool → Int → Int) (f : Nat → Int32) (k : Nat) : Int := zk w f k * (oF f k 4).toInt
def zq (w : Nat → Bool → Int → Int) (f : Nat → Int32) : Int := zs (zw w f) (nF f)
/-- an order in the book -/
def bO (f : Nat → Int32) (k : Nat) : Prop := (oF f k 2 = 0 ∨ oF f k 2 = 1) ∧ (1 ≤ (oF f k 3).toInt ∧ (oF f k 3).toInt ≤ 99) ∧ (1 ≤ (oF f k 4).toInt ∧ (oF f k 4).toInt ≤ 50) ∧ (0 ≤ (oF f k 5).toInt ∧ (oF f k 5).toInt ≤ 60) ∧ 0 ≤ (oF f k 0).toInt ∧ (oF f k 0).toInt < (f 2).toInt
def bK (f : Nat → Int32) : Prop := okF f ∧ (∀ k, k < nF f → bO f k) ∧ ∀ i j, i < j → j < nF f → (oF f i 0).toInt < (oF f j 0).toInt
theorem zw_nn {w : Nat → Bool → Int → Int} (hw : ∀ s b p, 0 ≤ p → 0 ≤ w s b p) {f : Nat → Int32} (h : bK f) : ∀ k, k < nF f → 0 ≤ zw w f k := fun k hk => by
  have h1 := h.2.1 k hk
  exact Int.mul_nonneg (hw _ _ _ (by have := h1.2.1.1; omega)) (by have := h1.2.2.1.1; omega)
theorem zq_nn {w : Nat → Bool → Int → Int} (hw : ∀ s b p, 0 ≤ p → 0 ≤ w s b p) {f : Nat → Int32} (h : bK f) : 0 ≤ zq w f := zs_nn (zw_nn hw h)
theorem wM_nn (k : Nat) : ∀ s b p, 0 ≤ p → 0 ≤ wM k s b p := fun s b p hp => by unfold wM; split <;> omega
theorem wD_nn (k : Nat) : ∀ s b p, 0 ≤ p → 0 ≤ wD k s b p := fun s b p hp => by unfold wD; split <;> omega
theorem wQ_nn : ∀ s b p, 0 ≤ p → 0 ≤ wQ s b p := fun s b p hp => by unfold wQ; omega
theorem wP_nn (x : Int) : ∀ s b p, 0 ≤ p → 0 ≤ wP x s b p := fun s b p hp => by unfold wP; split <;> omega
theorem wS_nn (x : Int) : ∀ s b p, 0 ≤ p → 0 ≤ wS x s b p := fun s b p hp => by unfold wS; split <;> omega
/-- what is taken from an order -/
theorem ta_zq {f : Nat → Int32} (h : bK f) {j : Nat} (hj : j < nF f) {t : Int32} (h0 : 0 ≤ t.toInt) (h1 : t.toInt ≤ (oF f j 4).toInt) :
    (∀ k, k < 21 → k ≠ 1 → taF f (nF f) j t k = f k) ∧ bK (taF f (nF f) j t) ∧
    (nF (taF f (nF f) j t) = if t.toInt = (oF f j 4).toInt then nF f - 1 else nF f) ∧ (∀ w, zq w (taF f (nF f) j t) = zq w f - zk w f j * t.toInt) ∧
    (∀ k i, k < j → i < 6 → oF (taF f (nF f) j t) k i = oF f k i) := by
  have hb := h.2.1 j hj
  have hok := okF_tq h.1 j t
  have e4 : oF (tqF f j t) j 4 = oF f j 4 - t := by
    unfold oF tqF
    rw [pk_us]
  have ei : (oF f j 4 - t).toInt = (oF f j 4).toInt - t.toInt := i_sub (by have := hb.2.2.1; omega) (by have := hb.2.2.1; omega)
  have eo : ∀ k i, i < 6 → (k ≠ j ∨ i ≠ 4) → oF (tqF f j t) k i = oF f k i := fun k i hi hne => by
    unfold oF tqF
    rw [pk_un (by omega)]
  have elo : ∀ k, k < 21 → tqF f j t k = f k := fun k hk => by unfold tqF; rw [pk_un (by omega)]
  have ezk : ∀ w k, zk w (tqF f j t) k = zk w f k := fun w k => by
    unfold zk wF byF
    rw [eo k 1 (by omega) (Or.inr (by omega)), eo k 2 (by omega) (Or.inr (by omega)), eo k 3 (by omega) (Or.inr (by omega))]
  have ezw : ∀ w k, k ≠ j → zw w (tqF f j t) k = zw w f k := fun w k hne => by
    unfold zw
    rw [ezk, eo k 4 (by omega) (Or.inl hne)]
  have ezj : ∀ w, zw w (tqF f j t) j = zw w f j - zk w f j * t.toInt := fun w => by
    unfold zw
    rw [ezk, e4, ei, Int.mul_sub]
  have ezs : ∀ w, zs (zw w (tqF f j t)) (nF f) = zs (zw w f) (nF f) - zk w f j * t.toInt := fun w => by
    rw [zs_upd (g := zw w f) hj (fun k _ hne => ezw w k hne), ezj]
    omega
  unfold taF
  rw [e4]
  by_cases hz : t.toInt = (oF f j 4).toInt
  · have hz' : oF f j 4 - t = 0 := i_ext (by rw [ei, i_0]; omega)
    have hd := okF_dr hok.1 (q := j) (by rw [hok.2]; exact hj)
    rw [hok.2] at hd
    have eof : ∀ k, k < nF f - 1 → ∀ i, i < 6 → oF (drF (tqF f j t) (nF f) j) k i = if k < j then oF f k i else oF f (k + 1) i := fun k hk i hi => by
      rw [dr_of hk hi]
      split
      · exact eo k i hi (Or.inl (by omega))
      · exact eo (k + 1) i hi (Or.inl (by omega))
    have e2 : drF (tqF f j t) (nF f) j 2 = f 2 := by rw [dr_lo (by omega) (by omega), elo 2 (by omega)]
    rw [if_pos hz', if_pos hz]
    refine ⟨fun k hk h1 => by rw [dr_lo (by omega) h1, elo k hk], ⟨hd.1, fun k hk => ?_, fun i k hik hk => ?_⟩, hd.2, fun w => ?_, fun k i hk hi => ?_⟩
    · rw [hd.2] at hk
      unfold bO
      rw [eof k hk 2 (by omega), eof k hk 3 (by omega), eof k hk 4 (by omega), eof k hk 5 (by omega), eof k hk 0 (by omega), e2]
      by_cases l : k < j
      · simp only [if_pos l]; exact h.2.1 k (by omega)
      · simp only [if_neg l]; exact h.2.1 (k + 1) (by omega)
    · rw [hd.2] at hk
      rw [eof i (by omega) 0 (by omega), eof k hk 0 (by omega)]
      split <;> split
      · exact h.2.2 i k hik (by omega)
      · exact h.2.2 i (k + 1) (by omega) (by omega)
      · omega
      · exact h.2.2 (i + 1) (k + 1) (by omega) (by omega)
    · show zs _ (nF (drF (tqF f j t) (nF f) j)) = _
      rw [hd.2, zs_gap (g := zw w (tqF f j t)) hj (fun k hk => ?_), ezs, ezj]
      · have : zw w f j = zk w f j * t.toInt := by unfold zw; rw [hz]
        show zs (zw w f) (nF f) - _ - _ = _
        rw [this]
        show zq w f - _ - _ = zq w f - _
        omega
      · unfold zw zk wF byF
        rw [dr_of hk (by omega), dr_of hk (by omega), dr_of hk (by omega), dr_of hk (by omega)]
        split <;> rfl
    · rw [eof k (by omega) i hi, if_pos hk]
  · have hz' : ¬ oF f j 4 - t = 0 := fun e => by
      have := congrArg Int32.toInt e
      rw [ei, i_0] at this
      omega
    rw [if_neg hz', if_neg hz]
    refine ⟨fun k hk _ => elo k hk, ⟨hok.1, fun k hk => ?_, fun i k hik hk => ?_⟩, hok.2, fun w => ?_, fun k i hk hi => eo k i hi (Or.inl (by omega))⟩
    · rw [hok.2] at hk
      unfold bO
      rw [eo k 2 (by omega) (Or.inr (by omega)), eo k 3 (by omega) (Or.inr (by omega)), eo k 5 (by omega) (Or.inr (by omega)), eo k 0 (by omega) (Or.inr (by omega)), elo 2 (by omega)]
      have hk' := h.2.1 k hk
      refine ⟨hk'.1, hk'.2.1, ?_, hk'.2.2.2⟩
      by_cases l : k = j
      · rw [l, e4, ei]
        have := hb.2.2.1
        omega
      · rw [eo k 4 (by omega) (Or.inl l)]; exact hk'.2.2.1
    · rw [hok.2] at hk
      rw [eo i 0 (by omega) (Or.inr (by omega)), eo k 0 (by omega) (Or.inr (by omega))]
      exact h.2.2 i k hik hk
    · show zs _ (nF (tqF f j t)) = _
      rw [hok.2, ezs]
      rfl
/-- what a payment changes -/
theorem py_s0 {f : Nat → Int32} {bu se k : Nat} {pr q : Int32} (hb : bu < 6) (hs : se < 6) (hk : k < 6) : sF (pyF f bu se pr q) k 0 = (sF f k 0 - (if k = bu then pr * q else 0)) + (if k = se then pr * q else 0) := by
  unfold sF pyF
  try dsimp only
  rw [pk_un (by omega), pk_un (by omega), pk_un (by omega), pk_un (by omega), pk_un (by omega), pk_un (by omega)]
  by_cases h2 : k = se
  · subst h2
    rw [if_pos rfl, Nat.add_zero, pk_us]
    by_cases h1 : k = bu
    · subst h1; rw [if_pos rfl, pk_us]
    · rw [if_neg h1, pk_un (by omega), Int32.sub_zero]
  · rw [if_neg h2, Int32.add_zero, pk_un (by omega)]
    by_cases h1 : k = bu
    · subst h1; rw [if_pos rfl, Nat.add_zero, pk_us]
    · rw [if_neg h1, pk_un (by omega), Int32.sub_zero]
theorem py_s1 {f : Nat → Int32} {bu se k : Nat} {pr q : Int32} (hb : bu < 6) (hs : se < 6) (hk : k < 6) : sF (pyF f bu se pr q) k 1 = (sF f k 1 + (if k = bu then q else 0)) - (if k = se then q else 0) := by
  unfold sF pyF
  try dsimp only
  rw [pk_un (by omega), pk_un (by omega), pk_un (by omega), pk_un (by omega)]
  by_cases h2 : k = se
  · subst h2
    rw [if_pos rfl, pk_us]
    by_cases h1 : k = bu
    · subst h1; rw [if_pos rfl, pk_us, pk_un (by omega), pk_un (by omega)]
    · rw [if_neg h1, pk_un (by omega), Int32.add_zero, pk_un (by omega), pk_un (by omega)]
  · rw [if_neg h2, Int32.sub_zero, pk_un (by omega)]
    by_cases h1 : k = bu
    · subst h1; rw [if_pos rfl, pk_us, pk_un (by omega), pk_un (by omega)]
    · rw [if_neg h1, pk_un (by omega), Int32.add_zero, pk_un (by omega), pk_un (by omega)]
theorem py_n {f : Nat → Int32} {bu se : Nat} {pr q : Int32} (hb : bu < 6) (hs : se < 6) : pyF f bu se pr q 5 = pr ∧ pyF f bu se pr q 6 = f 6 + 1 ∧ pyF f bu se pr q 7 = f 7 + q ∧ pyF f bu se pr q 8 = f 8 + pr * q := by
  have e : ∀ (g : Nat → Int32) (x : Int32) (a b : Nat), b ≠ a → upd g a x b = g b := fun g x a b h => pk_un h
  unfold pyF
  try dsimp only
  refine ⟨?_, ?_, ?_, ?_⟩
  · rw [e _ _ 8 5 (by omega), e _ _ 7 5 (by omega), e _ _ 6 5 (by omega), pk_us]
  · rw [e _ _ 8 6 (by omega), e _ _ 7 6 (by omega), pk_us, e _ _ 5 6 (by omega), e _ _ _ 6 (by omega), e _ _ _ 6 (by omega), e _ _ _ 6 (by omega), e _ _ _ 6 (by omega)]
  · rw [e _ _ 8 7 (by omega), pk_us, e _ _ 6 7 (by omega), e _ _ 5 7 (by omega), e _ _ _ 7 (by omega), e _ _ _ 7 (by omega), e _ _ _ 7 (by omega), e _ _ _ 7 (by omega)]
  · rw [pk_us, e _ _ 7 8 (by omega), e _ _ 6 8 (by omega), e _ _ 5 8 (by omega), e _ _ _ 8 (by omega), e _ _ _ 8 (by omega), e _ _ _ 8 (by omega), e _ _ _ 8 (by omega)]
/-- the invariant, with an order on its way that binds pm, pd and has the quantity x -/
def Iv (B : Int) (f : Nat → Int32) (pm pd : Nat → Int) (x : Int) : Prop :=
  bK f ∧ (f 4 = 0 ∨ f 4 = 1) ∧ (∀ k, k < tF f → (0 ≤ pm k ∧ 0 ≤ pd k) ∧ zq (wM k) f + pm k ≤ (sF f k 0).toInt ∧ zq (wD k) f + pd k ≤ (sF f k 1).toInt) ∧
  (zs (fun k => (sF f k 0).toInt) (tF f) ≤ 9999 * (tF f : Int) ∧ zs (fun k => (sF f k 1).toInt) (tF f) ≤ 999 * (tF f : Int)) ∧
  ((((f 7).toInt ≤ (f 8).toInt ∧ ((f 6).toInt = 0 ∨ 0 ≤ (f 5).toInt)) ∧ (f 8).toInt + 99 * (zq wQ f + x) ≤ 4950 * (f 2).toInt) ∧ (0 ≤ (f 6).toInt ∧ (f 6).toInt ≤ (f 7).toInt ∧ (f 7).toInt ≤ 50 * (f 6).toInt ∧ (f 7).toInt + zq wQ f + x ≤ 50 * (f 2).toInt)) ∧
  (0 ≤ x ∧ 0 ≤ (f 2).toInt ∧ (f 2).toInt ≤ B ∧ B ≤ 40000)
theorem Iv.st {B : Int} {f : Nat → Int32} {pm pd : Nat → Int} {x : Int} (h : Iv B f pm pd x) {k : Nat} (hk : k < tF f) : (0 ≤ (sF f k 0).toInt ∧ (sF f k 0).toInt ≤ 59994) ∧ 0 ≤ (sF f k 1).toInt ∧ (sF f k 1).toInt ≤ 5994 := by
  have a : ∀ k, k < tF f → 0 ≤ (sF f k 0).toInt ∧ 0 ≤ (sF f k 1).toInt := fun k hk => by
    have h1 := h.2.2.1 k hk
    have h2 := zq_nn (wM_nn k) h.1
    have h3 := zq_nn (wD_nn k) h.1
    omega
  have h6 := h.1.1.2.2.2.1
  have h1 := zs_ge (g := fun k => (sF f k 0).toInt) (fun k hk => (a k hk).1) hk
  have h2 := zs_ge (g := fun k => (sF f k 1).toInt) (fun k hk => (a k hk).2) hk
  have h3 := h.2.2.2.1
  have h4 := a k hk
  try dsimp only at h1 h2
  omega
theorem iteI {c : Prop} [Decidable c] {x : Int32} : (if c then x else 0).toInt = (if c then x.toInt else 0) ∧ ((if c then x else 0).toInt = x.toInt ∨ (if c then x else 0).toInt = 0) := by
  by_cases h : c
  · rw [if_pos h, if_pos h]; exact ⟨rfl, Or.inl rfl⟩
  · rw [if_neg h, if_neg h]; exact ⟨i_0, Or.inr i_0⟩
/-- a trade keeps it -/
theorem Iv.step {B : Int} {f g : Nat → Int32} {pm pd qm qd : Nat → Int} {x y : Int} (h : Iv B f pm pd x) {bu se : Nat} {V t : Int32} (hb : bu < tF f) (hs : se < tF f)
    (hK : bK g) (h4 : g 4 = f 4) (h2 : g 2 = f 2) (h0 : tF g = tF f)
    (m0 : ∀ k, k < tF f → sF g k 0 = (sF f k 0 - (if k = bu then V else 0)) + (if k = se then V else 0))
    (m1 : ∀ k, k < tF f → sF g k 1 = (sF f k 1 + (if k = bu then t else 0)) - (if k = se then t else 0))
    (g6 : g 6 = f 6 + 1) (g7 : g 7 = f 7 + t) (g8 : g 8 = f 8 + V) (g5 : 0 ≤ (g 5).toInt) (ht : 1 ≤ t.toInt ∧ t.toInt ≤ 50) (hV : t.toInt ≤ V.toInt ∧ V.toInt ≤ 99 * t.toInt)
    (hq : zq wQ g + y + t.toInt ≤ zq wQ f + x) (hy : 0 ≤ y) (hqn : ∀ k, k < tF f → 0 ≤ qm k ∧ 0 ≤ qd k)
    (hm : ∀ k, k < tF f → zq (wM k) g + qm k + (if k = bu then V.toInt else 0) ≤ zq (wM k) f + pm k)
    (hd : ∀ k, k < tF f → zq (wD k) g + qd k + (if k = se then t.toInt else 0) ≤ zq (wD k) f + pd k) : Iv B g qm qd y := by
  have n7 := zq_nn wQ_nn hK
  obtain ⟨a1, a2, a3, a4, ⟨⟨a5, a6⟩, a7, a8, a9, a10⟩, a11, a12, a13, a14⟩ := id h
  have e0 : ∀ k, k < tF f → (sF g k 0).toInt = (sF f k 0).toInt - (if k = bu then V.toInt else 0) + (if k = se then V.toInt else 0) := fun k hk => by
    have r := h.st hk
    rw [m0 k hk]
    have b1 := iteI (c := k = bu) (x := V)
    have b2 := iteI (c := k = se) (x := V)
    rw [← b1.1, ← b2.1]
    generalize (if k = bu then V else 0) = A at b1
    generalize (if k = se then V else 0) = C at b2
    have c1 := i_sub (x := sF f k 0) (y := A) (by omega) (by omega)
    rw [i_add (by omega) (by omega), c1]
  have e1 : ∀ k, k < tF f → (sF g k 1).toInt = (sF f k 1).toInt + (if k = bu then t.toInt else 0) - (if k = se then t.toInt else 0) := fun k hk => by
    have r := h.st hk
    rw [m1 k hk]
    have b1 := iteI (c := k = bu) (x := t)
    have b2 := iteI (c := k = se) (x := t)
    rw [← b1.1, ← b2.1]
    generalize (if k = bu then t else 0) = A at b1
    generalize (if k = se then t else 0) = C at b2
    have c1 := i_add (x := sF f k 1) (y := A) (by omega) (by omega)
    rw [i_sub (by omega) (by omega), c1]
  have s0 : zs (fun k => (sF g k 0).toInt) (tF f) = zs (fun k => (sF f k 0).toInt) (tF f) := by
    have hbs : ∀ (v : Int) (j n : Nat), j < n → zs (fun k => if k = j then v else 0) n = v := fun v j n hj => by
      have hz : ∀ n, zs (fun _ => (0 : Int)) n = 0 := fun n => by induction n with
        | zero => rfl
        | succ n ih => show zs _ n + 0 = 0; rw [ih]; rfl
      rw [zs_upd (g := fun _ => 0) hj (fun k _ hne => by (try dsimp only); rw [if_neg hne]), hz]
      try dsimp only
      rw [if_pos rfl]
      omega
    have h3 : zs (fun k => (sF g k 0).toInt + (if k = bu then V.toInt else 0)) (tF f) = zs (fun k => (sF f k 0).toInt + (if k = se then V.toInt else 0)) (tF f) := zs_congr (fun k hk => by rw [e0 k hk]; omega)
    rw [zs_add, zs_add, hbs _ _ _ hb, hbs _ _ _ hs] at h3
    omega
  have s1 : zs (fun k => (sF g k 1).toInt) (tF f) = zs (fun k => (sF f k 1).toInt) (tF f) := by
    have hbs : ∀ (v : Int) (j n : Nat), j < n → zs (fun k => if k = j then v else 0) n = v := fun v j n hj => by
      have hz : ∀ n, zs (fun _ => (0 : Int)) n = 0 := fun n => by induction n with
        | zero => rfl
        | succ n ih => show zs _ n + 0 = 0; rw [ih]; rfl
      rw [zs_upd (g := fun _ => 0) hj (fun k _ hne => by (try dsimp only); rw [if_neg hne]), hz]
      try dsimp only
      rw [if_pos rfl]
      omega
    have h3 : zs (fun k => (sF g k 1).toInt + (if k = se then t.toInt else 0)) (tF f) = zs (fun k => (sF f k 1).toInt + (if k = bu then t.toInt else 0)) (tF f) := zs_congr (fun k hk => by rw [e1 k hk]; omega)
    rw [zs_add, zs_add, hbs _ _ _ hb, hbs _ _ _ hs] at h3
    omega
  have e6 : (g 6).toInt = (f 6).toInt + 1 := by rw [g6, i_add] <;> (rw [i_1]; try omega)
  have e7 : (g 7).toInt = (f 7).toInt + t.toInt := by rw [g7, i_add] <;> omega
  have e8 : (g 8).toInt = (f 8).toInt + V.toInt := by rw [g8, i_add] <;> omega
  refine ⟨hK, by rw [h4]; exact a2, fun k hk => ?_, by rw [h0, s0, s1]; exact a4, ⟨⟨by omega, by rw [h2]; omega⟩, by omega, by omega, by omega, by rw [h2]; omega⟩, hy, by rw [h2]; exact a12, by rw [h2]; exact a13, a14⟩
  rw [h0] at hk
  have b1 := hqn k hk
  have b2 := hm k hk
  have b3 := hd k hk
  have b4 := a3 k hk
  rw [e0 k hk, e1 k hk]
  have d1 : 0 ≤ (if k = se then V.toInt else 0) := by split <;> omega
  have d2 : 0 ≤ (if k = bu then t.toInt else 0) := by split <;> omega
  exact ⟨b1, by omega, by omega⟩
