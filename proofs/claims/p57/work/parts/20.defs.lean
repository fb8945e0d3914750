/-! The pure part of the reference's walk (whole, parts 20 to 44): what the class is held against there; here a ghost -/
abbrev MV_ : Type := (Nat → Int32) × (Nat → Nat → Int32)
def mI (U : MV_) (k : Nat) (x : Int32) : MV_ := (va_up U.1 k x, U.2)
def mR (U : MV_) (k : Nat) (f : Nat → Int32) : MV_ := (U.1, va_up U.2 k f)
def oF (f : Nat → Int32) (p k : Nat) : Int32 := f (21 + 6 * p + k)
def sF (f : Nat → Int32) (i k : Nat) : Int32 := f (9 + 2 * i + k)
def byF (f : Nat → Int32) (p : Nat) : Bool := decide (oF f p 2 = 1)
def isF (f : Nat → Int32) (x : Int32) : Bool := inR x 0 (f 0 - 1)
/-- what ends does: taken back where something was thrown; else the state before goes to the row of the past -/
def endU (U : MV_) (h : Nat) : MV_ := if U.1 2 ≤ 0 then mI (mR U 3 (va_cpy (U.2 1) (if h = 8 then va_cpy (U.2 3) (U.2 3) 147 0 1029 else U.2 3) 0 (147 * (if h = 8 then 7 else h)) 147)) 1 (nI ((if h = 8 then 7 else h) + 1)) else mR U 0 (va_cpy (U.2 1) (U.2 0) 0 0 147)
def endA (U : MV_) (x : Int32) : Int32 := if U.1 2 ≤ 0 then x else 0
/-- the last place with p, of the first n -/
def lst (p : Nat → Bool) (n : Nat) : Option Nat := fr (fun k o => if p k = true then some k else o) n none
theorem lst_t {p : Nat → Bool} {k : Nat} {o : Option Nat} (h : o = lst p k) (hp : p k = true) : some k = lst p (k + 1) := (if_pos hp).symm
theorem lst_f {p : Nat → Bool} {k : Nat} {o : Option Nat} (h : o = lst p k) (hp : p k = false) : o = lst p (k + 1) := h.trans (if_neg (by rw [hp]; decide)).symm
theorem lst_lt {p : Nat → Bool} : ∀ {n j : Nat}, lst p n = some j → j < n ∧ p j = true
  | 0, j, h => by cases h
  | n + 1, j, h => by
    by_cases hp : p n = true
    · rw [← lst_t rfl hp] at h; cases h; exact ⟨by omega, hp⟩
    · rw [← lst_f rfl (by simpa using hp)] at h
      have := lst_lt h
      exact ⟨by omega, this.2⟩
def plF (f : Nat → Int32) (x : Int32) (n : Nat) : Option Nat := lst (fun p => decide (oF f p 0 = x)) n
/-- what a stall has free: money for 0, drops for 1 -/
def fqC (f : Nat → Int32) (i : Nat) (b : Bool) (p : Nat) : Bool := decide (oF f p 1 = nI i) && decide (byF f p = b)
def fqV (f : Nat → Int32) (b : Bool) (p : Nat) : Int32 := oF f p 4 * (if b = true then oF f p 3 else 1)
def fqR (f : Nat → Int32) (i : Nat) (b : Bool) (n : Nat) : Int32 := fr (fun p s => s - (if fqC f i b p = true then fqV f b p else 0)) n (sF f i (if b = true then 0 else 1))
def mdF (f : Nat → Int32) (b : Bool) (p j : Nat) : Int32 := if b = true then oF f p 3 - oF f j 3 else oF f j 3 - oF f p 3
def mbs (f : Nat → Int32) (b : Bool) (p : Nat) (o : Option Nat) : Option Nat := if byF f p = b then (match o with
  | none => some p
  | some j => if mdF f b p j ≤ 0 then some j else some p) else o
def mbF (f : Nat → Int32) (b : Bool) (n : Nat) : Option Nat := fr (mbs f b) n none
theorem mb_s (f : Nat → Int32) (b : Bool) (k : Nat) : mbF f b (k + 1) = mbs f b k (mbF f b k) := rfl
theorem mbs_n {f : Nat → Int32} {b : Bool} {k : Nat} {o : Option Nat} (h : ¬ byF f k = b) : mbs f b k o = o := if_neg h
theorem mbs_0 {f : Nat → Int32} {b : Bool} {k : Nat} (h : byF f k = b) : mbs f b k none = some k := if_pos h
theorem mbs_t {f : Nat → Int32} {b : Bool} {k j : Nat} (h : byF f k = b) (ha : ¬ mdF f b k j ≤ 0) : mbs f b k (some j) = some k := (if_pos h).trans (if_neg ha)
theorem mbs_f {f : Nat → Int32} {b : Bool} {k j : Nat} (h : byF f k = b) (ha : mdF f b k j ≤ 0) : mbs f b k (some j) = some j := (if_pos h).trans (if_pos ha)
theorem mb_lt {f : Nat → Int32} {b : Bool} : ∀ {n j : Nat}, mbF f b n = some j → j < n
  | 0, j, h => by cases h
  | n + 1, j, h => by
    rw [mb_s] at h
    by_cases hb : byF f n = b
    · cases ho : mbF f b n with
      | none => rw [ho, mbs_0 hb] at h; cases h; omega
      | some q =>
        rw [ho] at h
        have hq := mb_lt ho
        by_cases ha : mdF f b n q ≤ 0
        · rw [mbs_f hb ha] at h; cases h; omega
        · rw [mbs_t hb ha] at h; cases h; omega
    · rw [mbs_n hb] at h
      have := mb_lt h
      omega
def smC (f : Nat → Int32) (b : Bool) (lo hi : Int32) (p : Nat) : Bool := decide (byF f p = b) && inR (oF f p 3) lo hi
def smF (f : Nat → Int32) (b : Bool) (lo hi : Int32) (n : Nat) : Int32 := fr (fun p s => s + (if smC f b lo hi p = true then oF f p 4 else 0)) n 0
def drF (f : Nat → Int32) (n p : Nat) : Nat → Int32 := va_cpy (upd f 1 (nI (n - 1))) (upd f 1 (nI (n - 1))) (21 + 6 * p + 6) (21 + 6 * p) (6 * (n - 1 - p))
def tqF (f : Nat → Int32) (p : Nat) (t : Int32) : Nat → Int32 := upd f (21 + 6 * p + 4) (f (21 + 6 * p + 4) - t)
def taF (f : Nat → Int32) (n p : Nat) (t : Int32) : Nat → Int32 := if oF (tqF f p t) p 4 = 0 then drF (tqF f p t) n p else tqF f p t
def pyF (f : Nat → Int32) (bu se : Nat) (pr q : Int32) : Nat → Int32 :=
  let f1 := upd f (9 + 2 * bu) (f (9 + 2 * bu) - pr * q)
  let f2 := upd f1 (9 + 2 * se) (f1 (9 + 2 * se) + pr * q)
  let f3 := upd f2 (9 + 2 * bu + 1) (f2 (9 + 2 * bu + 1) + q)
  let f4 := upd f3 (9 + 2 * se + 1) (f3 (9 + 2 * se + 1) - q)
  let f5 := upd f4 5 pr
  let f6 := upd f5 6 (f5 6 + 1)
  let f7 := upd f6 7 (f6 7 + q)
  upd f7 8 (f7 8 + pr * q)
def nF (f : Nat → Int32) : Nat := (f 1).toNatClampNeg
def tF (f : Nat → Int32) : Nat := (f 0).toNatClampNeg
def wF (f : Nat → Int32) (p : Nat) : Nat := (oF f p 1).toNatClampNeg
/-- the counts are counts, the orders' stalls are stalls -/
def okF (f : Nat → Int32) : Prop := f 1 = nI (nF f) ∧ nF f ≤ 20 ∧ f 0 = nI (tF f) ∧ tF f ≤ 6 ∧ ∀ p, p < nF f → oF f p 1 = nI (wF f p) ∧ wF f p < tF f
theorem py_hi {f : Nat → Int32} {bu se : Nat} {pr q : Int32} (hb : bu < 6) (hs : se < 6) {j : Nat} (hj : 21 ≤ j) : pyF f bu se pr q j = f j := by
  unfold pyF
  rw [pk_un (by omega), pk_un (by omega), pk_un (by omega), pk_un (by omega), pk_un (by omega), pk_un (by omega), pk_un (by omega), pk_un (by omega)]
theorem py_lo {f : Nat → Int32} {bu se : Nat} {pr q : Int32} {j : Nat} (hj : j < 5) : pyF f bu se pr q j = f j := by
  unfold pyF
  rw [pk_un (by omega), pk_un (by omega), pk_un (by omega), pk_un (by omega), pk_un (by omega), pk_un (by omega), pk_un (by omega), pk_un (by omega)]
theorem okF_py {f : Nat → Int32} (h : okF f) {bu se : Nat} {pr q : Int32} (hb : bu < 6) (hs : se < 6) : okF (pyF f bu se pr q) ∧ nF (pyF f bu se pr q) = nF f := by
  have e1 : nF (pyF f bu se pr q) = nF f := by unfold nF; rw [py_lo (by omega)]
  have e0 : tF (pyF f bu se pr q) = tF f := by unfold tF; rw [py_lo (by omega)]
  have eo : ∀ p, oF (pyF f bu se pr q) p 1 = oF f p 1 := fun p => py_hi hb hs (by omega)
  refine ⟨⟨by rw [e1, py_lo (by omega)]; exact h.1, by rw [e1]; exact h.2.1, by rw [e0, py_lo (by omega)]; exact h.2.2.1, by rw [e0]; exact h.2.2.2.1, fun p hp => ?_⟩, e1⟩
  rw [e1] at hp
  unfold wF
  rw [eo, e0]
  exact h.2.2.2.2 p hp
theorem dr_lo {f : Nat → Int32} {n q j : Nat} (hj : j < 21 + 6 * q) (h1 : j ≠ 1) : drF f n q j = f j := by
  unfold drF
  rw [pk_cpy_out (Or.inl hj), pk_un h1]
theorem dr_1 {f : Nat → Int32} {n q : Nat} : drF f n q 1 = nI (n - 1) := by
  unfold drF
  rw [pk_cpy_out (Or.inl (by omega)), pk_us]
theorem dr_of {f : Nat → Int32} {n q p k : Nat} (hp : p < n - 1) (hk : k < 6) : oF (drF f n q) p k = if p < q then oF f p k else oF f (p + 1) k := by
  unfold oF
  by_cases h : p < q
  · rw [if_pos h, dr_lo (by omega) (by omega)]
  · rw [if_neg h]
    unfold drF
    rw [pk_cpy_in (by omega) (by omega), pk_un (by omega)]
    congr 1
    omega
theorem okF_dr {f : Nat → Int32} (h : okF f) {q : Nat} (hq : q < nF f) : okF (drF f (nF f) q) ∧ nF (drF f (nF f) q) = nF f - 1 := by
  have hn := h.2.1
  have e1 : nF (drF f (nF f) q) = nF f - 1 := by unfold nF; rw [dr_1]; exact nI_clamp (by unfold nF at hn; omega)
  have e0 : tF (drF f (nF f) q) = tF f := by unfold tF; rw [dr_lo (by omega) (by omega)]
  refine ⟨⟨by rw [e1, dr_1], by omega, by rw [e0, dr_lo (by omega) (by omega)]; exact h.2.2.1, by rw [e0]; exact h.2.2.2.1, fun p hp => ?_⟩, e1⟩
  rw [e1] at hp
  unfold wF
  rw [dr_of hp (by omega), e0]
  split
  · exact h.2.2.2.2 p (by omega)
  · exact h.2.2.2.2 (p + 1) (by omega)
theorem okF_tq {f : Nat → Int32} (h : okF f) (q : Nat) (t : Int32) : okF (tqF f q t) ∧ nF (tqF f q t) = nF f := by
  have e1 : nF (tqF f q t) = nF f := by unfold nF tqF; rw [pk_un (by omega)]
  have e0 : tF (tqF f q t) = tF f := by unfold tF tqF; rw [pk_un (by omega)]
  have eo : ∀ p, oF (tqF f q t) p 1 = oF f p 1 := fun p => by unfold oF tqF; rw [pk_un (by omega)]
  refine ⟨⟨by rw [e1]; unfold tqF; rw [pk_un (by omega)]; exact h.1, by rw [e1]; exact h.2.1, by rw [e0]; unfold tqF; rw [pk_un (by omega)]; exact h.2.2.1, by rw [e0]; exact h.2.2.2.1, fun p hp => ?_⟩, e1⟩
  rw [e1] at hp
  unfold wF
  rw [eo, e0]
  exact h.2.2.2.2 p hp
theorem okF_ta {f : Nat → Int32} (h : okF f) {q : Nat} (hq : q < nF f) (t : Int32) : okF (taF f (nF f) q t) ∧ nF (taF f (nF f) q t) ≤ nF f ∧ nF f ≤ nF (taF f (nF f) q t) + 1 := by
  have h1 := okF_tq h q t
  unfold taF
  split
  · have h2 := okF_dr h1.1 (q := q) (by omega)
    rw [h1.2] at h2
    exact ⟨h2.1, by omega, by omega⟩
  · exact ⟨h1.1, by omega, by omega⟩
theorem mR_mR {U : MV_} {k : Nat} {f g : Nat → Int32} : mR (mR U k f) k g = mR U k g := by
  unfold mR
  congr 1
  funext j
  by_cases h : j = k
  · subst h; simp [va_up]
  · simp [va_up, h]
/-- one meeting of a new order with the book -/
def mtT (f : Nat → Int32) (x : Int32) (j : Nat) : Int32 := mmin x (oF f j 4)
def mtS (b : Bool) (i : Nat) (f : Nat → Int32) (x : Int32) (j : Nat) : Nat → Int32 := taF (pyF f (if b = true then i else wF f j) (if b = true then wF f j else i) (oF f j 3) (mtT f x j)) (nF f) j (mtT f x j)
def mtR (b : Bool) (i : Nat) (pr : Int32) : Nat → (Nat → Int32) → Int32 → (Nat → Int32) × Int32
  | 0, f, x => (f, x)
  | v + 1, f, x => if x ≤ 0 then (f, x) else match mbF f (!b) (nF f) with
    | none => (f, x)
    | some j => if tnB b pr (oF f j 3) = true then mtR b i pr v (mtS b i f x j) (x - mtT f x j) else (f, x)
theorem mtR_x {b : Bool} {i : Nat} {pr x : Int32} {f : Nat → Int32} (h : x ≤ 0) : ∀ v, mtR b i pr v f x = (f, x)
  | 0 => rfl
  | v + 1 => if_pos h
theorem mtR_n {b : Bool} {i : Nat} {pr x : Int32} {f : Nat → Int32} (h : mbF f (!b) (nF f) = none) : ∀ v, mtR b i pr v f x = (f, x)
  | 0 => rfl
  | v + 1 => by rw [mtR]; split; rfl; rw [h]
theorem mtR_s {b : Bool} {i : Nat} {pr x : Int32} {f : Nat → Int32} {j : Nat} (h : mbF f (!b) (nF f) = some j) (hb : tnB b pr (oF f j 3) = false) : ∀ v, mtR b i pr v f x = (f, x)
  | 0 => rfl
  | v + 1 => by rw [mtR]; split; rfl; rw [h]; exact if_neg (by rw [hb]; decide)
theorem mtR_g {b : Bool} {i : Nat} {pr x : Int32} {f : Nat → Int32} {j : Nat} (hx : ¬ x ≤ 0) (h : mbF f (!b) (nF f) = some j) (hb : tnB b pr (oF f j 3) = true) (v : Nat) : mtR b i pr (v + 1) f x = mtR b i pr v (mtS b i f x j) (x - mtT f x j) := by
  rw [mtR, if_neg hx, h]
  exact if_pos hb
theorem mtS_ok {b : Bool} {i : Nat} {x : Int32} {f : Nat → Int32} {j : Nat} (h : okF f) (hi : i < 6) (hj : j < nF f) : okF (mtS b i f x j) ∧ nF (mtS b i f x j) ≤ nF f := by
  have hw := h.2.2.2.2 j hj
  have ht := h.2.2.2.1
  have h1 := okF_py (bu := if b = true then i else wF f j) (se := if b = true then wF f j else i) (pr := oF f j 3) (q := mtT f x j) h (by split <;> omega) (by split <;> omega)
  have h2 := okF_ta h1.1 (q := j) (by omega) (mtT f x j)
  rw [h1.2] at h2
  exact ⟨h2.1, h2.2.1⟩
theorem okF_of {f g : Nat → Int32} (h : okF f) (e0 : g 0 = f 0) (e1 : g 1 = f 1) (eo : ∀ p, p < nF f → oF g p 1 = oF f p 1) : okF g ∧ nF g = nF f := by
  have n1 : nF g = nF f := by unfold nF; rw [e1]
  have n0 : tF g = tF f := by unfold tF; rw [e0]
  refine ⟨⟨by rw [n1, e1]; exact h.1, by rw [n1]; exact h.2.1, by rw [n0, e0]; exact h.2.2.1, by rw [n0]; exact h.2.2.2.1, fun p hp => ?_⟩, n1⟩
  rw [n1] at hp
  unfold wF
  rw [eo p hp, n0]
  exact h.2.2.2.2 p hp
theorem inR_t {x : Int32} {lo hi : Nat} (hl : hi < 2 ^ 31) (hx : inR x (nI lo) (nI hi) = true) (hlh : lo ≤ hi) : ∃ i, x = nI i ∧ lo ≤ i ∧ i ≤ hi := by
  unfold inR at hx
  simp only [Bool.and_eq_true, Bool.not_eq_true', decide_eq_false_iff_not] at hx
  obtain ⟨h1, h2⟩ := hx
  have h0 : ¬ x < 0 := by
    rw [Int32.lt_iff_toInt_lt, nI_toInt (by omega)] at h1
    rw [Int32.lt_iff_toInt_lt, show (0 : Int32).toInt = 0 by decide]
    omega
  obtain ⟨j, hj, rfl⟩ := nI_of h0
  rw [nI_ltI hj (by omega)] at h1
  rw [nI_ltI (by omega) hj] at h2
  exact ⟨j, rfl, by omega, by omega⟩
def asM (U : MV_) (x y : Int32) : MV_ × Int32 := if (inR x 0 9999 && inR y 0 999) = false then (mI U 2 1, 0) else if tF (U.2 0) = 6 then (mI U 2 2, 0) else
  (mR U 0 (upd (upd (upd (U.2 0) (9 + 2 * tF (U.2 0)) x) (9 + 2 * tF (U.2 0) + 1) y) 0 (nI (tF (U.2 0) + 1))), nI (tF (U.2 0)))
def caM (U : MV_) (x : Int32) : MV_ × Int32 := match plF (U.2 0) x (nF (U.2 0)) with
  | none => (mI U 2 1, 0)
  | some j => (mR U 0 (drF (U.2 0) (nF (U.2 0)) j), oF (U.2 0) j 4)
def opnM (U : MV_) : MV_ × Int32 := if U.2 0 4 = 1 then (mI U 2 1, 0) else (mR U 0 (upd (U.2 0) 4 1), U.2 0 1)
def voF (f : Nat → Int32) (n : Nat) (x : Int32) : Int32 := mmin (smF f true x 99 n) (smF f false 1 x n)
theorem fr_s {α : Type} (f : Nat → α → α) (n : Nat) (a : α) : fr f (n + 1) a = f n (fr f n a) := rfl
/-- one price of the pool: price, most, least -/
def poF (f : Nat → Int32) (n : Nat) (x : Int32) (a : Int32 × Int32 × Int32) : Int32 × Int32 × Int32 :=
  if a.2.1 < voF f n x ∨ (¬ voF f n x ≤ 0 ∧ voF f n x = a.2.1 ∧ mmax (smF f true x 99 n) (smF f false 1 x n) - voF f n x < a.2.2) then (x, voF f n x, mmax (smF f true x 99 n) (smF f false 1 x n) - voF f n x) else a
def poR (f : Nat → Int32) (n k : Nat) : Int32 × Int32 × Int32 := fr (fun j a => poF f n (nI (j + 1)) a) k (-1, 0, 0)
/-- a minute at one place, and all places -/
def psS (f : Nat → Int32) (p : Nat) : Nat → Int32 := upd f (21 + 6 * p + 5) (f (21 + 6 * p + 5) - if oF f p 5 ≤ 0 then 0 else 1)
def psI : Nat → Nat → (Nat → Int32) → Int32 → (Nat → Int32) × Int32
  | 0, _, f, x => (f, x)
  | v + 1, p, f, x => if nF f ≤ p then (f, x) else if oF f p 5 = 1 then psI v p (drF (psS f p) (nF f) p) (x + 1) else psI v (p + 1) (psS f p) (x + 0)
def tmS (f : Nat → Int32) : Nat → Int32 := upd f 3 (f 3 + 1)
def psG (a : (Nat → Int32) × Int32) : (Nat → Int32) × Int32 := psI 21 0 (tmS a.1) a.2
def psO (f : Nat → Int32) (n : Nat) : (Nat → Int32) × Int32 := fr (fun _ a => psG a) n (f, 0)
def psM (U : MV_) (x : Int32) : MV_ × Int32 := if inR x 1 60 = false then (mI U 2 1, 0) else (mR U 0 (psO (U.2 0) x.toNatClampNeg).1, (psO (U.2 0) x.toNatClampNeg).2)
theorem okF_ps {f : Nat → Int32} (h : okF f) (p : Nat) : okF (psS f p) ∧ nF (psS f p) = nF f :=
  okF_of h (pk_un (by omega)) (pk_un (by omega)) (fun q _ => by unfold oF psS; exact pk_un (by omega))
theorem okF_tm {f : Nat → Int32} (h : okF f) : okF (tmS f) ∧ nF (tmS f) = nF f :=
  okF_of h (pk_un (by omega)) (pk_un (by omega)) (fun q _ => by unfold oF tmS; exact pk_un (by omega))
theorem okF_pd {f : Nat → Int32} (h : okF f) {p : Nat} (hp : p < nF f) : okF (drF (psS f p) (nF f) p) ∧ nF (drF (psS f p) (nF f) p) = nF f - 1 := by
  have h1 := okF_ps h p
  have h2 := okF_dr h1.1 (q := p) (by rw [h1.2]; exact hp)
  rw [h1.2] at h2
  exact h2
/-- which exception an order throws, or 0 -/
def opC (f : Nat → Int32) (x : Int32) (b : Bool) (pr q mi : Int32) : Int32 :=
  if isF f x = false then 1
  else if (inR pr 1 99 && inR q 1 50 && decide (mi ≤ 60)) = false then 2
  else if (if mi = -1 then decide (f 4 = 1) else decide (f 1 = 20)) = true then 3
  else if (if b = true then decide (fqR f x.toNatClampNeg true (nF f) < pr * q) else decide (fqR f x.toNatClampNeg false (nF f) < q)) = true then 4 else 0
def nxF (f : Nat → Int32) : Nat → Int32 := upd f 2 (f 2 + 1)
/-- what it trades at once -/
def opT (f : Nat → Int32) (i : Nat) (b : Bool) (pr q : Int32) : (Nat → Int32) × Int32 := if nxF f 4 = 1 then (nxF f, q) else mtR b i pr 21 (nxF f) q
def opV (f : Nat → Int32) (num : Int32) (i : Nat) (b : Bool) (pr q mi : Int32) : Nat → Int32 :=
  upd (upd (upd (upd (upd (upd f (21 + 6 * nF f) num) (21 + 6 * nF f + 1) (nI i)) (21 + 6 * nF f + 2) (bI b)) (21 + 6 * nF f + 3) pr) (21 + 6 * nF f + 4) q) (21 + 6 * nF f + 5) mi
def opW (f : Nat → Int32) (num : Int32) (i : Nat) (b : Bool) (pr q mi : Int32) : Nat → Int32 := upd (opV f num i b pr q mi) 1 (nI (nF f + 1))
def opE (U : MV_) (i : Nat) (b : Bool) (pr q mi : Int32) (t : (Nat → Int32) × Int32) : MV_ × Int32 :=
  if mi = -1 then (mR U 0 t.1, q - t.2) else if t.2 ≤ 0 then (mR U 0 t.1, U.2 0 2) else (mR U 0 (opW t.1 (U.2 0 2) i b pr t.2 mi), U.2 0 2)
def opM (U : MV_) (x : Int32) (b : Bool) (pr q mi : Int32) : MV_ × Int32 :=
  if opC (U.2 0) x b pr q mi = 0 then opE U x.toNatClampNeg b pr q mi (opT (U.2 0) x.toNatClampNeg b pr q) else (mI U 2 (opC (U.2 0) x b pr q mi), 0)
theorem okF_nx {f : Nat → Int32} (h : okF f) : okF (nxF f) ∧ nF (nxF f) = nF f :=
  okF_of h (pk_un (by omega)) (pk_un (by omega)) (fun q _ => by unfold oF nxF; exact pk_un (by omega))
theorem mb_by {f : Nat → Int32} {b : Bool} : ∀ {n j : Nat}, mbF f b n = some j → byF f j = b
  | 0, j, h => by cases h
  | n + 1, j, h => by
    rw [mb_s] at h
    by_cases hb : byF f n = b
    · cases ho : mbF f b n with
      | none => rw [ho, mbs_0 hb] at h; cases h; exact hb
      | some q =>
        rw [ho] at h
        have hq := mb_by ho
        by_cases ha : mdF f b n q ≤ 0
        · rw [mbs_f hb ha] at h; cases h; exact hq
        · rw [mbs_t hb ha] at h; cases h; exact hb
    · rw [mbs_n hb] at h
      exact mb_by h
theorem mR_2 {U : MV_} {k : Nat} {f : Nat → Int32} : (mR U k f).2 k = f := by simp [mR, va_up]
/-- one meeting in the pool -/
def clT (f : Nat → Int32) (x : Int32) (j k : Nat) : Int32 := mmin x (mmin (oF f j 4) (oF f k 4))
def clA (f : Nat → Int32) (x price : Int32) (j k : Nat) : Nat → Int32 := taF (pyF f (wF f j) (wF f k) price (clT f x j k)) (nF f) (max j k) (clT f x j k)
def clS (f : Nat → Int32) (x price : Int32) (j k : Nat) : Nat → Int32 := taF (clA f x price j k) (nF (clA f x price j k)) (min j k) (clT f x j k)
def clR (price : Int32) : Nat → (Nat → Int32) → Int32 → Option (Nat → Int32)
  | 0, f, x => if x ≤ 0 then some f else none
  | v + 1, f, x => if x ≤ 0 then some f else match mbF f true (nF f), mbF f false (nF f) with
    | some j, some k => clR price v (clS f x price j k) (x - clT f x j k)
    | _, _ => none
def clP (f : Nat → Int32) : Int32 := (poR f (nF f) 99).1
def clV (f : Nat → Int32) : Int32 := if clP f < 0 then 0 else voF f (nF f) (clP f)
def clG (f : Nat → Int32) : Option (Nat → Int32) := clR (clP f) 41 f (clV f)
def clM (U : MV_) : MV_ × Int32 := if U.2 0 4 = 0 then (mI U 2 1, 0) else match clG (U.2 0) with
  | none => (U, 0)
  | some g => (mR U 0 (upd (upd g 1 0) 4 0), clV (U.2 0))
theorem clP_e (f : Nat → Int32) : (poR f (nF f) 99).1 = clP f := by rw [clP]
theorem clM_g {U : MV_} {g : Nat → Int32} (h : ¬ U.2 0 4 = 0) (hg : clG (U.2 0) = some g) : clM U = (mR U 0 (upd (upd g 1 0) 4 0), clV (U.2 0)) := by
  rw [clM, if_neg h, hg]
def kpU (U : MV_) : MV_ := mR (mI U 2 0) 1 (va_cpy (U.2 0) (U.2 1) 0 0 147)
theorem mR_1 {U : MV_} {k : Nat} {f : Nat → Int32} : (mR U k f).1 = U.1 := rfl
def beB (f : Nat → Int32) (b : Bool) : Bool := (mbF f b (nF f)).isSome
def beV (f : Nat → Int32) (b : Bool) (k : Nat) : Int32 := match mbF f b (nF f) with
  | none => 0
  | some j => oF f j k
def toR (f : Nat → Int32) (k t : Nat) : Int32 := fr (fun i a => a + sF f i k) t 0
def abC (f : Nat → Int32) (i o : Nat) : Bool := !decide (sF f o 0 - sF f i 0 ≤ 0) || (decide (sF f o 0 - sF f i 0 = 0) && decide (o < i))
def abR (f : Nat → Int32) (i t : Nat) : Int32 := fr (fun o a => a + (if abC f i o = true then 1 else 0)) t 0
def sbR (f : Nat → Int32) (x : Int32) (t k : Nat) : Int32 := fr (fun i a => if abR f i t = x then nI i else a) k 0
def spB (f : Nat → Int32) : Bool := beB f true && beB f false
def spV (f : Nat → Int32) : Int32 := if spB f = true then beV f false 3 - beV f true 3 else 0
def sbV (f : Nat → Int32) (x : Int32) : Int32 := if isF f x = true then sbR f x (tF f) (tF f) else 0
def unM (U : MV_) (h : Nat) : MV_ × Int32 := if h = 0 then (mI U 2 1, 0) else (mR (mI (mI U 2 0) 1 (nI (h - 1))) 0 (va_cpy (U.2 3) (U.2 0) (147 * (h - 1)) 0 147), nI (h - 1))
def svM (U : MV_) : MV_ × Int32 := (mI (mR (mI U 2 0) 2 (va_cpy (U.2 0) (U.2 2) 0 0 147)) 0 1, U.2 0 1)
def reM (U : MV_) : MV_ × Int32 := if U.1 0 = 0 then (mI U 2 1, 0) else (mI (mR (mI U 2 0) 0 (va_cpy (U.2 2) (U.2 0) 0 0 147)) 1 0, va_cpy (U.2 2) (U.2 0) 0 0 147 1)
def tyM (U : MV_) (x : Int32) (n : Nat) : MV_ × Int32 := if inR x 32 126 = false then (mI U 2 1, 0) else if n = 60 then (mI U 2 2, 0) else (mI (mR (mI U 2 0) 5 (upd (U.2 5) n (vp_nar .char x))) 4 (nI (n + 1)), nI (n + 1))
def isCh (x : Int32) : Prop := ∃ q : Nat, q < 65536 ∧ x = nI q
def beC (U : MV_) (ln : Nat) (t k : Nat) : Int32 := if t + k < ln then U.2 5 (t + k) else -1
/-- signs put down one by one -/
def puL (f : Nat → Int32) : Nat → List Int32 → Nat → Int32
  | _, [] => f
  | k, c :: t => puL (upd f k (vp_nar .char c)) (k + 1) t
def syU (U : MV_) (k : Nat) (t : List Int32) : MV_ := mI (mR U 4 (puL (U.2 4) k t)) 3 (nI (k + t.length))
/-- the digits of a number -/
def dgL : Nat → Nat → List Int32
  | 0, n => [nI (48 + n % 10)]
  | t + 1, n => if n ≤ 9 then [nI (48 + n % 10)] else dgL t (n / 10) ++ [nI (48 + n % 10)]
theorem dgL_len : ∀ {t n : Nat}, (dgL t n).length ≤ t + 1 ∧ 1 ≤ (dgL t n).length
  | 0, n => ⟨Nat.le_refl _, Nat.le_refl _⟩
  | t + 1, n => by
    rw [dgL]
    split
    · exact ⟨by simp, by simp⟩
    · have := @dgL_len t (n / 10)
      rw [List.length_append, List.length_singleton]
      omega
def amL (q n : Nat) : List Int32 := dgL 4 q ++ [120] ++ dgL 4 n
theorem amL_len {q n : Nat} : (amL q n).length ≤ 11 ∧ 3 ≤ (amL q n).length := by
  have h1 := @dgL_len 4 q
  have h2 := @dgL_len 4 n
  unfold amL
  simp only [List.length_append, List.length_singleton]
  omega
/-- the numbers that lines show are short -/
def okL (f : Nat → Int32) : Prop := (∀ q, q < nF f → (∃ a, a < 100000 ∧ oF f q 0 = nI a) ∧ (∃ a, a < 100000 ∧ oF f q 3 = nI a) ∧ ∃ a, a < 100000 ∧ oF f q 4 = nI a) ∧ ∀ b j, mbF f b (nF f) = some j → ∃ a, a < 100000 ∧ smF f b (oF f j 3) (oF f j 3) (nF f) = nI a
theorem pl_is {f : Nat → Int32} {x : Int32} {n j : Nat} (h : plF f x n = some j) : oF f j 0 = x := by
  have := (lst_lt h).2
  simpa using this
def wrL (f : Nat → Int32) (j : Nat) : List Int32 := dgL 4 (oF f j 0).toNatClampNeg ++ [if byF f j = true then 98 else 115] ++ amL (oF f j 4).toNatClampNeg (oF f j 3).toNatClampNeg
def woM (U : MV_) (x : Int32) : MV_ × Int32 := match plF (U.2 0) x (nF (U.2 0)) with
  | none => (mI U 2 1, 0)
  | some j => (syU (mI (mI U 2 0) 3 0) 0 (wrL (U.2 0) j), nI (0 + (wrL (U.2 0) j).length))
def sbL (f : Nat → Int32) (b : Bool) : List Int32 := match mbF f b (nF f) with
  | none => [45]
  | some j => amL (smF f b (oF f j 3) (oF f j 3) (nF f)).toNatClampNeg (oF f j 3).toNatClampNeg
theorem sbL_len {f : Nat → Int32} {b : Bool} : (sbL f b).length ≤ 11 := by
  unfold sbL
  split
  · simp
  · exact amL_len.1
def wbL (f : Nat → Int32) : List Int32 := sbL f true ++ [47] ++ sbL f false
def skR (U : MV_) (n : Nat) : List Int32 → Nat → Bool → Nat × Bool
  | [], t, w => (t, w)
  | c :: L, t, w => if w = true then (t, w) else if beC U n t 0 = c &&& 255 then skR U n L (t + 1) false else (t, true)
def idB (U : MV_) (n t : Nat) (w : Bool) : Bool := !w && inR (beC U n t 0) 48 57
/-- ways that join -/
theorem w_join {σ : Type} {p : Program} {l : Launch} {e : Env} {R : Room} {s : State} {m : MethodId} {args : Array Value} {below : List Frame} {meth : Method} {c : Code} {Q : State → Prop} {pc0 pc1 : Nat} {H0 : Heap} {locs0 : List Loc} {ls0 : Array Slot} {st0 : List Value} {c0 s0 : Nat} (G : Gx) (I : σ → Prop) (Wf : σ → va_W) (cf sf : σ → Nat) (Lf : σ → List (Nat × Value)) (Sf : σ → List Value) (nL : Nat)
    (ways : (∀ x : σ, I x → ∀ (H : Heap) (locs : List Loc), WH G s (Wf x) H locs → ∀ ls : Array Slot, lv_has ls nL (Lf x) → W p l e R s m args below meth c H locs (cf x) (sf x) Q (F0 m pc1 ls (Sf x))) → W p l e R s m args below meth c H0 locs0 c0 s0 Q (F0 m pc0 ls0 st0))
    (cont : ∀ x : σ, I x → ∀ (H : Heap) (locs : List Loc), WH G s (Wf x) H locs → ∀ ls : Array Slot, lv_has ls nL (Lf x) → W p l e R s m args below meth c H locs (cf x) (sf x) Q (F0 m pc1 ls (Sf x))) : W p l e R s m args below meth c H0 locs0 c0 s0 Q (F0 m pc0 ls0 st0) := ways cont
/-- the digits of a number: how far, and the number -/
def nmR (U : MV_) (n : Nat) (w : Bool) : Nat → Nat → Int32 → Nat × Int32
  | 0, t, x => (t, x)
  | k + 1, t, x => if idB U n t w = true then nmR U n w k (t + 1) (10 * x + U.2 5 t - 48) else (t, x)
/-- a blank and a number of some digits -/
def rnM (U : MV_) (n mo t : Nat) (w : Bool) : (Nat × Bool) × Int32 :=
  let a := skR U n [32] t w
  let v := a.2 || !idB U n a.1 a.2
  (((nmR U n v mo a.1 0).1, v), (nmR U n v mo a.1 0).2)
def rcK (f s : Int32) : Int32 := if f = 115 ∧ s = 116 then 116 else if f = 99 ∧ s = 108 then 108 else if f = 116 ∨ f = 108 then 111 else f
def vbL (k : Int32) : List Int32 × List Nat := if k = 116 then ([115, 116, 97, 108, 108], [3, 3]) else if k = 98 then ([98, 117, 121], [1, 3, 3]) else if k = 115 then ([115, 101, 108, 108], [1, 3, 3]) else if k = 99 then ([99, 97, 110, 99, 101, 108], [3]) else if k = 112 then ([112, 97, 115, 115], [3]) else if k = 108 then ([99, 108, 111, 115, 101], []) else ([111, 112, 101, 110], [])
def rdP (U : MV_) (n : Nat) : List Nat → Nat → Nat × Bool → (Nat → Int32) → (Nat × Bool) × (Nat → Int32)
  | [], _, a, c => (a, c)
  | m :: ms, i, a, c => rdP U n ms (i + 1) (rnM U n m a.1 a.2).1 (upd c i (rnM U n m a.1 a.2).2)
def rcN (U : MV_) (n t cm : Nat) (c : Nat → Int32) (k : Int32) : (Nat × Bool) × Nat × (Nat → Int32) :=
  ((rdP U n (vbL k).2 (4 * cm + 1) (skR U n (vbL k).1 t false) (upd c (4 * cm) k)).1, cm + 1, (rdP U n (vbL k).2 (4 * cm + 1) (skR U n (vbL k).1 t false) (upd c (4 * cm) k)).2)
def rcM (U : MV_) (n t : Nat) (w : Bool) (cm : Nat) (c : Nat → Int32) : (Nat × Bool) × Nat × (Nat → Int32) :=
  if w = true then ((t, w), cm, c) else rcN U n t cm c (rcK (beC U n t 0) (beC U n t 1))
def doC (U : MV_) (k : Nat) : MV_ := if U.2 6 (4 * k) = 116 then (asM U (U.2 6 (4 * k + 1)) (U.2 6 (4 * k + 2))).1 else if U.2 6 (4 * k) = 98 then (opM U (U.2 6 (4 * k + 1)) true (U.2 6 (4 * k + 2)) (U.2 6 (4 * k + 3)) 0).1 else if U.2 6 (4 * k) = 115 then (opM U (U.2 6 (4 * k + 1)) false (U.2 6 (4 * k + 2)) (U.2 6 (4 * k + 3)) 0).1 else if U.2 6 (4 * k) = 99 then (caM U (U.2 6 (4 * k + 1))).1 else if U.2 6 (4 * k) = 112 then (psM U (U.2 6 (4 * k + 1))).1 else if U.2 6 (4 * k) = 108 then (clM U).1 else (opnM U).1
def rdA (U : MV_) (n : Nat) : Nat → Nat × Bool → Nat → (Nat → Int32) → (Nat × Bool) × Nat × (Nat → Int32)
  | 0, a, cm, c => (a, cm, c)
  | v + 1, a, cm, c => if a.2 = false ∧ beC U n a.1 0 = 59 then rdA U n v (rcM U n (a.1 + 1) false cm c).1 (rcM U n (a.1 + 1) false cm c).2.1 (rcM U n (a.1 + 1) false cm c).2.2 else (a, cm, c)
theorem rdA_s {U : MV_} {n v cm : Nat} {a : Nat × Bool} {c : Nat → Int32} (h : ¬ (a.2 = false ∧ beC U n a.1 0 = 59)) : rdA U n (v + 1) a cm c = (a, cm, c) := by rw [rdA, if_neg h]
theorem rdA_g {U : MV_} {n v cm t : Nat} {c : Nat → Int32} (h : beC U n t 0 = 59) : rdA U n (v + 1) (t, false) cm c = rdA U n v (rcM U n (t + 1) false cm c).1 (rcM U n (t + 1) false cm c).2.1 (rcM U n (t + 1) false cm c).2.2 := by rw [rdA, if_pos ⟨rfl, h⟩]
def exP (U : MV_) (n : Nat) : (Nat × Bool) × Nat × (Nat → Int32) := rdA U n 61 (rcM U n 0 false 0 (U.2 6)).1 (rcM U n 0 false 0 (U.2 6)).2.1 (rcM U n 0 false 0 (U.2 6)).2.2
def exV (U : MV_) (t : Nat) (w : Bool) (cm : Nat) (c : Nat → Int32) (e : Int32) : MV_ := mI (mI (mI (mI (mR (mI U 9 (nI cm)) 6 c) 7 e) 4 0) 5 (nI t)) 6 (bI w)
def exR : Nat → Nat → MV_ → MV_ × Option Nat
  | 0, _, U => (U, none)
  | v + 1, k, U => if (doC U k).1 2 ≤ 0 then exR v (k + 1) (doC U k) else (doC U k, some k)
def exO : Nat → Nat → MV_ → Prop
  | 0, _, _ => True
  | v + 1, k, U => okF (U.2 0) ∧ (U.2 6 (4 * k) = 108 → ¬ U.2 0 4 = 0 → ∃ g, clG (U.2 0) = some g) ∧ ((doC U k).1 2 ≤ 0 → exO v (k + 1) (doC U k))
def exF (h cm : Nat) : MV_ × Option Nat → MV_ × Int32
  | (V, none) => (endU V h, endA V (nI cm))
  | (V, some k) => (endU (mI (mI V 8 (nI k)) 2 2) h, endA (mI (mI V 8 (nI k)) 2 2) 0)
def exB (U : MV_) (n : Nat) : Bool := (exP U n).1.2 || decide ((exP U n).1.1 < n)
def exM (U : MV_) (n h : Nat) : MV_ × Int32 :=
  if exB U n = true then (mI (exV U (exP U n).1.1 true (exP U n).2.1 (exP U n).2.2 (nI (exP U n).1.1)) 2 1, 0)
  else exF h (exP U n).2.1 (exR (exP U n).2.1 0 (kpU (exV U (exP U n).1.1 false (exP U n).2.1 (exP U n).2.2 (U.1 7))))
theorem be_59 {U : MV_} {n t : Nat} (h : beC U n t 0 = 59) : t < n := by
  unfold beC at h
  split at h
  · omega
  · exact absurd h (by decide)
theorem fp_log {A : Nat} (h : A ≠ 0) : 2 ^ A.log2 ≤ A ∧ A < 2 ^ (A.log2 + 1) := ⟨Nat.log2_self_le h, Nat.lt_log2_self⟩
theorem fp_leading {A : Nat} (h : A ≠ 0) : FP.Core.leading A 1 = (A.log2 : Int) := by
  unfold FP.Core.leading
  have h1 : Nat.log2 1 = 0 := by decide
  have h2 := (fp_log h).1
  simp only [h1]
  rw [if_pos]
  · omega
  · have e1 : ((A.log2 : Int) - ((0 : Nat) : Int)).toNat = A.log2 := by omega
    have e2 : (-((A.log2 : Int) - ((0 : Nat) : Int))).toNat = 0 := by omega
    rw [e1, e2]
    omega
theorem fp_near1 (N : Nat) : FP.Core.nearest N 1 = N := by
  unfold FP.Core.nearest
  rw [if_pos (by omega)]
  omega
/-- a whole number but 0, rounded: its first digit stands -/
theorem fp_round {s : Bool} {A : Nat} (h : A ≠ 0) (hA : A < 2 ^ 32) : ∃ c q, FP.Core.roundRatio FP.Core.b64 s A 1 0 = .fin s c q ∧ 2 ^ 52 ≤ c ∧ c < 2 ^ 53 ∧ -52 ≤ q ∧ q ≤ 0 := by
  have hl : A.log2 ≤ 31 := by
    have := (Nat.log2_lt h (k := 32)).mpr hA
    omega
  have hq : FP.Core.quantum FP.Core.b64 A 1 0 = (A.log2 : Int) - 52 := by
    unfold FP.Core.quantum
    rw [fp_leading h]
    have e1 : FP.Core.b64.qmin = -1074 := by decide
    have e2 : ((FP.Core.b64.p : Nat) : Int) = 53 := by decide
    rw [e1, e2]
    omega
  have hu : FP.Core.unitsNum A 0 ((A.log2 : Int) - 52) = A * 2 ^ (52 - A.log2) := by
    unfold FP.Core.unitsNum
    congr 2
    omega
  have hd : FP.Core.unitsDen 1 0 ((A.log2 : Int) - 52) = 1 := by
    unfold FP.Core.unitsDen
    have : ((A.log2 : Int) - 52 - 0).toNat = 0 := by omega
    rw [this]
  obtain ⟨l1, l2⟩ := fp_log h
  have c1 : 2 ^ 52 ≤ A * 2 ^ (52 - A.log2) := by
    have : 2 ^ A.log2 * 2 ^ (52 - A.log2) ≤ A * 2 ^ (52 - A.log2) := Nat.mul_le_mul_right _ l1
    rwa [← Nat.pow_add, show A.log2 + (52 - A.log2) = 52 by omega] at this
  have c2 : A * 2 ^ (52 - A.log2) < 2 ^ 53 := by
    have : A * 2 ^ (52 - A.log2) < 2 ^ (A.log2 + 1) * 2 ^ (52 - A.log2) := Nat.mul_lt_mul_of_pos_right l2 (Nat.two_pow_pos _)
    rwa [← Nat.pow_add, show A.log2 + 1 + (52 - A.log2) = 53 by omega] at this
  refine ⟨A * 2 ^ (52 - A.log2), (A.log2 : Int) - 52, ?_, c1, c2, by omega, by omega⟩
  unfold FP.Core.roundRatio
  rw [if_neg h, hq]
  unfold FP.Core.roundAt
  rw [hu, hd, fp_near1]
  unfold FP.Core.settle
  rw [if_pos (show A * 2 ^ (52 - A.log2) < 2 ^ FP.Core.b64.p from c2)]
  unfold FP.Core.bound
  rw [if_pos]
  have : FP.Core.b64.qmax = 971 := by decide
  omega
theorem fp_dec {s : Bool} {e t : Nat} (he1 : 1 ≤ e) (he2 : e < 2047) (ht : t < 2 ^ 52) : ∃ s' c q, FP.Core.decode FP.Core.b64 (FP.Core.assemble FP.Core.b64 s e t) = .fin s' c q ∧ 2 ^ 52 ≤ c := by
  have hT : FP.Core.b64.tails = 4503599627370496 := by decide
  have hE : FP.Core.b64.exps = 2048 := by decide
  have h52 : (2 : Nat) ^ 52 = 4503599627370496 := by decide
  have e1 : FP.Core.fieldE FP.Core.b64 (FP.Core.assemble FP.Core.b64 s e t) = e := by
    unfold FP.Core.fieldE FP.Core.assemble
    rw [hT, hE]
    have : ((s.toNat * 2048 + e) * 4503599627370496 + t) / 4503599627370496 = s.toNat * 2048 + e := by omega
    rw [this]
    omega
  unfold FP.Core.decode
  rw [e1, hE, if_neg (by omega), if_neg (by omega)]
  exact ⟨_, _, _, rfl, by rw [hT, h52]; exact Nat.le_add_right _ _⟩
theorem fp_i2d (x : Int32) : ∃ s c q, FP.Core.decode FP.Core.b64 (FP.i2d x).toNat = .fin s c q ∧ (x ≠ 0 → c ≠ 0) := by
  have hT : FP.Core.b64.tails = 4503599627370496 := by decide
  have hE : FP.Core.b64.exps = 2048 := by decide
  by_cases hx : x = 0
  · subst hx
    exact ⟨_, _, _, (by decide +kernel : FP.Core.decode FP.Core.b64 (FP.i2d 0).toNat = .fin false 0 (-1074)), fun h => absurd rfl h⟩
  · have hA : x.toInt.natAbs ≠ 0 := fun h => hx (Int32.toInt_inj.mp (by rw [Int32.toInt_zero]; omega))
    have hb : x.toInt.natAbs < 2 ^ 32 := by
      have h1 := Int32.toInt_lt x
      have h2 := Int32.le_toInt x
      omega
    obtain ⟨c, q, hr, h1, h2, h3, h4⟩ := fp_round (s := decide (x.toInt < 0)) hA hb
    have hm : FP.Core.b64.qmin = -1074 := by decide
    have hv : (FP.i2d x).toNat = FP.Core.assemble FP.Core.b64 (decide (x.toInt < 0)) ((q + 1074).toNat + 1) (c - 4503599627370496) := by
      show (UInt64.ofNat (FP.Core.encode FP.Core.b64 (FP.Core.roundRatio FP.Core.b64 (decide (x.toInt < 0)) x.toInt.natAbs 1 0))).toNat = _
      rw [hr]
      unfold FP.Core.encode
      simp only []
      rw [if_neg (by rw [hT]; omega), hT, hm, UInt64.toNat_ofNat_of_lt']
      · rw [show q - -1074 = q + 1074 by omega]
      · unfold FP.Core.assemble
        rw [hT, hE]
        have hs : (decide (x.toInt < 0)).toNat ≤ 1 := by cases decide (x.toInt < 0) <;> decide
        have : UInt64.size = 18446744073709551616 := by decide
        rw [this]
        omega
    obtain ⟨s', c', q', hd, hc⟩ := @fp_dec (decide (x.toInt < 0)) ((q + 1074).toNat + 1) (c - 4503599627370496) (by omega) (by omega) (by omega)
    exact ⟨s', c', q', by rw [hv]; exact hd, fun _ => by omega⟩
theorem fp_enc {s : Bool} {c : Nat} {q : Int} (hc : c < 2 ^ 53) (hq : q ≤ 971) : FP.Core.encode FP.Core.b64 (.fin s c q) % 2 ^ 63 ≤ 9218868437227405312 ∧ FP.Core.encode FP.Core.b64 (.fin s c q) < 2 ^ 64 := by
  have hT : FP.Core.b64.tails = 4503599627370496 := by decide
  have hE : FP.Core.b64.exps = 2048 := by decide
  have hm : FP.Core.b64.qmin = -1074 := by decide
  have hs : s.toNat ≤ 1 := by cases s <;> decide
  unfold FP.Core.encode
  simp only []
  split
  · unfold FP.Core.assemble
    rw [hT, hE]
    rename_i h
    rw [hT] at h
    omega
  · unfold FP.Core.assemble
    rename_i h
    rw [hT] at h
    rw [hT, hE, hm]
    omega
theorem fp_inf (s : Bool) : FP.Core.encode FP.Core.b64 (.inf s) % 2 ^ 63 ≤ 9218868437227405312 ∧ FP.Core.encode FP.Core.b64 (.inf s) < 2 ^ 64 := by cases s <;> decide
theorem fp_rr (s : Bool) (A B : Nat) (e : Int) : FP.Core.encode FP.Core.b64 (FP.Core.roundRatio FP.Core.b64 s A B e) % 2 ^ 63 ≤ 9218868437227405312 ∧ FP.Core.encode FP.Core.b64 (FP.Core.roundRatio FP.Core.b64 s A B e) < 2 ^ 64 := by
  have hT : FP.Core.b64.tails = 4503599627370496 := by decide
  have hm : FP.Core.b64.qmin = -1074 := by decide
  have hM : FP.Core.b64.qmax = 971 := by decide
  unfold FP.Core.roundRatio
  split
  · exact fp_enc (by omega) (by omega)
  · unfold FP.Core.roundAt FP.Core.settle FP.Core.bound
    split
    · split
      · exact fp_enc (by assumption) (by omega)
      · exact fp_inf s
    · split
      · exact fp_enc (by omega) (by omega)
      · exact fp_inf s
theorem fp_n64 {n : Nat} (h : n % 2 ^ 63 ≤ 9218868437227405312 ∧ n < 2 ^ 64) : vf_n64 (UInt64.ofNat n) := by
  unfold vf_n64
  rw [UInt64.le_iff_toNat_le, UInt64.toNat_and, UInt64.toNat_ofNat_of_lt' (by have : UInt64.size = 18446744073709551616 := (by decide); omega)]
  have e1 : (9223372036854775807 : UInt64).toNat = 2 ^ 63 - 1 := by decide
  have e2 : (9218868437227405312 : UInt64).toNat = 9218868437227405312 := by decide
  rw [e1, e2, Nat.and_two_pow_sub_one_eq_mod]
  exact h.1
/-- the mean's quotient is a number -/
theorem fp_ddiv (x y : Int32) (hy : y ≠ 0) : vf_n64 (FP.ddiv (FP.i2d x) (FP.i2d y)) := by
  obtain ⟨s, c, q, h1, -⟩ := fp_i2d x
  obtain ⟨t, d, r, h2, h3⟩ := fp_i2d y
  show vf_n64 (UInt64.ofNat (FP.Core.encode FP.Core.b64 (FP.Core.quotient FP.Core.b64 (FP.Core.decode FP.Core.b64 (FP.i2d x).toNat) (FP.Core.decode FP.Core.b64 (FP.i2d y).toNat))))
  rw [h1, h2]
  unfold FP.Core.quotient
  simp only []
  rw [if_neg (h3 hy)]
  exact fp_n64 (fp_rr _ _ _ _)
theorem fp_fdiv : ∀ a b : Nat, a < 21 → b < 21 → 0 < b → vf_n32 (FP.fdiv (FP.i2f (nI a)) (FP.i2f (nI b))) ∧ vf_n64 (FP.f2d (FP.fdiv (FP.i2f (nI a)) (FP.i2f (nI b)))) := by
  have key : ∀ a : Fin 21, ∀ b : Fin 21, 0 < b.val → (FP.fdiv (FP.i2f (nI a.val)) (FP.i2f (nI b.val)) &&& 0x7fffffff ≤ 0x7f800000) ∧ (FP.f2d (FP.fdiv (FP.i2f (nI a.val)) (FP.i2f (nI b.val))) &&& 0x7fffffffffffffff ≤ 0x7ff0000000000000) := by decide +kernel
  intro a b ha hb h0
  exact key ⟨a, ha⟩ ⟨b, hb⟩ h0
section NEWA
variable {p : Program} {l : Launch} {e : Env} {R : Room} {s : State} {m : MethodId} {args : Array Value} {below : List Frame} {meth : Method} {c : Code} {H : Heap} {locs : List Loc} {cells slots : Nat} {Q : State → Prop}
variable {G : Gx} {own : String} {cc : ByteArray} {nL : Nat} {ret : Option FieldType} {pc : Nat} {ls : Array Slot} {rest st : List Value} {w : va_W}
theorem ra_eq {G : Gx} {s : State} {t0 : Nat} {ty : FieldType} {cA : ClassId} (h1 : va_RA s (G.2.2.1 t0) ty) (h2 : va_RA s cA ty) : cA = G.2.2.1 t0 := by
  cases ty
  case object C =>
    obtain ⟨_, _, -, -, -, e1⟩ := h1
    obtain ⟨_, _, -, -, -, e2⟩ := h2
    exact Option.some.inj (e2.symm.trans e1)
  all_goals exact Option.some.inj (h2.symm.trans h1)
theorem r_newa (C : Cx l G own cc nL ret p s m meth c args) (hw : WH G s w H locs) {atype : ArrayType} {ty : FieldType} (t0 : Nat) (hty : newarray.typeOf atype = ty) (ht : (gT G)[t0]? = some (G.2.2.1 t0, ty)) (hac : Cond.arrayClass (newarray.typeOf atype) ∈ LW) {n : Nat} (hdf : defaultValue ty = .int 0) (hn : n < 2 ^ 31) {w' : Nat → va_W} (hp : ∀ q, List.Perm (w ++ [(q, .inl (G.2.2.1 t0, n, .inl (fun _ => 0)))]) (w' q)) (hbytes : n * componentBytes ty ≤ 536870912) (hcells : cells + 1 ≤ R.cells) (hslots : slots + n ≤ R.slots) (hdg : decode cc pc = .ok (.newarray atype, 2))
    (kk : ∀ (q : Nat) (H : Heap) (locs : List Loc), WH G s (w' q) H locs → W p l e R s m args below meth c H locs (cells + 1) (slots + n) Q (F0 m (pc + 2) ls (.ref q :: rest))) : W p l e R s m args below meth c H locs cells slots Q (F0 m pc ls (.int (nI n) :: rest)) := by
  obtain ⟨hx, hb, hr, hml, hown, hts, -, -, -⟩ := id C
  refine va_newa (D := G.1) (a0 := (n, .inl (fun _ => 0))) hx hb (hts _ hac) hty C.K hw.2.2.1 hw.2.2.2 hw.2.1 (fun q h => Nat.le_trans hw.1.1 h) (fun cA => ?_) (nI_pos hn) (nI_clamp hn) hbytes hcells hslots hdg (fun q cA H1 hK hP hD hS => ?_)
  · show arrV cA n (fun _ => .int 0) = _
    rw [hdf]
  · have e1 : va_RA s (G.2.2.1 t0) ty := ((C.K).2 t0 _ ht).2
    have e2 : va_RA s cA ty := (hK.2 (gT G).length (cA, ty) (by rw [List.getElem?_append_right (Nat.le_refl _), Nat.sub_self]; rfl)).2
    rw [ra_eq e1 e2] at hP hD
    exact kk q H1 _ (WH.perm ⟨hw.1, hS, hP, hD⟩ (hp q))
end NEWA
def bsF (f : Nat → Int32) (n : Nat) : Int32 := fr (fun p a => a + oF f p 2) n 0
