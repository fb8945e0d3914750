/-! The invariant when an order leaves, when minutes and the time change -/
theorem Iv.dr {B : Int} {f : Nat → Int32} (h : Iv B f (fun _ => 0) (fun _ => 0) 0) {j : Nat} (hj : j < nF f) : Iv B (drF f (nF f) j) (fun _ => 0) (fun _ => 0) 0 := by
  obtain ⟨a1, a2, a3, a4, ⟨⟨a5, a6⟩, a7, a8, a9, a10⟩, a11, a12⟩ := h
  have hd := okF_dr a1.1 hj
  have lo : ∀ k, k < 21 → k ≠ 1 → drF f (nF f) j k = f k := fun k hk h1 => dr_lo (by omega) h1
  have et : tF (drF f (nF f) j) = tF f := by unfold tF; rw [lo 0 (by omega) (by omega)]
  have h6 := a1.1.2.2.2.1
  have eof : ∀ k, k < nF f - 1 → ∀ i, i < 6 → oF (drF f (nF f) j) k i = if k < j then oF f k i else oF f (k + 1) i := fun k hk i hi => dr_of hk hi
  have hK : bK (drF f (nF f) j) := by
    refine ⟨hd.1, fun k hk => ?_, fun i k hik hk => ?_⟩
    · rw [hd.2] at hk
      unfold bO
      rw [eof k hk 2 (by omega), eof k hk 3 (by omega), eof k hk 4 (by omega), eof k hk 5 (by omega), eof k hk 0 (by omega), lo 2 (by omega) (by omega)]
      by_cases l : k < j
      · simp only [if_pos l]; exact a1.2.1 k (by omega)
      · simp only [if_neg l]; exact a1.2.1 (k + 1) (by omega)
    · rw [hd.2] at hk
      rw [eof i (by omega) 0 (by omega), eof k hk 0 (by omega)]
      split <;> split
      · exact a1.2.2 i k hik (by omega)
      · exact a1.2.2 i (k + 1) (by omega) (by omega)
      · omega
      · exact a1.2.2 (i + 1) (k + 1) (by omega) (by omega)
  have ez : ∀ w, (∀ s b p, 0 ≤ p → 0 ≤ w s b p) → zq w (drF f (nF f) j) ≤ zq w f := fun w hw => by
    have hz : zs (zw w (drF f (nF f) j)) (nF f - 1) = zs (zw w f) (nF f) - zw w f j := zs_gap hj (fun k hk => by
      unfold zw zk wF byF
      rw [dr_of hk (by omega), dr_of hk (by omega), dr_of hk (by omega), dr_of hk (by omega)]
      split <;> rfl)
    have := zw_nn hw a1 j hj
    show zs _ (nF (drF f (nF f) j)) ≤ zs _ _
    rw [hd.2, hz]
    omega
  have es : ∀ k i, k < 6 → i < 2 → sF (drF f (nF f) j) k i = sF f k i := fun k i hk hi => lo _ (by omega) (by omega)
  have eQ := ez wQ wQ_nn
  refine ⟨hK, by rw [lo 4 (by omega) (by omega)]; exact a2, fun k hk => ?_, ?_, ⟨⟨by rw [lo 8 (by omega) (by omega), lo 7 (by omega) (by omega), lo 6 (by omega) (by omega), lo 5 (by omega) (by omega)]; exact a5, by rw [lo 8 (by omega) (by omega), lo 2 (by omega) (by omega)]; omega⟩, by rw [lo 6 (by omega) (by omega)]; exact a7, by rw [lo 6 (by omega) (by omega), lo 7 (by omega) (by omega)]; exact a8, by rw [lo 6 (by omega) (by omega), lo 7 (by omega) (by omega)]; exact a9, by rw [lo 7 (by omega) (by omega), lo 2 (by omega) (by omega)]; omega⟩, a11, by rw [lo 2 (by omega) (by omega)]; exact a12⟩
  · rw [et] at hk
    have h3 := a3 k hk
    have e1 := ez (wM k) (wM_nn k)
    have e2 := ez (wD k) (wD_nn k)
    rw [es k 0 (by omega) (by omega), es k 1 (by omega) (by omega)]
    omega
  · rw [et, zs_congr (h := fun k => (sF f k 0).toInt) (fun k hk => by rw [es k 0 (by omega) (by omega)]), zs_congr (g := fun k => (sF (drF f (nF f) j) k 1).toInt) (h := fun k => (sF f k 1).toInt) (fun k hk => by rw [es k 1 (by omega) (by omega)])]
    exact a4
/-- cells that the invariant doesn't see but for an order's minutes -/
theorem Iv.cell {B : Int} {f g : Nat → Int32} (h : Iv B f (fun _ => 0) (fun _ => 0) 0) (e : ∀ k, k ≠ 3 → (∀ p, p < nF f → k ≠ 21 + 6 * p + 5) → g k = f k) (e5 : ∀ p, p < nF f → 0 ≤ (oF g p 5).toInt ∧ (oF g p 5).toInt ≤ 60) : Iv B g (fun _ => 0) (fun _ => 0) 0 := by
  obtain ⟨a1, a2, a3, a4, ⟨⟨a5, a6⟩, a7, a8, a9, a10⟩, a11, a12⟩ := h
  have h6 := a1.1.2.2.2.1
  have lo : ∀ k, k < 21 → k ≠ 3 → g k = f k := fun k hk h3 => e k h3 (fun p _ => by omega)
  have en : nF g = nF f := by unfold nF; rw [lo 1 (by omega) (by omega)]
  have et : tF g = tF f := by unfold tF; rw [lo 0 (by omega) (by omega)]
  have eo : ∀ k i, i < 5 → oF g k i = oF f k i := fun k i hi => e _ (by omega) (fun p _ => by omega)
  have es : ∀ k i, k < 6 → i < 2 → sF g k i = sF f k i := fun k i hk hi => lo _ (by omega) (by omega)
  have ez : ∀ w, zq w g = zq w f := fun w => by
    unfold zq
    rw [en]
    refine zs_congr fun k _ => ?_
    unfold zw zk wF byF
    rw [eo k 1 (by omega), eo k 2 (by omega), eo k 3 (by omega), eo k 4 (by omega)]
  refine ⟨⟨(okF_of a1.1 (lo 0 (by omega) (by omega)) (lo 1 (by omega) (by omega)) (fun p _ => eo p 1 (by omega))).1, fun k hk => ?_, fun i k hik hk => ?_⟩, by rw [lo 4 (by omega) (by omega)]; exact a2, fun k hk => ?_, ?_, ⟨⟨by rw [lo 8 (by omega) (by omega), lo 7 (by omega) (by omega), lo 6 (by omega) (by omega), lo 5 (by omega) (by omega)]; exact a5, by rw [lo 8 (by omega) (by omega), lo 2 (by omega) (by omega), ez]; exact a6⟩, by rw [lo 6 (by omega) (by omega)]; exact a7, by rw [lo 6 (by omega) (by omega), lo 7 (by omega) (by omega)]; exact a8, by rw [lo 6 (by omega) (by omega), lo 7 (by omega) (by omega)]; exact a9, by rw [lo 7 (by omega) (by omega), lo 2 (by omega) (by omega), ez]; exact a10⟩, a11, by rw [lo 2 (by omega) (by omega)]; exact a12⟩
  · rw [en] at hk
    have h1 := a1.2.1 k hk
    unfold bO
    rw [eo k 2 (by omega), eo k 3 (by omega), eo k 4 (by omega), eo k 0 (by omega), lo 2 (by omega) (by omega)]
    exact ⟨h1.1, h1.2.1, h1.2.2.1, e5 k hk, h1.2.2.2.2⟩
  · rw [en] at hk
    rw [eo i 0 (by omega), eo k 0 (by omega)]
    exact a1.2.2 i k hik hk
  · rw [et] at hk
    rw [ez, ez, es k 0 (by omega) (by omega), es k 1 (by omega) (by omega)]
    exact a3 k hk
  · rw [et, zs_congr (h := fun k => (sF f k 0).toInt) (fun k hk => by rw [es k 0 (by omega) (by omega)]), zs_congr (g := fun k => (sF g k 1).toInt) (h := fun k => (sF f k 1).toInt) (fun k hk => by rw [es k 1 (by omega) (by omega)])]
    exact a4
theorem Iv.ps {B : Int} {f : Nat → Int32} (h : Iv B f (fun _ => 0) (fun _ => 0) 0) {p : Nat} (hp : p < nF f) : Iv B (psS f p) (fun _ => 0) (fun _ => 0) 0 := by
  refine h.cell (fun k _ hk => ?_) (fun q hq => ?_)
  · unfold psS; exact pk_un (hk p hp)
  · have h5 := (h.1.2.1 q hq).2.2.2.1
    by_cases c : q = p
    · rw [c] at h5
      have e : oF (psS f p) q 5 = oF f p 5 - if oF f p 5 ≤ 0 then 0 else 1 := by rw [c]; unfold oF psS; rw [pk_us]; rfl
      rw [e]
      by_cases d : oF f p 5 ≤ 0
      · rw [if_pos d, Int32.sub_zero]; exact h5
      · rw [if_neg d]
        rw [i_le, i_0] at d
        rw [i_sub (by rw [i_1]; omega) (by rw [i_1]; omega), i_1]
        omega
    · have e : oF (psS f p) q 5 = oF f q 5 := by unfold oF psS; rw [pk_un (by omega)]
      rw [e]; exact h5
theorem Iv.tm {B : Int} {f : Nat → Int32} (h : Iv B f (fun _ => 0) (fun _ => 0) 0) : Iv B (tmS f) (fun _ => 0) (fun _ => 0) 0 := by
  refine h.cell (fun k h3 _ => pk_un h3) (fun q hq => ?_)
  have e : oF (tmS f) q 5 = oF f q 5 := by unfold oF tmS; rw [pk_un (by omega)]
  rw [e]; exact (h.1.2.1 q hq).2.2.2.1
theorem Iv.psIt {B : Int} : ∀ {v p : Nat} {f : Nat → Int32} {x : Int32}, Iv B f (fun _ => 0) (fun _ => 0) 0 → Iv B (psI v p f x).1 (fun _ => 0) (fun _ => 0) 0
  | 0, _, _, _, h => h
  | v + 1, p, f, x, h => by
    unfold psI
    by_cases c : nF f ≤ p
    · rw [if_pos c]; exact h
    · rw [if_neg c]
      have h1 := h.ps (p := p) (by omega)
      have en := (okF_ps h.1.1 p).2
      by_cases d : oF f p 5 = 1
      · rw [if_pos d]
        have h2 := h1.dr (j := p) (by rw [en]; omega)
        rw [en] at h2
        exact Iv.psIt h2
      · rw [if_neg d]
        exact Iv.psIt h1
theorem psO_s (f : Nat → Int32) (n : Nat) : psO f (n + 1) = psI 21 0 (tmS (psO f n).1) (psO f n).2 := by
  have e : psO f (n + 1) = psG (psO f n) := by unfold psO; rw [fr_s]
  rw [e]
  unfold psG
  exact Eq.refl _
theorem Iv.psOt {B : Int} {f : Nat → Int32} (h : Iv B f (fun _ => 0) (fun _ => 0) 0) : ∀ n, Iv B (psO f n).1 (fun _ => 0) (fun _ => 0) 0
  | 0 => h
  | n + 1 => by
    rw [psO_s]
    exact Iv.psIt (Iv.psOt h n).tm
/-! The book as a list: what a time that passes leaves of it -/
def lk (l : List (Nat → Int32)) (k : Nat) : Nat → Int32 := l.getD k (fun _ => 0)
theorem lk_app {A C : List (Nat → Int32)} (k : Nat) : lk (A ++ C) k = if k < A.length then lk A k else lk C (k - A.length) := by
  unfold lk
  by_cases h : k < A.length
  · rw [if_pos h, List.getD_eq_getElem?_getD, List.getD_eq_getElem?_getD, List.getElem?_append_left h]
  · rw [if_neg h, List.getD_eq_getElem?_getD, List.getD_eq_getElem?_getD, List.getElem?_append_right (by omega)]
theorem lk_0 {o : Nat → Int32} {C : List (Nat → Int32)} : lk (o :: C) 0 = o := rfl
theorem lk_s {o : Nat → Int32} {C : List (Nat → Int32)} (k : Nat) : lk (o :: C) (k + 1) = lk C k := rfl
/-- the view V of n orders is the list l -/
def vw (n : Nat) (V : Nat → Nat → Int32) (l : List (Nat → Int32)) : Prop := n = l.length ∧ ∀ k, k < n → ∀ j, j < 6 → V k j = lk l k j
theorem vw_at {n : Nat} {V : Nat → Nat → Int32} {A C : List (Nat → Int32)} {o : Nat → Int32} (h : vw n V (A ++ o :: C)) {j : Nat} (hj : j < 6) : V A.length j = o j ∧ A.length < n := by
  have e := h.1
  rw [List.length_append, List.length_cons] at e
  refine ⟨?_, by omega⟩
  rw [h.2 _ (by omega) j hj, lk_app, if_neg (by omega), Nat.sub_self, lk_0]
theorem vw_rm {n : Nat} {V W : Nat → Nat → Int32} {A C : List (Nat → Int32)} {o : Nat → Int32} (h : vw n V (A ++ o :: C)) (e : ∀ k, k < n - 1 → ∀ j, j < 6 → W k j = if k < A.length then V k j else V (k + 1) j) : vw (n - 1) W (A ++ C) := by
  have e1 := h.1
  rw [List.length_append, List.length_cons] at e1
  refine ⟨by rw [List.length_append]; omega, fun k hk j hj => ?_⟩
  rw [e k hk j hj, lk_app]
  by_cases c : k < A.length
  · rw [if_pos c, if_pos c, h.2 k (by omega) j hj, lk_app, if_pos c]
  · rw [if_neg c, if_neg c, h.2 (k + 1) (by omega) j hj, lk_app, if_neg (by omega), show k + 1 - A.length = (k - A.length) + 1 by omega, lk_s]
theorem vw_set {n : Nat} {V W : Nat → Nat → Int32} {A C : List (Nat → Int32)} {o : Nat → Int32} {v : Int32} (h : vw n V (A ++ o :: C)) (e : ∀ k, k < n → ∀ j, j < 6 → W k j = if k = A.length ∧ j = 5 then v else V k j) : vw n W (A ++ upd o 5 v :: C) := by
  have e1 := h.1
  rw [List.length_append, List.length_cons] at e1
  refine ⟨by rw [List.length_append, List.length_cons]; omega, fun k hk j hj => ?_⟩
  rw [e k hk j hj, h.2 k hk j hj, lk_app, lk_app]
  by_cases c : k < A.length
  · rw [if_pos c, if_pos c, if_neg (by omega)]
  · rw [if_neg c, if_neg c]
    by_cases d : k = A.length
    · rw [d, Nat.sub_self, lk_0, lk_0]
      by_cases f : j = 5
      · rw [if_pos ⟨rfl, f⟩, f, pk_us]
      · rw [if_neg (by omega), pk_un f]
    · obtain ⟨m, hm⟩ : ∃ m, k - A.length = m + 1 := ⟨k - A.length - 1, by omega⟩
      rw [if_neg (by omega), hm, lk_s, lk_s]
def fW (f : Nat → Int32) (l : List (Nat → Int32)) : Prop := vw (nF f) (oF f) l
def sW (S : SV) (l : List (Nat → Int32)) : Prop := vw (nO S) (fun k j => S.2.1 (2 + j) k) l
/-- an order one minute later -/
def g1 (o : Nat → Int32) : Option (Nat → Int32) := if o 5 = 1 then none else some (upd o 5 (o 5 - if o 5 ≤ 0 then 0 else 1))
/-- an order m minutes later -/
def gm (m : Int32) (o : Nat → Int32) : Option (Nat → Int32) := if m < o 5 then some (upd o 5 (o 5 - m)) else if o 5 = 0 then some o else none
theorem fm_len {g : (Nat → Int32) → Option (Nat → Int32)} : ∀ l : List (Nat → Int32), (l.filterMap g).length ≤ l.length := fun l => List.length_filterMap_le g l
theorem nI_s (a b : Nat) : nI a + nI b = nI (a + b) := by
  show Int32.ofNat a + Int32.ofNat b = Int32.ofNat (a + b)
  rw [Int32.ofNat_add]
/-- one minute, in the model -/
theorem psI_w : ∀ {v : Nat} {f : Nat → Int32} {x : Int32} {A C : List (Nat → Int32)}, okF f → fW f (A ++ C) → C.length < v →
    fW (psI v A.length f x).1 (A ++ C.filterMap g1) ∧ (psI v A.length f x).2 = x + nI (C.length - (C.filterMap g1).length) ∧ okF (psI v A.length f x).1 ∧ ∀ k, k < 21 → k ≠ 1 → (psI v A.length f x).1 k = f k
  | 0, _, _, _, _, _, _, h => absurd h (by omega)
  | v + 1, f, x, A, [], hf, h, hv => by
    have hn : nF f ≤ A.length := by have := h.1; rw [List.append_nil] at this; omega
    unfold psI
    rw [if_pos hn]
    exact ⟨h, by show x = x + nI (0 - 0); exact (Int32.add_zero x).symm, hf, fun _ _ _ => rfl⟩
  | v + 1, f, x, A, o :: C, hf, h, hv => by
    have ha := vw_at h (j := 5) (by omega)
    have hn : ¬ nF f ≤ A.length := by have := ha.2; omega
    have hlen := fm_len (g := g1) C
    unfold psI
    rw [if_neg hn, ha.1]
    have eps : ∀ k, k < nF f → ∀ j, j < 6 → oF (psS f A.length) k j = if k = A.length ∧ j = 5 then o 5 - (if o 5 ≤ 0 then 0 else 1) else oF f k j := fun k hk j hj => by
      unfold psS
      rw [ha.1]
      by_cases c : k = A.length ∧ j = 5
      · rw [if_pos c, c.1, c.2]
        unfold oF
        rw [pk_us]
        have := ha.1
        unfold oF at this
        rw [this]
      · rw [if_neg c]
        unfold oF
        rw [pk_un (by omega)]
    have ok1 := okF_ps hf A.length
    have lo1 : ∀ k, k < 21 → psS f A.length k = f k := fun k hk => by unfold psS; rw [pk_un (by omega)]
    have w1 : fW (psS f A.length) (A ++ upd o 5 (o 5 - if o 5 ≤ 0 then 0 else 1) :: C) := by
      unfold fW
      rw [ok1.2]
      exact vw_set h eps
    by_cases d : o 5 = 1
    · rw [if_pos d]
      have ok2 := okF_pd hf (p := A.length) (by omega)
      have w2 : fW (drF (psS f A.length) (nF f) A.length) (A ++ C) := by
        unfold fW at w1 ⊢
        rw [ok2.2]
        rw [ok1.2] at w1
        exact vw_rm w1 (fun k hk j hj => dr_of hk hj)
      obtain ⟨r1, r2, r3, r4⟩ := psI_w (x := x + 1) (v := v) ok2.1 w2 (by rw [List.length_cons] at hv; omega)
      have e : (o :: C).filterMap g1 = C.filterMap g1 := by rw [List.filterMap_cons]; unfold g1; rw [if_pos d]
      rw [e]
      refine ⟨r1, ?_, r3, fun k hk h1 => by rw [r4 k hk h1, dr_lo (by omega) h1, lo1 k hk]⟩
      rw [r2, List.length_cons, show C.length + 1 - (C.filterMap g1).length = 1 + (C.length - (C.filterMap g1).length) by omega, ← nI_s, ← Int32.add_assoc]
      rfl
    · rw [if_neg d]
      have w3 : fW (psS f A.length) ((A ++ [upd o 5 (o 5 - if o 5 ≤ 0 then 0 else 1)]) ++ C) := by
        rw [List.append_assoc]; exact w1
      have hr := psI_w (x := x + 0) (v := v) ok1.1 w3 (by rw [List.length_cons] at hv; omega)
      rw [List.length_append, List.length_singleton] at hr
      obtain ⟨r1, r2, r3, r4⟩ := hr
      have e : (o :: C).filterMap g1 = upd o 5 (o 5 - if o 5 ≤ 0 then 0 else 1) :: C.filterMap g1 := by rw [List.filterMap_cons]; unfold g1; rw [if_neg d]
      rw [e]
      refine ⟨by rw [List.append_assoc] at r1; exact r1, ?_, r3, fun k hk h1 => by rw [r4 k hk h1, lo1 k hk]⟩
      rw [r2, List.length_cons, List.length_cons, Int32.add_zero, show C.length + 1 - ((C.filterMap g1).length + 1) = C.length - (C.filterMap g1).length by omega]
theorem rm_row (S : SV) (n j : Nat) {i : Nat} (hi : i < 6) : (rmS S n j).2.1 (2 + i) = rgap 20 (S.2.1 (2 + i)) j := by
  rcases (show i = 0 ∨ i = 1 ∨ i = 2 ∨ i = 3 ∨ i = 4 ∨ i = 5 by omega) with rfl | rfl | rfl | rfl | rfl | rfl <;> rfl
theorem rm_ok {S : SV} (h : okS S) {j : Nat} (hj : j < nO S) : okS (rmS S (nO S) j) ∧ nO (rmS S (nO S) j) = nO S - 1 := by
  have e1 : (rmS S (nO S) j).1 1 = nI (nO S - 1) := rfl
  have e0 : (rmS S (nO S) j).1 0 = S.1 0 := rfl
  have h20 := h.2.1
  have en : nO (rmS S (nO S) j) = nO S - 1 := by
    show ((rmS S (nO S) j).1 1).toNatClampNeg = _
    rw [e1, nI_clamp (by omega)]
  refine ⟨⟨by rw [en, e1], by omega, ?_, ?_⟩, en⟩
  · have : nT (rmS S (nO S) j) = nT S := by unfold nT; rw [e0]
    rw [this, e0]; exact h.2.2.1
  · have : nT (rmS S (nO S) j) = nT S := by unfold nT; rw [e0]
    rw [this]; exact h.2.2.2
theorem lpR_w {mi : Int32} : ∀ {k : Nat} {A C : List (Nat → Int32)} {S : SV} {x : Int32}, A.length = k → okS S → sW S (A ++ C) →
    sW (lpR mi k S x).1 (A.filterMap (gm mi) ++ C) ∧ (lpR mi k S x).2 = x + nI (k - (A.filterMap (gm mi)).length) ∧ okS (lpR mi k S x).1 ∧ (∀ i, i ≠ 1 → (lpR mi k S x).1.1 i = S.1 i) ∧ (lpR mi k S x).1.2.2 = S.2.2 ∧ ∀ i, i < 2 → (lpR mi k S x).1.2.1 i = S.2.1 i
  | 0, A, C, S, x, hA, hS, h => by
    have : A = [] := List.length_eq_zero_iff.mp hA
    subst this
    exact ⟨h, (Int32.add_zero x).symm, hS, fun _ _ => rfl, rfl, fun _ _ => rfl⟩
  | k + 1, A, C, S, x, hA, hS, h => by
    obtain ⟨A', o, rfl⟩ : ∃ A' o, A = A' ++ [o] := by
      rcases List.eq_nil_or_concat A with e | ⟨L, b, e⟩
      · rw [e] at hA; exact absurd hA (by simp)
      · exact ⟨L, b, by rw [e, List.concat_eq_append]⟩
    rw [List.length_append, List.length_singleton] at hA
    have hA' : A'.length = k := by omega
    rw [List.append_assoc] at h
    have h' : vw (nO S) (fun k j => S.2.1 (2 + j) k) (A' ++ o :: C) := h
    have ha := vw_at h' (j := 5) (by omega)
    have h7 : S.2.1 7 k = o 5 := by rw [← hA']; exact ha.1
    rw [hA'] at ha
    have hfl := fm_len (g := gm mi) A'
    rw [List.filterMap_append, List.filterMap_cons, List.filterMap_nil]
    unfold lpR
    rw [h7]
    by_cases c : mi < o 5
    · rw [if_pos c]
      have w1 : sW (sR S 7 (upd (S.2.1 7) k (o 5 - mi))) (A' ++ upd o 5 (o 5 - mi) :: C) := by
        refine vw_set h' (fun i hi j hj => ?_)
        show (if 2 + j = 7 then upd (S.2.1 7) k (o 5 - mi) else S.2.1 (2 + j)) i = _
        rw [hA']
        by_cases d : j = 5
        · subst d
          rw [if_pos rfl]
          by_cases e : i = k
          · rw [if_pos ⟨e, rfl⟩, e, pk_us]
          · rw [if_neg (by omega), pk_un e]
        · rw [if_neg (by omega), if_neg (by omega)]
      obtain ⟨r1, r2, r3, r4, r5, r6⟩ := lpR_w (mi := mi) (x := x) hA' (S := sR S 7 (upd (S.2.1 7) k (o 5 - mi))) hS w1
      have e : gm mi o = some (upd o 5 (o 5 - mi)) := if_pos c
      rw [e]
      refine ⟨?_, ?_, r3, r4, r5, fun i hi => ?_⟩
      · rw [List.append_assoc]; exact r1
      · rw [r2, List.length_append]
        show _ = x + nI (k + 1 - (_ + 1))
        rw [show k + 1 - ((A'.filterMap (gm mi)).length + 1) = k - (A'.filterMap (gm mi)).length by omega]
      · rw [r6 i hi]
        show (if i = 7 then _ else _) = _
        rw [if_neg (by omega)]
    · rw [if_neg c]
      by_cases z : o 5 = 0
      · rw [if_pos z]
        obtain ⟨r1, r2, r3, r4, r5, r6⟩ := lpR_w (mi := mi) (x := x) hA' hS h'
        have e : gm mi o = some o := by unfold gm; rw [if_neg c, if_pos z]
        rw [e]
        refine ⟨?_, ?_, r3, r4, r5, r6⟩
        · rw [List.append_assoc]; exact r1
        · rw [r2, List.length_append]
          show _ = x + nI (k + 1 - (_ + 1))
          rw [show k + 1 - ((A'.filterMap (gm mi)).length + 1) = k - (A'.filterMap (gm mi)).length by omega]
      · rw [if_neg z]
        have ok2 := rm_ok hS ha.2
        have w1 : sW (rmS S (nO S) k) (A' ++ C) := by
          unfold sW
          rw [ok2.2]
          refine vw_rm h' (fun i hi j hj => ?_)
          have h20 := hS.2.1
          show (rmS S (nO S) k).2.1 (2 + j) i = _
          rw [rm_row S _ k hj, hA']
          show (if i < k ∨ 20 ≤ i then _ else if i + 1 = 20 then _ else _) = _
          by_cases d : i < k
          · rw [if_pos (Or.inl d), if_pos d]
          · rw [if_neg (by omega), if_neg (by omega), if_neg d]
        obtain ⟨r1, r2, r3, r4, r5, r6⟩ := lpR_w (mi := mi) (x := x + 1) hA' ok2.1 w1
        have e : gm mi o = none := by unfold gm; rw [if_neg c, if_neg z]
        rw [e]
        refine ⟨by rw [List.append_nil]; exact r1, ?_, r3, fun i hi => ?_, r5, fun i hi => ?_⟩
        · rw [r2, List.append_nil, show k + 1 - (A'.filterMap (gm mi)).length = 1 + (k - (A'.filterMap (gm mi)).length) by omega, ← nI_s, ← Int32.add_assoc]
          rfl
        · rw [r4 i hi]
          show (if i = 1 then _ else _) = _
          rw [if_neg hi]
          rfl
        · rw [r6 i hi]
          rcases (show i = 0 ∨ i = 1 by omega) with rfl | rfl <;> rfl
/-- an order n minutes later, minute by minute -/
def gI : Nat → (Nat → Int32) → Option (Nat → Int32)
  | 0, o => some o
  | n + 1, o => (gI n o).bind g1
theorem psO_w {f : Nat → Int32} {l : List (Nat → Int32)} (hf : okF f) (h : fW f l) : ∀ n : Nat, fW (psO f n).1 (l.filterMap (gI n)) ∧ (psO f n).2 = nI (l.length - (l.filterMap (gI n)).length) ∧ okF (psO f n).1 ∧ (∀ k, k < 21 → k ≠ 1 → k ≠ 3 → (psO f n).1 k = f k) ∧ (psO f n).1 3 = f 3 + nI n
  | 0 => by
    have e : l.filterMap (gI 0) = l := List.filterMap_some
    rw [e]
    exact ⟨h, by rw [Nat.sub_self]; rfl, hf, fun _ _ _ _ => rfl, (Int32.add_zero _).symm⟩
  | n + 1 => by
    obtain ⟨r1, r2, r3, r4, r5⟩ := psO_w hf h n
    have ok := okF_tm r3
    have w1 : fW (tmS (psO f n).1) ([] ++ l.filterMap (gI n)) := by
      unfold fW
      rw [ok.2]
      refine ⟨r1.1, fun k hk j hj => ?_⟩
      have e : oF (tmS (psO f n).1) k j = oF (psO f n).1 k j := by unfold oF tmS; rw [pk_un (by omega)]
      rw [e]
      exact r1.2 k hk j hj
    have hn : (l.filterMap (gI n)).length < 21 := by
      have := r1.1
      have := r3.2.1
      omega
    obtain ⟨s1, s2, s3, s4⟩ := psI_w (x := (psO f n).2) ok.1 w1 hn
    have e : l.filterMap (gI (n + 1)) = (l.filterMap (gI n)).filterMap g1 := by rw [List.filterMap_filterMap]; rfl
    have l1 := fm_len (g := g1) (l.filterMap (gI n))
    have l2 := fm_len (g := gI n) l
    rw [e]
    have es : psO f (n + 1) = psI 21 ([] : List (Nat → Int32)).length (tmS (psO f n).1) (psO f n).2 := psO_s f n
    rw [es]
    refine ⟨s1, ?_, s3, fun k hk h1 h3 => ?_, ?_⟩
    · rw [s2, r2, nI_s, show l.length - (l.filterMap (gI n)).length + ((l.filterMap (gI n)).length - ((l.filterMap (gI n)).filterMap g1).length) = l.length - ((l.filterMap (gI n)).filterMap g1).length by omega]
    · rw [s4 k hk h1]
      show upd _ 3 _ k = _
      rw [pk_un h3, r4 k hk h1 h3]
    · rw [s4 3 (by omega) (by omega)]
      show upd _ 3 _ 3 = _
      rw [pk_us, r5, Int32.add_assoc]
      congr 1
      exact nI_s n 1
theorem upd_upd (o : Nat → Int32) (k : Nat) (a b : Int32) : upd (upd o k a) k b = upd o k b := funext fun j => by
  by_cases h : j = k
  · rw [h, pk_us, pk_us]
  · rw [pk_un h, pk_un h, pk_un h]
theorem upd_self (o : Nat → Int32) (k : Nat) : upd o k (o k) = o := funext fun j => by
  by_cases h : j = k
  · rw [h, pk_us]
  · rw [pk_un h]
theorem gI_gm {o : Nat → Int32} (h : 0 ≤ (o 5).toInt ∧ (o 5).toInt ≤ 60) : ∀ n : Nat, n ≤ 60 → gI n o = if nI n < o 5 then some (upd o 5 (o 5 - nI n)) else if o 5 = 0 then some o else none
  | 0, _ => by
    show some o = _
    by_cases c : nI 0 < o 5
    · rw [if_pos c, show nI 0 = 0 from rfl, Int32.sub_zero, upd_self]
    · rw [if_neg c]
      rw [i_l, show (nI 0).toInt = 0 from rfl] at c
      rw [if_pos (i_ext (by rw [i_0]; omega))]
  | n + 1, hn => by
    have e0 : (nI n).toInt = n := i_nI (by omega)
    have e1 : (nI (n + 1)).toInt = n + 1 := i_nI (by omega)
    show (gI n o).bind g1 = _
    rw [gI_gm h n (by omega)]
    by_cases c : nI n < o 5
    · rw [if_pos c]
      rw [i_l, e0] at c
      have es : (o 5 - nI n).toInt = (o 5).toInt - n := by rw [i_sub (by rw [e0]; omega) (by rw [e0]; omega), e0]
      show g1 (upd o 5 (o 5 - nI n)) = _
      unfold g1
      rw [pk_us]
      by_cases d : nI (n + 1) < o 5
      · rw [if_pos d]
        rw [i_l, e1] at d
        rw [if_neg (fun e => by have := congrArg Int32.toInt e; rw [es, i_1] at this; omega), if_neg (by rw [i_le, es, i_0]; omega), upd_upd]
        congr 2
        rw [show nI (n + 1) = nI n + 1 from (nI_s n 1).symm, Int32.sub_eq_add_neg, Int32.sub_eq_add_neg, Int32.sub_eq_add_neg, Int32.neg_add, Int32.sub_eq_add_neg, ← Int32.add_assoc]
        
      · rw [if_neg d]
        rw [i_l, e1] at d
        rw [if_pos (i_ext (by rw [es, i_1]; omega)), if_neg (fun e => by rw [e, i_0] at c; omega)]
    · rw [if_neg c]
      rw [i_l, e0] at c
      have d : ¬ nI (n + 1) < o 5 := by rw [i_l, e1]; omega
      rw [if_neg d]
      by_cases z : o 5 = 0
      · rw [if_pos z]
        show g1 o = _
        unfold g1
        rw [if_neg (by rw [z]; decide), z, if_pos (by decide), Int32.sub_zero, ← z, upd_self]
      · rw [if_neg z]
        rfl
theorem fm_congr {g h : (Nat → Int32) → Option (Nat → Int32)} : ∀ {l : List (Nat → Int32)}, (∀ o, o ∈ l → g o = h o) → l.filterMap g = l.filterMap h
  | [], _ => rfl
  | o :: l, e => by
    rw [List.filterMap_cons, List.filterMap_cons, e o (List.mem_cons_self ..), fm_congr (l := l) (fun a ha => e a (List.mem_cons_of_mem _ ha))]
/-- the orders of a row -/
def ordl (f : Nat → Int32) : List (Nat → Int32) := (List.range (nF f)).map (fun k j => oF f k j)
theorem ordl_k {f : Nat → Int32} {k : Nat} (h : k < nF f) : lk (ordl f) k = fun j => oF f k j := by
  unfold lk ordl
  rw [List.getD_eq_getElem?_getD, List.getElem?_map, List.getElem?_range h]
  rfl
theorem ordl_w (f : Nat → Int32) : fW f (ordl f) := by
  refine ⟨by unfold ordl; rw [List.length_map, List.length_range], fun k hk j hj => ?_⟩
  rw [ordl_k hk]
/-- minutes pass -/
theorem pass_ok {B : Int} {f : Nat → Int32} {S : SV} (hS : Rl S f) (h : Iv B f (fun _ => 0) (fun _ => 0) 0) {x : Int32} (hx : inR x 1 60 = true) :
    Iv B (psO f x.toNatClampNeg).1 (fun _ => 0) (fun _ => 0) 0 ∧ Rl (lpS S x).1 (psO f x.toNatClampNeg).1 ∧ (lpS S x).2 = (psO f x.toNatClampNeg).2 := by
  rw [inR_i] at hx
  have k1 : (1 : Int32).toInt = 1 := by decide
  have k2 : (60 : Int32).toInt = 60 := by decide
  rw [k1, k2] at hx
  obtain ⟨n, en, e60⟩ : ∃ n : Nat, x = nI n ∧ n ≤ 60 := ⟨x.toInt.toNat, i_ext (by rw [i_nI (by omega)]; omega), by omega⟩
  have ex : x.toNatClampNeg = n := by rw [en, nI_clamp (by omega)]
  rw [ex]
  have hf := h.1.1
  obtain ⟨p1, p2, p3, p4, p5⟩ := psO_w hf (ordl_w f) n
  have e : (ordl f).filterMap (gI n) = (ordl f).filterMap (gm x) := fm_congr fun o ho => by
    unfold ordl at ho
    obtain ⟨k, hk, rfl⟩ := List.mem_map.mp ho
    rw [List.mem_range] at hk
    rw [gI_gm (h.1.2.1 k hk).2.2.2.1 n e60, ← en]
    rfl
  have hok : okS (sI S 3 (S.1 3 + x)) := hS.ok hf
  have hn : nO (sI S 3 (S.1 3 + x)) = nF f := hS.n
  have hw : sW (sI S 3 (S.1 3 + x)) (ordl f ++ []) := by
    rw [List.append_nil]
    unfold sW
    rw [hn]
    refine ⟨(ordl_w f).1, fun k hk j hj => ?_⟩
    rw [ordl_k hk]
    exact hS.2.2.2 k hk j hj
  have hl : (ordl f).length = nF f := (ordl_w f).1.symm
  obtain ⟨q1, q2, q3, q4, q5, q6⟩ := lpR_w (mi := x) (x := 0) hl hok hw
  have eS : lpS S x = lpR x (nF f) (sI S 3 (S.1 3 + x)) 0 := by unfold lpS; rw [hS.n]
  rw [e] at p1 p2
  rw [List.append_nil] at q1
  refine ⟨h.psOt n, ?_, by rw [eS, q2, p2, hl]; show 0 + _ = _; rw [Int32.zero_add]⟩
  rw [eS]
  have e1 : nO (lpR x (nF f) (sI S 3 (S.1 3 + x)) 0).1 = nF (psO f n).1 := q1.1.trans p1.1.symm
  have et : tF (psO f n).1 = tF f := by unfold tF; rw [p4 0 (by omega) (by omega) (by omega)]
  refine ⟨⟨?_, ?_, ?_, ?_, ?_, ?_, ?_, ?_⟩, ?_, fun k hk => ?_, fun k hk j hj => ?_⟩
  · rw [q4 0 (by omega), p4 0 (by omega) (by omega) (by omega)]; exact hS.1.1
  · rw [q3.1, e1, p3.1]
  · rw [q4 2 (by omega), p4 4 (by omega) (by omega) (by omega)]; exact hS.1.2.2.1
  · rw [q4 3 (by omega), p5, en]; show S.1 3 + nI n = _; rw [hS.1.2.2.2.1]
  · rw [q4 4 (by omega), p4 2 (by omega) (by omega) (by omega)]; exact hS.1.2.2.2.2.1
  · rw [q4 5 (by omega), p4 5 (by omega) (by omega) (by omega)]; exact hS.1.2.2.2.2.2.1
  · rw [q4 6 (by omega), p4 6 (by omega) (by omega) (by omega)]; exact hS.1.2.2.2.2.2.2.1
  · rw [q4 7 (by omega), p4 7 (by omega) (by omega) (by omega)]; exact hS.1.2.2.2.2.2.2.2
  · rw [q5, p4 8 (by omega) (by omega) (by omega)]; exact hS.2.1
  · rw [q6 0 (by omega), q6 1 (by omega), et]
    have h6 := hf.2.2.2.1
    have s0 : ∀ j, j < 2 → sF (psO f n).1 k j = sF f k j := fun j hj => p4 _ (by omega) (by omega) (by omega)
    rw [s0 0 (by omega), s0 1 (by omega)]
    exact hS.2.2.1 k hk
  · have a := q1.2 k (by rw [e1]; exact hk) j hj
    have b := p1.2 k hk j hj
    rw [b]
    exact a
