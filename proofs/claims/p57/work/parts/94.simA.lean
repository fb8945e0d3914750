/-! Class and model side by side -/
abbrev CD : Type := (SV) × (SV) × (SV) × (Nat → SV) × (Nat) × (Nat) × (Nat → Int32) × (Nat → Int32) × (Nat × Nat × (Nat → Int32) × Int32) × (List Int32) × (Nat) × (Nat) × (Nat → Int32) × (Nat × Nat × (Nat → Int32) × Int32) × (List Int32) × (Nat → Int32)
abbrev cdm (S : SV) (B : SV) (N : SV) (V : Nat → SV) (nw : Nat) (dp : Nat) (f : Nat → Int32) (g : Nat → Int32) (ut : Nat × Nat × (Nat → Int32) × Int32) (LT : List Int32) (vb : Nat) (p0 : Nat) (gp : Nat → Int32) (ul : Nat × Nat × (Nat → Int32) × Int32) (LL : List Int32) (F : Nat → Int32) : CD := (S, B, N, V, nw, dp, f, g, ut, LT, vb, p0, gp, ul, LL, F)
abbrev CD.S (D : CD) : SV := D.1
abbrev CD.B (D : CD) : SV := D.2.1
abbrev CD.N (D : CD) : SV := D.2.2.1
abbrev CD.V (D : CD) : Nat → SV := D.2.2.2.1
abbrev CD.nw (D : CD) : Nat := D.2.2.2.2.1
abbrev CD.dp (D : CD) : Nat := D.2.2.2.2.2.1
abbrev CD.f (D : CD) : Nat → Int32 := D.2.2.2.2.2.2.1
abbrev CD.g (D : CD) : Nat → Int32 := D.2.2.2.2.2.2.2.1
abbrev CD.ut (D : CD) : Nat × Nat × (Nat → Int32) × Int32 := D.2.2.2.2.2.2.2.2.1
abbrev CD.LT (D : CD) : List Int32 := D.2.2.2.2.2.2.2.2.2.1
abbrev CD.vb (D : CD) : Nat := D.2.2.2.2.2.2.2.2.2.2.1
abbrev CD.p0 (D : CD) : Nat := D.2.2.2.2.2.2.2.2.2.2.2.1
abbrev CD.gp (D : CD) : Nat → Int32 := D.2.2.2.2.2.2.2.2.2.2.2.2.1
abbrev CD.ul (D : CD) : Nat × Nat × (Nat → Int32) × Int32 := D.2.2.2.2.2.2.2.2.2.2.2.2.2.1
abbrev CD.LL (D : CD) : List Int32 := D.2.2.2.2.2.2.2.2.2.2.2.2.2.2.1
abbrev CD.F (D : CD) : Nat → Int32 := D.2.2.2.2.2.2.2.2.2.2.2.2.2.2.2
/-- the market's world -/
def cW (G : Gx) (K : Nat → Nat → Nat) (r : Nat → Nat → Nat) (D : CD) (X : va_W) : va_W :=
  stW G (K 0) D.S ++ (dmO G K D.F ++ (hiW G (K 3) r D.V (nI D.nw) (nI D.dp) ++ (suW G (K 4) D.f D.g ++ (stW G (K 1) D.B ++ (stW G (K 2) D.N ++ (sbY G (K 5 1) D.ut D.LT ++ (ctC G (K 5) D.vb (nI D.p0) D.gp ++ (sbY G (K 6 0) D.ul D.LL ++ X))))))))
/-- a state of the past in the model's row -/
def pst (p : Nat → Int32) (k : Nat) : Nat → Int32 := fun j => p (147 * k + j)
/-- where the class keeps the state before the i-th last modification -/
def rgI (nw i : Nat) : Nat := (nw + 8 - i) % 8
def Sm (c : Int) (D : CD) (U : MV_) : Prop :=
  (Rl D.S (U.2 0)) ∧
  (Iz c (U.2 0)) ∧
  (D.nw < 8) ∧
  (D.dp ≤ 8) ∧
  (U.1 1 = nI D.dp) ∧
  (∀ i, i < D.dp → Rl (D.V (rgI D.nw i)) (pst (U.2 3) (D.dp - 1 - i)) ∧ Iz c (pst (U.2 3) (D.dp - 1 - i))) ∧
  (U.1 0 = D.F 0) ∧
  (isB (D.F 0)) ∧
  (D.F 0 ≠ 0 → Rl D.N (U.2 2) ∧ Iz c (U.2 2)) ∧
  (sbT D.ut D.LT) ∧
  (D.LT.length ≤ 60) ∧
  (U.1 4 = nI D.LT.length) ∧
  (∀ k, k < D.LT.length → U.2 5 k = D.LT.getD k 0) ∧
  (chL D.LT) ∧
  (D.vb < 7) ∧
  (sbT D.ul D.LL) ∧
  (D.LL.length ≤ 40) ∧
  (U.1 3 = nI D.LL.length) ∧
  (∀ k, k < D.LL.length → U.2 4 k = D.LL.getD k 0) ∧
  (chL D.LL) ∧
  (∀ j, isCh (U.2 4 j)) ∧
  (D.F 1 = U.1 7 ∧ (U.1 7 = -1 ∨ 0 ≤ (U.1 7).toInt)) ∧
  (D.F 2 = U.1 8 ∧ (U.1 8 = -1 ∨ 0 ≤ (U.1 8).toInt))
theorem Sm.rl {c : Int} {D : CD} {U : MV_} (h : Sm c D U) : Rl D.S (U.2 0) := h.1
theorem Sm.iz {c : Int} {D : CD} {U : MV_} (h : Sm c D U) : Iz c (U.2 0) := h.2.1
theorem Sm.nw {c : Int} {D : CD} {U : MV_} (h : Sm c D U) : D.nw < 8 := h.2.2.1
theorem Sm.dp {c : Int} {D : CD} {U : MV_} (h : Sm c D U) : D.dp ≤ 8 := h.2.2.2.1
theorem Sm.pm {c : Int} {D : CD} {U : MV_} (h : Sm c D U) : U.1 1 = nI D.dp := h.2.2.2.2.1
theorem Sm.ps {c : Int} {D : CD} {U : MV_} (h : Sm c D U) : ∀ i, i < D.dp → Rl (D.V (rgI D.nw i)) (pst (U.2 3) (D.dp - 1 - i)) ∧ Iz c (pst (U.2 3) (D.dp - 1 - i)) := h.2.2.2.2.2.1
theorem Sm.sv {c : Int} {D : CD} {U : MV_} (h : Sm c D U) : U.1 0 = D.F 0 := h.2.2.2.2.2.2.1
theorem Sm.sb {c : Int} {D : CD} {U : MV_} (h : Sm c D U) : isB (D.F 0) := h.2.2.2.2.2.2.2.1
theorem Sm.sn {c : Int} {D : CD} {U : MV_} (h : Sm c D U) : D.F 0 ≠ 0 → Rl D.N (U.2 2) ∧ Iz c (U.2 2) := h.2.2.2.2.2.2.2.2.1
theorem Sm.tt {c : Int} {D : CD} {U : MV_} (h : Sm c D U) : sbT D.ut D.LT := h.2.2.2.2.2.2.2.2.2.1
theorem Sm.tl {c : Int} {D : CD} {U : MV_} (h : Sm c D U) : D.LT.length ≤ 60 := h.2.2.2.2.2.2.2.2.2.2.1
theorem Sm.tn {c : Int} {D : CD} {U : MV_} (h : Sm c D U) : U.1 4 = nI D.LT.length := h.2.2.2.2.2.2.2.2.2.2.2.1
theorem Sm.tc {c : Int} {D : CD} {U : MV_} (h : Sm c D U) : ∀ k, k < D.LT.length → U.2 5 k = D.LT.getD k 0 := h.2.2.2.2.2.2.2.2.2.2.2.2.1
theorem Sm.t7 {c : Int} {D : CD} {U : MV_} (h : Sm c D U) : chL D.LT := h.2.2.2.2.2.2.2.2.2.2.2.2.2.1
theorem Sm.vb {c : Int} {D : CD} {U : MV_} (h : Sm c D U) : D.vb < 7 := h.2.2.2.2.2.2.2.2.2.2.2.2.2.2.1
theorem Sm.lt {c : Int} {D : CD} {U : MV_} (h : Sm c D U) : sbT D.ul D.LL := h.2.2.2.2.2.2.2.2.2.2.2.2.2.2.2.1
theorem Sm.ll {c : Int} {D : CD} {U : MV_} (h : Sm c D U) : D.LL.length ≤ 40 := h.2.2.2.2.2.2.2.2.2.2.2.2.2.2.2.2.1
theorem Sm.ln {c : Int} {D : CD} {U : MV_} (h : Sm c D U) : U.1 3 = nI D.LL.length := h.2.2.2.2.2.2.2.2.2.2.2.2.2.2.2.2.2.1
theorem Sm.lc {c : Int} {D : CD} {U : MV_} (h : Sm c D U) : ∀ k, k < D.LL.length → U.2 4 k = D.LL.getD k 0 := h.2.2.2.2.2.2.2.2.2.2.2.2.2.2.2.2.2.2.1
theorem Sm.l7 {c : Int} {D : CD} {U : MV_} (h : Sm c D U) : chL D.LL := h.2.2.2.2.2.2.2.2.2.2.2.2.2.2.2.2.2.2.2.1
theorem Sm.lh {c : Int} {D : CD} {U : MV_} (h : Sm c D U) : ∀ j, isCh (U.2 4 j) := h.2.2.2.2.2.2.2.2.2.2.2.2.2.2.2.2.2.2.2.2.1
theorem Sm.e1 {c : Int} {D : CD} {U : MV_} (h : Sm c D U) : D.F 1 = U.1 7 ∧ (U.1 7 = -1 ∨ 0 ≤ (U.1 7).toInt) := h.2.2.2.2.2.2.2.2.2.2.2.2.2.2.2.2.2.2.2.2.2.1
theorem Sm.e2 {c : Int} {D : CD} {U : MV_} (h : Sm c D U) : D.F 2 = U.1 8 ∧ (U.1 8 = -1 ∨ 0 ≤ (U.1 8).toInt) := h.2.2.2.2.2.2.2.2.2.2.2.2.2.2.2.2.2.2.2.2.2.2
theorem Sm.mk {c : Int} {D : CD} {U : MV_} (rl : Rl D.S (U.2 0)) (iz : Iz c (U.2 0)) (nw : D.nw < 8) (dp : D.dp ≤ 8) (pm : U.1 1 = nI D.dp) (ps : ∀ i, i < D.dp → Rl (D.V (rgI D.nw i)) (pst (U.2 3) (D.dp - 1 - i)) ∧ Iz c (pst (U.2 3) (D.dp - 1 - i))) (sv : U.1 0 = D.F 0) (sb : isB (D.F 0)) (sn : D.F 0 ≠ 0 → Rl D.N (U.2 2) ∧ Iz c (U.2 2)) (tt : sbT D.ut D.LT) (tl : D.LT.length ≤ 60) (tn : U.1 4 = nI D.LT.length) (tc : ∀ k, k < D.LT.length → U.2 5 k = D.LT.getD k 0) (t7 : chL D.LT) (vb : D.vb < 7) (lt : sbT D.ul D.LL) (ll : D.LL.length ≤ 40) (ln : U.1 3 = nI D.LL.length) (lc : ∀ k, k < D.LL.length → U.2 4 k = D.LL.getD k 0) (l7 : chL D.LL) (lh : ∀ j, isCh (U.2 4 j)) (e1 : D.F 1 = U.1 7 ∧ (U.1 7 = -1 ∨ 0 ≤ (U.1 7).toInt)) (e2 : D.F 2 = U.1 8 ∧ (U.1 8 = -1 ∨ 0 ≤ (U.1 8).toInt)) : Sm c D U := ⟨rl, iz, nw, dp, pm, ps, sv, sb, sn, tt, tl, tn, tc, t7, vb, lt, ll, ln, lc, l7, lh, e1, e2⟩
theorem mI_1 (U : MV_) (k : Nat) (x : Int32) (j : Nat) : (mI U k x).1 j = if j = k then x else U.1 j := rfl
theorem mI_r (U : MV_) (k : Nat) (x : Int32) : (mI U k x).2 = U.2 := rfl
theorem mR_r (U : MV_) (k : Nat) (f : Nat → Int32) (j : Nat) : (mR U k f).2 j = if j = k then f else U.2 j := rfl
theorem vu_at {α : Type} (g : Nat → α) (k : Nat) (x : α) (j : Nat) : va_up g k x j = if j = k then x else g j := rfl
/-- rows alike where they count -/
theorem Rl.ext {S : SV} {f g : Nat → Int32} (h : Rl S f) (hf : okF f) (e : ∀ j, j < 147 → g j = f j) : Rl S g := by
  have h20 := hf.2.1
  have h6 := hf.2.2.2.1
  have en : nF g = nF f := by unfold nF; rw [e 1 (by omega)]
  have et : tF g = tF f := by unfold tF; rw [e 0 (by omega)]
  refine ⟨⟨?_, ?_, ?_, ?_, ?_, ?_, ?_, ?_⟩, ?_, fun i hi => ?_, fun k hk j hj => ?_⟩
  · rw [e _ (by omega)]; exact h.1.1
  · rw [e _ (by omega)]; exact h.1.2.1
  · rw [e _ (by omega)]; exact h.1.2.2.1
  · rw [e _ (by omega)]; exact h.1.2.2.2.1
  · rw [e _ (by omega)]; exact h.1.2.2.2.2.1
  · rw [e _ (by omega)]; exact h.1.2.2.2.2.2.1
  · rw [e _ (by omega)]; exact h.1.2.2.2.2.2.2.1
  · rw [e _ (by omega)]; exact h.1.2.2.2.2.2.2.2
  · rw [e _ (by omega)]; exact h.2.1
  · rw [et]
    have s0 : ∀ j, j < 2 → sF g i j = sF f i j := fun j hj => e _ (by omega)
    rw [s0 0 (by omega), s0 1 (by omega)]
    exact h.2.2.1 i hi
  · rw [en] at hk
    have o0 : oF g k j = oF f k j := e _ (by omega)
    rw [o0]
    exact h.2.2.2 k hk j hj
theorem Iv.ext {B : Int} {f g : Nat → Int32} (h : Iz B f) (e : ∀ j, j < 147 → g j = f j) : Iz B g := by
  have h20 := h.1.1.2.1
  have h6 := h.1.1.2.2.2.1
  have en : nF g = nF f := by unfold nF; rw [e 1 (by omega)]
  have et : tF g = tF f := by unfold tF; rw [e 0 (by omega)]
  have eo : ∀ k i, k < nF f → i < 6 → oF g k i = oF f k i := fun k i hk hi => e _ (by omega)
  have es : ∀ k i, k < tF f → i < 2 → sF g k i = sF f k i := fun k i hk hi => e _ (by omega)
  have ez : ∀ w, zq w g = zq w f := fun w => by
    unfold zq
    rw [en]
    refine zs_congr fun k hk => ?_
    unfold zw zk wF byF
    rw [eo k 1 hk (by omega), eo k 2 hk (by omega), eo k 3 hk (by omega), eo k 4 hk (by omega)]
  obtain ⟨a1, a2, a3, a4, ⟨⟨a5, a6⟩, a7, a8, a9, a10⟩, a11, a12⟩ := h
  refine ⟨⟨⟨by rw [en, e 1 (by omega)]; exact a1.1.1, by rw [en]; exact h20, by rw [et, e 0 (by omega)]; exact a1.1.2.2.1, by rw [et]; exact h6, fun k hk => ?_⟩, fun k hk => ?_, fun i k hik hk => ?_⟩, by rw [e 4 (by omega)]; exact a2, fun k hk => ?_, ?_, ⟨⟨by rw [e 8 (by omega), e 7 (by omega), e 6 (by omega), e 5 (by omega)]; exact a5, by rw [e 8 (by omega), e 2 (by omega), ez]; exact a6⟩, by rw [e 6 (by omega)]; exact a7, by rw [e 6 (by omega), e 7 (by omega)]; exact a8, by rw [e 6 (by omega), e 7 (by omega)]; exact a9, by rw [e 7 (by omega), e 2 (by omega), ez]; exact a10⟩, a11, by rw [e 2 (by omega)]; exact a12⟩
  · rw [en] at hk
    have := a1.1.2.2.2.2 k hk
    unfold wF at this ⊢
    rw [eo k 1 hk (by omega), et]
    exact this
  · rw [en] at hk
    unfold bO
    rw [eo k 0 hk (by omega), eo k 2 hk (by omega), eo k 3 hk (by omega), eo k 4 hk (by omega), eo k 5 hk (by omega), e 2 (by omega)]
    exact a1.2.1 k hk
  · rw [en] at hk
    rw [eo i 0 (by omega) (by omega), eo k 0 hk (by omega)]
    exact a1.2.2 i k hik hk
  · rw [et] at hk
    rw [ez, ez, es k 0 hk (by omega), es k 1 hk (by omega)]
    exact a3 k hk
  · rw [et, zs_congr (g := fun k => (sF g k 0).toInt) (h := fun k => (sF f k 0).toInt) (fun k hk => by rw [es k 0 hk (by omega)]), zs_congr (g := fun k => (sF g k 1).toInt) (h := fun k => (sF f k 1).toInt) (fun k hk => by rw [es k 1 hk (by omega)])]
    exact a4
theorem Sm.mono {c d : Int} {D : CD} {U : MV_} (h : Sm c D U) (h1 : c ≤ d) (h2 : d ≤ 40000) : Sm d D U :=
  Sm.mk (h.rl) (h.iz.mono h1 h2) (h.nw) (h.dp) (h.pm) (fun i hi => ⟨(h.ps i hi).1, (h.ps i hi).2.mono h1 h2⟩) (h.sv) (h.sb) (fun e => ⟨(h.sn e).1, (h.sn e).2.mono h1 h2⟩) (h.tt) (h.tl) (h.tn) (h.tc) (h.t7) (h.vb) (h.lt) (h.ll) (h.ln) (h.lc) (h.l7) (h.lh) (h.e1) (h.e2)
/-- only what a call's end shows has changed in the model -/
theorem Sm.thr {c : Int} {D : CD} {U : MV_} (h : Sm c D U) (x : Int32) : Sm c D (mI U 2 x) :=
  Sm.mk (h.rl) (h.iz) (h.nw) (h.dp) (h.pm) (h.ps) (h.sv) (h.sb) (h.sn) (h.tt) (h.tl) (h.tn) (h.tc) (h.t7) (h.vb) (h.lt) (h.ll) (h.ln) (h.lc) (h.l7) (h.lh) (h.e1) (h.e2)
/-- the sums don't count -/
theorem Sm.su {c : Int} {D : CD} {U : MV_} (h : Sm c D U) (a b : Nat → Int32) : Sm c (cdm D.S D.B D.N D.V D.nw D.dp (a) (b) D.ut D.LT D.vb D.p0 D.gp D.ul D.LL D.F) U :=
  Sm.mk (h.rl) (h.iz) (h.nw) (h.dp) (h.pm) (h.ps) (h.sv) (h.sb) (h.sn) (h.tt) (h.tl) (h.tn) (h.tc) (h.t7) (h.vb) (h.lt) (h.ll) (h.ln) (h.lc) (h.l7) (h.lh) (h.e1) (h.e2)
theorem rgI_0 {nw : Nat} (h : nw < 8) : rgI nw 0 = nw := by unfold rgI; omega
theorem rgI_n {nw i : Nat} (h : nw < 8) (hi : i < 8) : rgI (rgN nw) (i + 1) = rgI nw i ∧ (i < 7 → rgI nw i ≠ rgN nw) := by
  unfold rgI rgN
  split <;> omega
theorem rgI_p {nw i : Nat} (h : nw < 8) (hi : i < 7) : rgI (rgP nw) i = rgI nw (i + 1) := by
  unfold rgI rgP
  split <;> omega
/-- the past's row behind a modification -/
theorem past_ok {p b : Nat → Int32} {h : Nat} (hh : h ≤ 8) : (∀ j, j < 147 → pst (va_cpy b (if h = 8 then va_cpy p p 147 0 1029 else p) 0 (147 * (if h = 8 then 7 else h)) 147) (if h = 8 then 7 else h) j = b j) ∧
    ∀ k, k < (if h = 8 then 7 else h) → ∀ j, j < 147 → pst (va_cpy b (if h = 8 then va_cpy p p 147 0 1029 else p) 0 (147 * (if h = 8 then 7 else h)) 147) k j = pst p (if h = 8 then k + 1 else k) j := by
  have key : ∀ (q : Nat → Int32) (m : Nat), (∀ j, j < 147 → pst (va_cpy b q 0 (147 * m) 147) m j = b j) ∧ ∀ k, k < m → ∀ j, j < 147 → pst (va_cpy b q 0 (147 * m) 147) k j = pst q k j := fun q m => by
    refine ⟨fun j hj => ?_, fun k hk j hj => ?_⟩
    · unfold pst
      rw [pk_cpy_in (by omega) (by omega), show 0 + (147 * m + j - 147 * m) = j by omega]
    · unfold pst
      rw [pk_cpy_out (Or.inl (by omega))]
  have sh : ∀ k, k < 7 → ∀ j, j < 147 → pst (va_cpy p p 147 0 1029) k j = pst p (k + 1) j := fun k hk j hj => by
    unfold pst
    rw [pk_cpy_in (by omega) (by omega), show 147 + (147 * k + j - 0) = 147 * (k + 1) + j by omega]
  by_cases e : h = 8
  · simp only [if_pos e]
    obtain ⟨k1, k2⟩ := key (va_cpy p p 147 0 1029) 7
    exact ⟨k1, fun k hk j hj => (k2 k hk j hj).trans (sh k hk j hj)⟩
  · simp only [if_neg e]
    exact key p h
/-- what a modification does to the class's data -/
def CD.mod (D : CD) (S' : SV) : CD := (cdm (S') D.B D.N (va_up D.V (rgN D.nw) D.S) (rgN D.nw) (min (D.dp + 1) 8) D.f D.g D.ut D.LT D.vb D.p0 D.gp D.ul D.LL D.F)
/-- the model's state at the end of a call, from what is common to all modifications: W has U's rows but for 0, 1, 6 -/
def Kp (U W : MV_) : Prop := (∀ j, j ≠ 2 → j ≠ 4 → j ≠ 5 → j ≠ 6 → j ≠ 7 → j ≠ 8 → j ≠ 9 → W.1 j = U.1 j) ∧ (∀ j, j < 147 → W.2 1 j = U.2 0 j) ∧ (W.2 2 = U.2 2) ∧ (W.2 3 = U.2 3) ∧ (W.2 4 = U.2 4) ∧ (W.2 5 = U.2 5)
theorem Kp.i1 {U W : MV_} (h : Kp U W) : ∀ j, j ≠ 2 → j ≠ 4 → j ≠ 5 → j ≠ 6 → j ≠ 7 → j ≠ 8 → j ≠ 9 → W.1 j = U.1 j := h.1
theorem Kp.r1 {U W : MV_} (h : Kp U W) : ∀ j, j < 147 → W.2 1 j = U.2 0 j := h.2.1
theorem Kp.r2 {U W : MV_} (h : Kp U W) : W.2 2 = U.2 2 := h.2.2.1
theorem Kp.r3 {U W : MV_} (h : Kp U W) : W.2 3 = U.2 3 := h.2.2.2.1
theorem Kp.r4 {U W : MV_} (h : Kp U W) : W.2 4 = U.2 4 := h.2.2.2.2.1
theorem Kp.r5 {U W : MV_} (h : Kp U W) : W.2 5 = U.2 5 := h.2.2.2.2.2
theorem Kp.kp (U : MV_) : Kp U (kpU U) := by
  refine ⟨fun j h1 _ _ _ _ _ _ => ?_, fun j hj => ?_, rfl, rfl, rfl, rfl⟩
  · show (if j = 2 then (0 : Int32) else U.1 j) = U.1 j
    rw [if_neg h1]
  · show va_cpy (U.2 0) (U.2 1) 0 0 147 j = U.2 0 j
    rw [pk_cpy_in (by omega) (by omega), show 0 + (j - 0) = j by omega]
/-- a modification ends well -/
theorem end_ok {c d : Int} {D : CD} {U W : MV_} (h : Sm c D U) (hd : c ≤ d) (hd4 : d ≤ 40000) (k : Kp U W) (ht : W.1 2 = 0) {f' : Nat → Int32} {S' : SV} (hR : Rl S' f') (hI : Iz d f') :
    (endU (mR W 0 f') D.dp).1 2 = 0 ∧ (∀ v, endA (mR W 0 f') v = v) ∧ (endU (mR W 0 f') D.dp).1 1 = nI (min (D.dp + 1) 8) ∧ (endU (mR W 0 f') D.dp).2 0 = f' ∧ (∀ j, j ≠ 1 → (endU (mR W 0 f') D.dp).1 j = W.1 j) ∧ (∀ j, j ≠ 0 → j ≠ 3 → (endU (mR W 0 f') D.dp).2 j = W.2 j) ∧
    (∀ i, i < min (D.dp + 1) 8 → Rl (va_up D.V (rgN D.nw) D.S (rgI (rgN D.nw) i)) (pst ((endU (mR W 0 f') D.dp).2 3) (min (D.dp + 1) 8 - 1 - i)) ∧ Iz d (pst ((endU (mR W 0 f') D.dp).2 3) (min (D.dp + 1) 8 - 1 - i))) := by
  have hdp := h.dp
  have hnw := h.nw
  have e0 : (mR W 0 f').1 2 ≤ 0 := by rw [mR_1, ht]; decide
  have eE : endU (mR W 0 f') D.dp = mI (mR (mR W 0 f') 3 (va_cpy (W.2 1) (if D.dp = 8 then va_cpy (W.2 3) (W.2 3) 147 0 1029 else W.2 3) 0 (147 * (if D.dp = 8 then 7 else D.dp)) 147)) 1 (nI ((if D.dp = 8 then 7 else D.dp) + 1)) := by
    unfold endU
    rw [if_pos e0]
    rfl
  have em : (if D.dp = 8 then 7 else D.dp) + 1 = min (D.dp + 1) 8 := by split <;> omega
  obtain ⟨q1, q2⟩ := past_ok (p := W.2 3) (b := W.2 1) hdp
  rw [eE]
  generalize va_cpy (W.2 1) (if D.dp = 8 then va_cpy (W.2 3) (W.2 3) 147 0 1029 else W.2 3) 0 (147 * (if D.dp = 8 then 7 else D.dp)) 147 = P at q1 q2
  refine ⟨ht, fun v => if_pos e0, by rw [em]; rfl, rfl, fun j hj => ?_, fun j h0 h3 => ?_, fun i hi => ?_⟩
  · rw [mI_1, if_neg hj]; rfl
  · show (if j = 3 then P else if j = 0 then f' else W.2 j) = W.2 j
    rw [if_neg h3, if_neg h0]
  · show Rl _ (pst P _) ∧ Iz d (pst P _)
    cases i with
    | zero =>
      have ek : min (D.dp + 1) 8 - 1 - 0 = (if D.dp = 8 then 7 else D.dp) := by split <;> omega
      have hn8 : rgN D.nw < 8 := by unfold rgN; split <;> omega
      rw [ek, rgI_0 hn8, vu_at, if_pos rfl]
      have e : ∀ j, j < 147 → pst P (if D.dp = 8 then 7 else D.dp) j = U.2 0 j := fun j hj => (q1 j hj).trans (k.r1 j hj)
      exact ⟨h.rl.ext h.iz.1.1 e, (h.iz.ext e).mono hd hd4⟩
    | succ i =>
      obtain ⟨g1, g2⟩ := rgI_n (i := i) hnw (by omega)
      rw [g1, vu_at, if_neg (g2 (by omega))]
      have e : ∀ j, j < 147 → pst P (min (D.dp + 1) 8 - 1 - (i + 1)) j = pst (U.2 3) (D.dp - 1 - i) j := fun j hj => by
        rw [q2 _ (by split <;> omega) j hj, k.r3]
        congr 1
        split <;> omega
      obtain ⟨p1, p2⟩ := h.ps i (by omega)
      exact ⟨p1.ext p2.1.1 e, (p2.ext e).mono hd hd4⟩
theorem sim_mod {c d : Int} {D : CD} {U : MV_} (h : Sm c D U) (hd : c ≤ d) (hd4 : d ≤ 40000) {k : Nat} {code : Int32} {S' : SV} {v : Int32} {M : MV_ × Int32} (hO : OpR d (kpU U) k code S' v M) :
    (k = 0 → (endU M.1 D.dp).1 2 = 0 ∧ endA M.1 M.2 = v ∧ Sm d (D.mod S') (endU M.1 D.dp)) ∧ (k ≠ 0 → (endU M.1 D.dp).1 2 = code ∧ Sm d D (endU M.1 D.dp)) := by
  refine ⟨fun e => ?_, fun e => ?_⟩
  · obtain ⟨f', o1, o2, o3⟩ := hO.1 e
    rw [o1]
    obtain ⟨t1, t2, t3, t4, t5, t6, t7⟩ := end_ok h hd hd4 (Kp.kp U) rfl o2 o3
    refine ⟨t1, t2 v, ?_⟩
    have hm := h.mono hd hd4
    dsimp only
    exact Sm.mk (by rw [t4]; exact o2) (by rw [t4]; exact o3) (by show rgN D.nw < 8; have := h.nw; unfold rgN; split <;> omega) (Nat.min_le_right _ _) (t3) (t7) ((t5 0 (by decide)).trans h.sv) (h.sb) (by rw [t6 2 (by decide) (by decide)]; exact hm.sn) (h.tt) (h.tl) ((t5 4 (by decide)).trans h.tn) (by rw [t6 5 (by decide) (by decide)]; exact h.tc) (h.t7) (h.vb) (h.lt) (h.ll) ((t5 3 (by decide)).trans h.ln) (by rw [t6 4 (by decide) (by decide)]; exact h.lc) (h.l7) (by rw [t6 4 (by decide) (by decide)]; exact h.lh) (by rw [t5 7 (by decide)]; exact h.e1) (by rw [t5 8 (by decide)]; exact h.e2)
  · obtain ⟨o1, o2⟩ := hO.2 e
    rw [o1]
    have e0 : ¬ (mI (kpU U) 2 code).1 2 ≤ 0 := by rw [mI_1, if_pos rfl, i_le, i_0]; omega
    have eE : endU (mI (kpU U) 2 code) D.dp = mR (mI (kpU U) 2 code) 0 (va_cpy ((kpU U).2 1) ((kpU U).2 0) 0 0 147) := by
      unfold endU
      rw [if_neg e0]
      rfl
    dsimp only
    rw [eE]
    have er : ∀ j, j < 147 → va_cpy ((kpU U).2 1) ((kpU U).2 0) 0 0 147 j = U.2 0 j := fun j hj => by
      rw [pk_cpy_in (by omega) (by omega), show 0 + (j - 0) = j by omega]
      exact (Kp.kp U).r1 j hj
    have hm := h.mono hd hd4
    refine ⟨rfl, ?_⟩
    exact Sm.mk (h.rl.ext h.iz.1.1 er) (hm.iz.ext er) (h.nw) (h.dp) (h.pm) (hm.ps) (h.sv) (h.sb) (hm.sn) (h.tt) (h.tl) (h.tn) (h.tc) (h.t7) (h.vb) (h.lt) (h.ll) (h.ln) (h.lc) (h.l7) (h.lh) (h.e1) (h.e2)
