/-! Modifiers: fault by fault, state by state -/
abbrev Iz (B : Int) (f : Nat → Int32) : Prop := Iv B f (fun _ => 0) (fun _ => 0) 0
/-- a modifier on both sides: its fault k, the model's number of it, the class's state and answer, what the model's method does to U -/
def OpR (B : Int) (U : MV_) (k : Nat) (code : Int32) (S' : SV) (v : Int32) (M : MV_ × Int32) : Prop :=
  (k = 0 → ∃ f', M = (mR U 0 f', v) ∧ Rl S' f' ∧ Iz B f') ∧ (k ≠ 0 → M = (mI U 2 code, 0) ∧ 0 < code.toInt)
theorem op_as {B : Int} {U : MV_} {S : SV} (hS : Rl S (U.2 0)) (h : Iz B (U.2 0)) (x y : Int32) : OpR B U (stF S x y) (if stF S x y = 2 then 1 else 2) (opS S (nT S) x y) (nI (nT S)) (asM U x y) := by
  have e := hS.fst h.1.1 x y
  have h6 := h.1.1.2.2.2.1
  unfold asM
  rw [hS.t]
  by_cases c1 : (inR x 0 9999 && inR y 0 999) = false
  · rw [if_pos c1] at e
    rw [if_pos c1, e]
    exact ⟨fun a => absurd a (by decide), fun _ => ⟨by rw [if_pos rfl], by rw [if_pos rfl]; decide⟩⟩
  · rw [if_neg c1] at e
    rw [if_neg c1]
    by_cases c2 : tF (U.2 0) = 6
    · rw [if_pos c2] at e
      rw [if_pos c2, e]
      exact ⟨fun a => absurd a (by decide), fun _ => ⟨by rw [if_neg (by decide)], by rw [if_neg (by decide)]; decide⟩⟩
    · rw [if_neg c2] at e
      rw [if_neg c2, e]
      have c1 := Bool.of_not_eq_false c1
      rw [Bool.and_eq_true, inR_i, inR_i, show (9999 : Int32).toInt = 9999 by decide, show (999 : Int32).toInt = 999 by decide, i_0] at c1
      refine ⟨fun _ => ⟨_, rfl, ?_, h.add (by omega) c1.1 c1.2⟩, fun a => absurd rfl a⟩
      have := hS.op h.1.1 (by omega) x y
      rw [hS.t] at this
      exact this
theorem full_ok {B : Int} {f : Nat → Int32} {S : SV} (hS : Rl S f) (h : Iz B f) : decide (f 1 = 20) = decide (20 ≤ nO S) := by
  have h20 := h.1.1.2.1
  rw [hS.n, h.1.1.1]
  refine decide_eq_decide.mpr ⟨fun e => ?_, fun e => ?_⟩
  · have : nI (nF f) = nI 20 := e
    have := nI_ij (by omega) (by omega) this
    omega
  · rw [show nF f = 20 by omega]; rfl
theorem op_pl {B : Int} {U : MV_} {S : SV} (hS : Rl S (U.2 0)) (h : Iz B (U.2 0)) (hB : B + 1 ≤ 40000) (b : Bool) (x pr q mi : Int32) {mf : Bool} {m : Int32} (hm : (mf = true ∧ mi = m ∧ 0 ≤ mi.toInt ∧ mi.toInt ≤ 60) ∨ (mf = false ∧ mi = 61)) : OpR (B + 1) U (ordF S b x pr q mf (decide (20 ≤ nO S))) (nI (ordF S b x pr q mf (decide (20 ≤ nO S)))) (plS S b x pr q m) (S.1 4) (opM U x b pr q mi) := by
  have e := hS.ord h.1.1 x b pr q mi
  have m1 : ¬ mi = -1 := fun e => by
    rcases hm with ⟨-, -, a, -⟩ | ⟨-, a⟩
    · rw [e] at a; exact absurd a (by decide)
    · rw [e] at a; exact absurd a (by decide)
  have m2 : decide (mi ≤ 60) = mf := by
    rcases hm with ⟨a, -, -, c⟩ | ⟨a, c⟩
    · rw [a]; exact decide_eq_true (by rw [i_le, show (60 : Int32).toInt = 60 by decide]; exact c)
    · rw [a, c]; decide
  rw [if_neg m1, m2, full_ok hS h] at e
  have h6 := ordF_6 (S := S) (b := b) (x := x) (pr := pr) (q := q) (mf := mf) (hi := decide (20 ≤ nO S))
  generalize hk : ordF S b x pr q mf (decide (20 ≤ nO S)) = k at e h6
  refine ⟨fun e0 => ?_, fun e0 => ?_⟩
  · rw [e0] at e
    rcases hm with ⟨-, a, c, d⟩ | ⟨a, -⟩
    · obtain ⟨-, p2, p3, p4⟩ := place_ok hS h hB e ⟨c, d⟩
      rw [← a]
      exact ⟨_, by rw [p4 U rfl, hS.1.2.2.2.2.1], p3, p2⟩
    · exfalso
      rw [a] at hk
      have : ordF S b x pr q false (decide (20 ≤ nO S)) ≠ 0 := by
        unfold ordF
        rw [Bool.and_false]
        split
        · decide
        · rw [if_pos rfl]; decide
      exact this (hk.trans e0)
  · have hne : ¬ opC (U.2 0) x b pr q mi = 0 := fun a => by
      rw [e] at a
      exact e0 (nI_ij (by omega) (by omega) a)
    unfold opM
    rw [if_neg hne, e]
    exact ⟨rfl, by rw [i_nI (by omega)]; omega⟩
theorem op_tk {B : Int} {U : MV_} {S : SV} (hS : Rl S (U.2 0)) (h : Iz B (U.2 0)) (hB : B + 1 ≤ 40000) (b : Bool) (x pr q : Int32) {pb : Bool} (hp : S.1 2 = bI pb) : OpR (B + 1) U (ordF S b x pr q true pb) (nI (ordF S b x pr q true pb)) (tkS S b x pr q).1 (q - (tkS S b x pr q).2) (opM U x b pr q (-1)) := by
  have e := hS.ord h.1.1 x b pr q (-1)
  have e4 : decide (U.2 0 4 = 1) = pb := by
    rw [← hS.1.2.2.1, hp]
    cases pb <;> decide
  rw [if_pos rfl, show decide ((-1 : Int32) ≤ 60) = true by decide, e4] at e
  have h6 := ordF_6 (S := S) (b := b) (x := x) (pr := pr) (q := q) (mf := true) (hi := pb)
  generalize hk : ordF S b x pr q true pb = k at e h6
  refine ⟨fun e0 => ?_, fun e0 => ?_⟩
  · rw [e0] at e
    obtain ⟨p1, p2, p3, p4⟩ := take_ok hS h hB e
    exact ⟨_, by rw [p3 U rfl, p4], p2, p1⟩
  · have hne : ¬ opC (U.2 0) x b pr q (-1) = 0 := fun a => by
      rw [e] at a
      exact e0 (nI_ij (by omega) (by omega) a)
    unfold opM
    rw [if_neg hne, e]
    exact ⟨rfl, by rw [i_nI (by omega)]; omega⟩
theorem op_ca {B : Int} {U : MV_} {S : SV} (hS : Rl S (U.2 0)) (h : Iz B (U.2 0)) (x : Int32) : (∀ j, slotF S x (nO S) = some j → canF S x = 0 ∧ OpR B U (canF S x) 1 (rmS S (nO S) j) (S.2.1 6 j) (caM U x)) ∧ (slotF S x (nO S) = none → canF S x = 5 ∧ caM U x = (mI U 2 1, 0)) := by
  have e := hS.find h x
  unfold canF caM
  rw [e]
  refine ⟨fun j hj => ?_, fun hj => ?_⟩
  · rw [hj]
    have l := lst_lt hj
    refine ⟨rfl, fun _ => ⟨_, ?_, hS.rm h.1.1 l.1, h.dr l.1⟩, fun a => absurd rfl a⟩
    rw [hS.qua l.1]
  · rw [hj]
    exact ⟨rfl, rfl⟩
theorem op_ps {B : Int} {U : MV_} {S : SV} (hS : Rl S (U.2 0)) (h : Iz B (U.2 0)) (x : Int32) : OpR B U (pasF S x) 1 (lpS S x).1 (lpS S x).2 (psM U x) := by
  unfold pasF psM
  by_cases c : inR x 1 60 = true
  · rw [if_pos c, if_neg (by rw [c]; decide)]
    obtain ⟨p1, p2, p3⟩ := pass_ok hS h c
    exact ⟨fun _ => ⟨_, by rw [p3], p2, p1⟩, fun a => absurd rfl a⟩
  · rw [if_neg c, if_pos (Bool.of_not_eq_true c)]
    exact ⟨fun a => absurd a (by decide), fun _ => ⟨rfl, by decide⟩⟩
theorem op_on {B : Int} {U : MV_} {S : SV} (hS : Rl S (U.2 0)) (h : Iz B (U.2 0)) : OpR B U (opnF S) 1 (sI S 2 1) (S.1 1) (opnM U) := by
  unfold opnF opnM
  rw [hS.1.2.2.1]
  rcases h.2.1 with e | e
  · rw [if_pos e, if_neg (by rw [e]; decide)]
    exact ⟨fun _ => ⟨_, by rw [hS.1.2.1], hS.opn, h.opn⟩, fun a => absurd rfl a⟩
  · rw [if_neg (by rw [e]; decide), if_pos e]
    exact ⟨fun a => absurd a (by decide), fun _ => ⟨rfl, by decide⟩⟩
theorem op_cl {B : Int} {U : MV_} {S : SV} (hS : Rl S (U.2 0)) (h : Iz B (U.2 0)) : OpR B U (cloF S) 1 (epS S) (poolS S (nO S)).2.1 (clM U) ∧ ∃ g, clG (U.2 0) = some g := by
  obtain ⟨g, g1, g2, g3, g4⟩ := close_ok hS h
  refine ⟨?_, g, g1⟩
  unfold cloF
  rw [hS.1.2.2.1]
  rcases h.2.1 with e | e
  · rw [if_pos e]
    unfold clM
    rw [if_pos e]
    exact ⟨fun a => absurd a (by decide), fun _ => ⟨rfl, by decide⟩⟩
  · have ne : ¬ U.2 0 4 = 0 := by rw [e]; decide
    rw [if_neg ne, clM_g ne g1]
    exact ⟨fun _ => ⟨_, by rw [g2], g4, g3⟩, fun a => absurd rfl a⟩
/-! The commands of a text, carried out -/
theorem cmd_ok {B : Int} {U : MV_} {S : SV} (hS : Rl S (U.2 0)) (h : Iz B (U.2 0)) (hB : B + 1 ≤ 40000) {k w : Nat} (hw : w < 7) (hcd : cdO w (U.2 6 (4 * k))) {g : Nat → Int32} (hg : ∀ x, x < arV w → g x = U.2 6 (4 * k + 1 + x)) :
    (cmF S g w = 0 → ∃ f', doC U k = mR U 0 f' ∧ Rl (cmS S g w) f' ∧ Iz (B + 1) f') ∧ (cmF S g w ≠ 0 → ∃ t : Int32, doC U k = mI U 2 t ∧ 0 < t.toInt) := by
  have fin : ∀ {C : Int} {kk : Nat} {code : Int32} {S' : SV} {v : Int32} {M : MV_ × Int32}, OpR C U kk code S' v M → C ≤ B + 1 → (kk = 0 → ∃ f', M.1 = mR U 0 f' ∧ Rl S' f' ∧ Iz (B + 1) f') ∧ (kk ≠ 0 → ∃ t : Int32, M.1 = mI U 2 t ∧ 0 < t.toInt) := fun {C kk code S' v M} hr hC => by
    refine ⟨fun e => ?_, fun e => ?_⟩
    · obtain ⟨f', a, b, c⟩ := hr.1 e
      exact ⟨f', by rw [a], b, c.mono hC hB⟩
    · obtain ⟨a, b⟩ := hr.2 e
      exact ⟨code, by rw [a], b⟩
  unfold doC
  rcases (show w = 0 ∨ w = 1 ∨ w = 2 ∨ w = 3 ∨ w = 4 ∨ w = 5 ∨ w = 6 by omega) with rfl | rfl | rfl | rfl | rfl | rfl | rfl
  · have e : U.2 6 (4 * k) = 116 := hcd
    have g0 : g 0 = U.2 6 (4 * k + 1) := hg 0 (by decide)
    have g1 : g 1 = U.2 6 (4 * k + 2) := hg 1 (by decide)
    rw [if_pos e, ← g0, ← g1]
    exact fin (op_as hS h (g 0) (g 1)) (by omega)
  · have e : U.2 6 (4 * k) = 98 := hcd
    have g0 : g 0 = U.2 6 (4 * k + 1) := hg 0 (by decide)
    have g1 : g 1 = U.2 6 (4 * k + 2) := hg 1 (by decide)
    have g2 : g 2 = U.2 6 (4 * k + 3) := hg 2 (by decide)
    rw [if_neg (by rw [e]; decide), if_pos e, ← g0, ← g1, ← g2]
    exact fin (op_pl hS h hB true (g 0) (g 1) (g 2) 0 (mf := true) (m := 0) (Or.inl ⟨rfl, rfl, by decide, by decide⟩)) (Int.le_refl _)
  · have e : U.2 6 (4 * k) = 115 := hcd
    have g0 : g 0 = U.2 6 (4 * k + 1) := hg 0 (by decide)
    have g1 : g 1 = U.2 6 (4 * k + 2) := hg 1 (by decide)
    have g2 : g 2 = U.2 6 (4 * k + 3) := hg 2 (by decide)
    rw [if_neg (by rw [e]; decide), if_neg (by rw [e]; decide), if_pos e, ← g0, ← g1, ← g2]
    exact fin (op_pl hS h hB false (g 0) (g 1) (g 2) 0 (mf := true) (m := 0) (Or.inl ⟨rfl, rfl, by decide, by decide⟩)) (Int.le_refl _)
  · have e : U.2 6 (4 * k) = 99 := hcd
    have g0 : g 0 = U.2 6 (4 * k + 1) := hg 0 (by decide)
    rw [if_neg (by rw [e]; decide), if_neg (by rw [e]; decide), if_neg (by rw [e]; decide), if_pos e, ← g0]
    obtain ⟨p1, p2⟩ := op_ca hS h (g 0)
    show (canF S (g 0) = 0 → ∃ f', (caM U (g 0)).1 = mR U 0 f' ∧ Rl (match slotF S (g 0) (nO S) with | some j => rmS S (nO S) j | none => S) f' ∧ Iz (B + 1) f') ∧ (canF S (g 0) ≠ 0 → ∃ t : Int32, (caM U (g 0)).1 = mI U 2 t ∧ 0 < t.toInt)
    cases hsl : slotF S (g 0) (nO S) with
    | none =>
      obtain ⟨q1, q2⟩ := p2 hsl
      rw [q1, q2]
      exact ⟨fun a => absurd a (by decide), fun _ => ⟨1, rfl, by decide⟩⟩
    | some j =>
      obtain ⟨q1, q2⟩ := p1 j hsl
      exact fin q2 (by omega)
  · have e : U.2 6 (4 * k) = 112 := hcd
    have g0 : g 0 = U.2 6 (4 * k + 1) := hg 0 (by decide)
    rw [if_neg (by rw [e]; decide), if_neg (by rw [e]; decide), if_neg (by rw [e]; decide), if_neg (by rw [e]; decide), if_pos e, ← g0]
    exact fin (op_ps hS h (g 0)) (by omega)
  · obtain ⟨e1, e2, e3, e4, e5, e6⟩ := hcd
    rw [if_neg e1, if_neg e2, if_neg e3, if_neg e4, if_neg e5, if_neg e6]
    exact fin (op_on hS h) (by omega)
  · have e : U.2 6 (4 * k) = 108 := hcd
    rw [if_neg (by rw [e]; decide), if_neg (by rw [e]; decide), if_neg (by rw [e]; decide), if_neg (by rw [e]; decide), if_neg (by rw [e]; decide), if_pos e]
    exact fin (op_cl hS h).1 (by omega)
theorem ex_run {L : List Int32} : ∀ {m k q vb : Nat} {g : Nat → Int32} {S : SV} {U : MV_} {B : Int}, Rl S (U.2 0) → Iz B (U.2 0) → B + m ≤ 40000 → U.1 2 = 0 → rdO L (U.2 6) m k q → vb < 7 →
    exO m k U ∧ (exS L m S q vb g).2.2.2.1 < 7 ∧
    (((exS L m S q vb g).1 = m ∧ ∃ f', exR m k U = (mR U 0 f', none) ∧ Rl (exS L m S q vb g).2.1 f' ∧ Iz (B + m) f') ∨ ((exS L m S q vb g).1 < m ∧ ∃ (f' : Nat → Int32) (t : Int32), exR m k U = (mI (mR U 0 f') 2 t, some (k + (exS L m S q vb g).1)) ∧ 0 < t.toInt))
  | 0, k, q, vb, g, S, U, B, hS, h, hB, hU, hr, hv => ⟨trivial, hv, Or.inl ⟨rfl, U.2 0, by
      have e : mR U 0 (U.2 0) = U := by
        unfold mR
        have : va_up U.2 0 (U.2 0) = U.2 := funext fun j => by
          unfold va_up
          split
          · rename_i e; rw [e]
          · rfl
        rw [this]
      rw [e]
      rfl, hS, h.mono (by omega) (by omega)⟩⟩
  | m + 1, k, q, vb, g, S, U, B, hS, h, hB, hU, hr, hv => by
    obtain ⟨q', w, hw, hcd, hrc, hr'⟩ := hr
    obtain ⟨c1, c2, c3, c4⟩ := hrc vb g
    have hcl := op_cl hS h
    have hc := cmd_ok hS h (by omega) (k := k) hw hcd (g := (rcC L q vb g).2.2.2) c4
    have eS : exS L (m + 1) S q vb g = if cmF S (rcC L q vb g).2.2.2 w = 0 then ((exS L m (cmS S (rcC L q vb g).2.2.2 w) q' w (rcC L q vb g).2.2.2).1 + 1, (exS L m (cmS S (rcC L q vb g).2.2.2 w) q' w (rcC L q vb g).2.2.2).2) else (0, S, (rcC L q vb g).2) := by
      rw [exS, if_pos c1, c2, c3]
    have eO : exO (m + 1) k U = (okF (U.2 0) ∧ (U.2 6 (4 * k) = 108 → ¬ U.2 0 4 = 0 → ∃ g, clG (U.2 0) = some g) ∧ ((doC U k).1 2 ≤ 0 → exO m (k + 1) (doC U k))) := rfl
    have eR : exR (m + 1) k U = if (doC U k).1 2 ≤ 0 then exR m (k + 1) (doC U k) else (doC U k, some k) := rfl
    have ec : ((m + 1 : Nat) : Int) = (m : Int) + 1 := rfl
    rw [ec] at hB
    rw [eS, eO, eR]
    by_cases z : cmF S (rcC L q vb g).2.2.2 w = 0
    · obtain ⟨f', d1, d2, d3⟩ := hc.1 z
      have e2 : (mR U 0 f').1 2 = 0 := hU
      have e0 : (mR U 0 f').2 0 = f' := mR_2
      have e6 : (mR U 0 f').2 6 = U.2 6 := rfl
      rw [if_pos z, d1, e2, if_pos (by decide)]
      obtain ⟨i1, i2, i3⟩ := ex_run (L := L) (m := m) (k := k + 1) (q := q') (vb := w) (g := (rcC L q vb g).2.2.2) (S := cmS S (rcC L q vb g).2.2.2 w) (U := mR U 0 f') (B := B + 1) (by rw [e0]; exact d2) (by rw [e0]; exact d3) (by omega) e2 (by rw [e6]; exact hr') hw
      refine ⟨⟨h.1.1, fun _ _ => hcl.2, fun _ => i1⟩, i2, ?_⟩
      rcases i3 with ⟨a, f2, b, c, d⟩ | ⟨a, f2, t, b, c⟩
      · left
        refine ⟨by rw [a], f2, by rw [b, mR_mR], c, ?_⟩
        rw [ec, show B + ((m : Int) + 1) = B + 1 + m by omega]
        exact d
      · right
        refine ⟨by dsimp only; omega, f2, t, ?_, c⟩
        rw [b, mR_mR, show k + 1 + (exS L m (cmS S (rcC L q vb g).2.2.2 w) q' w (rcC L q vb g).2.2.2).1 = k + ((exS L m (cmS S (rcC L q vb g).2.2.2 w) q' w (rcC L q vb g).2.2.2).1 + 1) by omega]
    · obtain ⟨t, d1, d2⟩ := hc.2 z
      have e2 : (mI U 2 t).1 2 = t := by
        show va_up U.1 2 t 2 = t
        unfold va_up
        rw [if_pos rfl]
      have e3 : ¬ t ≤ 0 := by rw [i_le, i_0]; omega
      rw [if_neg z, d1, e2, if_neg e3]
      refine ⟨⟨h.1.1, fun _ _ => hcl.2, fun a => absurd a e3⟩, by rw [c3]; exact hw, Or.inr ⟨by dsimp only; omega, U.2 0, t, ?_, d2⟩⟩
      have e : mR U 0 (U.2 0) = U := by
        unfold mR
        have : va_up U.2 0 (U.2 0) = U.2 := funext fun j => by
          unfold va_up
          split
          · rename_i e; rw [e]
          · rfl
        rw [this]
      rw [e]
      rfl
