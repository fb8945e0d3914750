/-! The law: pool, what it rests on -/
theorem q_dd {x y : Int32} (hy : y ≠ 0) : FP.dcmp (FP.ddiv (FP.i2d x) (FP.i2d y)) (FP.ddiv (FP.i2d x) (FP.i2d y)) = some .eq := by
  obtain ⟨s, c, q, h1, -⟩ := fp_i2d x
  obtain ⟨t, d, r, h2, h3⟩ := fp_i2d y
  have key : FP.Core.val64 (FP.Core.ddiv (FP.i2d x) (FP.i2d y)) ≠ .nan := by
    rw [FP.Core.val64_ddiv]
    intro hn
    rw [FP.Core.quotient_nan] at hn
    have e1 : FP.Core.val64 (FP.i2d x) = .fin s c q := h1
    have e2 : FP.Core.val64 (FP.i2d y) = .fin t d r := h2
    rw [e1, e2] at hn
    rcases hn with e | e | ⟨s1, t1, e, -⟩ | ⟨s1, t1, q1, r1, -, e⟩
    · cases e
    · cases e
    · cases e
    · injection e with _ e3 _
      exact h3 hy e3
  exact FP.Core.dcmp_self key
def spF (f : Nat → Int32) (x : Int32) : Int32 := mmax (smF f true x 99 (nF f)) (smF f false 1 x (nF f)) - voF f (nF f) x
theorem q_vs {f : Nat → Int32} (x : Int32) : (smF f false 1 x (nF f) ≤ smF f true x 99 (nF f) → voF f (nF f) x = smF f false 1 x (nF f) ∧ spF f x = smF f true x 99 (nF f) - smF f false 1 x (nF f)) ∧ (¬ smF f false 1 x (nF f) ≤ smF f true x 99 (nF f) → voF f (nF f) x = smF f true x 99 (nF f) ∧ spF f x = smF f false 1 x (nF f) - smF f true x 99 (nF f)) := by
  unfold spF voF
  generalize smF f true x 99 (nF f) = d
  generalize smF f false 1 x (nF f) = t
  refine ⟨fun c => ?_, fun c => ?_⟩
  · rw [i_le] at c
    have a : mmin d t = t := i_ext (by rw [mmin_i]; omega)
    have b : mmax d t = d := i_ext (by rw [mmax_i]; omega)
    rw [a, b]
    exact ⟨rfl, rfl⟩
  · rw [i_le] at c
    have a : mmin d t = d := i_ext (by rw [mmin_i]; omega)
    have b : mmax d t = t := i_ext (by rw [mmax_i]; omega)
    rw [a, b]
    exact ⟨rfl, rfl⟩
/-- sums over prices, one price after the other -/
theorem q_bu {f : Nat → Int32} {x k : Nat} (hx : x < 100) (hk : k < 99) : smF f true (nI x) (nI k) (nF f) + (if x ≤ k + 1 then smF f true (nI (k + 1)) (nI (k + 1)) (nF f) else 0) = smF f true (nI x) (nI (k + 1)) (nF f) := by
  have e0 : (nI x).toInt = x := i_nI (by omega)
  have e1 : (nI k).toInt = k := i_nI (by omega)
  have e2 : (nI (k + 1)).toInt = (k : Int) + 1 := i_nI (by omega)
  by_cases c : x ≤ k + 1
  · rw [if_pos c]
    refine (sm_two fun i hi => ?_).symm
    rw [smC_i, smC_i, smC_i, e0, e1, e2]
    refine ⟨⟨fun a => ?_, fun a => ?_⟩, fun a => by omega⟩
    · by_cases d : (oF f i 3).toInt = (k : Int) + 1
      · exact Or.inr ⟨a.1, by omega, by omega⟩
      · exact Or.inl ⟨a.1, by omega, by omega⟩
    · rcases a with a | a
      · exact ⟨a.1, by omega, by omega⟩
      · exact ⟨a.1, by omega, by omega⟩
  · rw [if_neg c, Int32.add_zero, sm_no (fun i hi => by rw [smC_i, e0, e1]; omega), sm_no (fun i hi => by rw [smC_i, e0, e2]; omega)]
theorem q_se {f : Nat → Int32} {x k : Nat} (hx : x < 100) (hk : k < 99) : smF f false 1 (nI (min k x)) (nF f) + (if k + 1 ≤ x then smF f false (nI (k + 1)) (nI (k + 1)) (nF f) else 0) = smF f false 1 (nI (min (k + 1) x)) (nF f) := by
  have e1 : (nI k).toInt = k := i_nI (by omega)
  have e2 : (nI (k + 1)).toInt = (k : Int) + 1 := i_nI (by omega)
  by_cases c : k + 1 ≤ x
  · rw [if_pos c, show min k x = k by omega, show min (k + 1) x = k + 1 by omega]
    refine (sm_two fun i hi => ?_).symm
    rw [smC_i, smC_i, smC_i, e1, e2, i_1]
    refine ⟨⟨fun a => ?_, fun a => ?_⟩, fun a => by omega⟩
    · by_cases d : (oF f i 3).toInt = (k : Int) + 1
      · exact Or.inr ⟨a.1, by omega, by omega⟩
      · exact Or.inl ⟨a.1, by omega, by omega⟩
    · rcases a with a | a
      · exact ⟨a.1, by omega, by omega⟩
      · exact ⟨a.1, by omega, by omega⟩
  · rw [if_neg c, Int32.add_zero, show min k x = x by omega, show min (k + 1) x = x by omega]
theorem q_z0 {f : Nat → Int32} (hb : bK f) {x : Nat} (hx : x < 100) : smF f true (nI x) (nI 0) (nF f) = 0 ∧ smF f false 1 (nI (min 0 x)) (nF f) = 0 := by
  have e0 : (nI 0).toInt = 0 := rfl
  rw [show min 0 x = 0 by omega]
  refine ⟨sm_no (fun i hi => ?_), sm_no (fun i hi => ?_)⟩
  · have := (hb.2.1 i hi).2.1
    rw [smC_i, e0]
    omega
  · rw [smC_i, e0, i_1]
    omega
/-! the best price, from below and from above -/
def vZ (f : Nat → Int32) (x : Nat) : Int := (voF f (nF f) (nI x)).toInt
def sZ (f : Nat → Int32) (x : Nat) : Int := (spF f (nI x)).toInt
def bst (f : Nat → Int32) (lo hi x : Nat) : Prop := (lo ≤ x ∧ x ≤ hi) ∧ 0 < vZ f x ∧ ∀ q, lo ≤ q → q ≤ hi → vZ f q < vZ f x ∨ (vZ f q = vZ f x ∧ (sZ f x < sZ f q ∨ (sZ f x = sZ f q ∧ x ≤ q)))
theorem bst_uq {f : Nat → Int32} {lo hi x y : Nat} (h1 : bst f lo hi x) (h2 : bst f lo hi y) : x = y := by
  have a := h1.2.2 y h2.1.1 h2.1.2
  have b := h2.2.2 x h1.1.1 h1.1.2
  omega
def dsF (f : Nat → Int32) (x : Int32) (a : Int32 × Int32 × Int32) : Int32 × Int32 × Int32 := if a.2.1 < voF f (nF f) x ∨ (voF f (nF f) x = a.2.1 ∧ ¬ voF f (nF f) x ≤ 0 ∧ spF f x ≤ a.2.2) then (x, voF f (nF f) x, spF f x) else a
def dsR (f : Nat → Int32) (t : Nat) : Int32 × Int32 × Int32 := fr (fun j a => dsF f (nI (99 - j)) a) t (-13, 0, 0)
theorem up_b {f : Nat → Int32} : ∀ k : Nat, (poR f (nF f) k = (-1, 0, 0) ∧ ∀ q, 1 ≤ q → q ≤ k → vZ f q ≤ 0) ∨ ∃ x, bst f 1 k x ∧ poR f (nF f) k = (nI x, voF f (nF f) (nI x), spF f (nI x))
  | 0 => Or.inl ⟨rfl, fun q h1 h2 => by omega⟩
  | k + 1 => by
    have es : poR f (nF f) (k + 1) = poF f (nF f) (nI (k + 1)) (poR f (nF f) k) := rfl
    rw [es]
    unfold poF
    have ev : (voF f (nF f) (nI (k + 1))).toInt = vZ f (k + 1) := rfl
    have esp : mmax (smF f true (nI (k + 1)) 99 (nF f)) (smF f false 1 (nI (k + 1)) (nF f)) - voF f (nF f) (nI (k + 1)) = spF f (nI (k + 1)) := rfl
    have ez : (spF f (nI (k + 1))).toInt = sZ f (k + 1) := rfl
    rw [esp]
    rcases up_b (f := f) k with ⟨e, hq⟩ | ⟨x, hx, e⟩
    · rw [e]
      dsimp only
      by_cases c : 0 < vZ f (k + 1)
      · rw [if_pos (Or.inl (by rw [i_l, i_0, ev]; exact c))]
        refine Or.inr ⟨k + 1, ⟨⟨by omega, by omega⟩, c, fun q h1 h2 => ?_⟩, rfl⟩
        by_cases d : q = k + 1
        · subst d; omega
        · have := hq q h1 (by omega); omega
      · rw [if_neg (fun a => by
          rcases a with a | ⟨a, -, -⟩
          · rw [i_l, i_0, ev] at a; omega
          · rw [i_le, i_0, ev] at a; omega)]
        refine Or.inl ⟨rfl, fun q h1 h2 => ?_⟩
        by_cases d : q = k + 1
        · subst d; omega
        · exact hq q h1 (by omega)
    · rw [e]
      dsimp only
      have evx : (voF f (nF f) (nI x)).toInt = vZ f x := rfl
      have ezx : (spF f (nI x)).toInt = sZ f x := rfl
      by_cases c : voF f (nF f) (nI x) < voF f (nF f) (nI (k + 1)) ∨ (¬ voF f (nF f) (nI (k + 1)) ≤ 0 ∧ voF f (nF f) (nI (k + 1)) = voF f (nF f) (nI x) ∧ spF f (nI (k + 1)) < spF f (nI x))
      · rw [if_pos c]
        have d : vZ f x < vZ f (k + 1) ∨ (vZ f (k + 1) = vZ f x ∧ sZ f (k + 1) < sZ f x) := by
          rcases c with c | ⟨-, c1, c2⟩
          · rw [i_l, evx, ev] at c; exact Or.inl c
          · rw [i_l, ez, ezx] at c2
            exact Or.inr ⟨by rw [← ev, ← evx, c1], c2⟩
        have h0 := hx.2.1
        refine Or.inr ⟨k + 1, ⟨⟨by omega, by omega⟩, by omega, fun q h1 h2 => ?_⟩, rfl⟩
        by_cases g : q = k + 1
        · subst g; omega
        · have := hx.2.2 q h1 (by omega); omega
      · rw [if_neg c]
        have h0 := hx.2.1
        have d : ¬ vZ f x < vZ f (k + 1) ∧ (vZ f (k + 1) = vZ f x → ¬ sZ f (k + 1) < sZ f x) := by
          refine ⟨fun a => c (Or.inl (by rw [i_l, evx, ev]; exact a)), fun a1 a2 => c (Or.inr ⟨?_, i_ext (by rw [ev, evx]; exact a1), by rw [i_l, ez, ezx]; exact a2⟩)⟩
          rw [i_le, i_0, ev]
          omega
        refine Or.inr ⟨x, ⟨⟨hx.1.1, by have := hx.1.2; omega⟩, h0, fun q h1 h2 => ?_⟩, rfl⟩
        by_cases g : q = k + 1
        · subst g
          have := hx.1.2
          omega
        · exact hx.2.2 q h1 (by omega)
theorem dn_b {f : Nat → Int32} : ∀ t : Nat, t ≤ 99 → (dsR f t = (-13, 0, 0) ∧ ∀ q, 100 - t ≤ q → q ≤ 99 → vZ f q ≤ 0) ∨ ∃ x, bst f (100 - t) 99 x ∧ dsR f t = (nI x, voF f (nF f) (nI x), spF f (nI x))
  | 0, _ => Or.inl ⟨rfl, fun q h1 h2 => by omega⟩
  | t + 1, ht => by
    have es : dsR f (t + 1) = dsF f (nI (99 - t)) (dsR f t) := rfl
    rw [es]
    unfold dsF
    obtain ⟨y, hy⟩ : ∃ y, 99 - t = y := ⟨_, rfl⟩
    rw [hy]
    have ev : (voF f (nF f) (nI y)).toInt = vZ f y := rfl
    have ez : (spF f (nI y)).toInt = sZ f y := rfl
    rcases dn_b (f := f) t (by omega) with ⟨e, hq⟩ | ⟨x, hx, e⟩
    · rw [e]
      dsimp only
      by_cases c : 0 < vZ f y
      · rw [if_pos (Or.inl (by rw [i_l, i_0, ev]; exact c))]
        refine Or.inr ⟨y, ⟨⟨by omega, by omega⟩, c, fun q h1 h2 => ?_⟩, rfl⟩
        by_cases d : q = y
        · subst d; omega
        · have := hq q (by omega) h2; omega
      · rw [if_neg (fun a => by
          rcases a with a | ⟨-, a, -⟩
          · rw [i_l, i_0, ev] at a; omega
          · rw [i_le, i_0, ev] at a; omega)]
        refine Or.inl ⟨rfl, fun q h1 h2 => ?_⟩
        by_cases d : q = y
        · subst d; omega
        · exact hq q (by omega) h2
    · rw [e]
      dsimp only
      have evx : (voF f (nF f) (nI x)).toInt = vZ f x := rfl
      have ezx : (spF f (nI x)).toInt = sZ f x := rfl
      have hr := hx.1
      by_cases c : voF f (nF f) (nI x) < voF f (nF f) (nI y) ∨ (voF f (nF f) (nI y) = voF f (nF f) (nI x) ∧ ¬ voF f (nF f) (nI y) ≤ 0 ∧ spF f (nI y) ≤ spF f (nI x))
      · rw [if_pos c]
        have d : vZ f x < vZ f y ∨ (vZ f y = vZ f x ∧ sZ f y ≤ sZ f x) := by
          rcases c with c | ⟨c1, -, c2⟩
          · rw [i_l, evx, ev] at c; exact Or.inl c
          · rw [i_le, ez, ezx] at c2
            exact Or.inr ⟨by rw [← ev, ← evx, c1], c2⟩
        have h0 := hx.2.1
        refine Or.inr ⟨y, ⟨⟨by omega, by omega⟩, by omega, fun q h1 h2 => ?_⟩, rfl⟩
        by_cases g : q = y
        · subst g; omega
        · have := hx.2.2 q (by omega) h2; omega
      · rw [if_neg c]
        have h0 := hx.2.1
        have d : ¬ vZ f x < vZ f y ∧ (vZ f y = vZ f x → ¬ sZ f y ≤ sZ f x) := by
          refine ⟨fun a => c (Or.inl (by rw [i_l, evx, ev]; exact a)), fun a1 a2 => c (Or.inr ⟨i_ext (by rw [ev, evx]; exact a1), ?_, by rw [i_le, ez, ezx]; exact a2⟩)⟩
          rw [i_le, i_0, ev]
          omega
        refine Or.inr ⟨x, ⟨⟨by omega, hr.2⟩, h0, fun q h1 h2 => ?_⟩, rfl⟩
        by_cases g : q = y
        · subst g; omega
        · exact hx.2.2 q (by omega) h2
/-- the pool's price, by the law's own way -/
theorem q_po {f : Nat → Int32} : (if ppB f = true then clP f else -13) = (dsR f 99).1 := by
  have e0 : clP f = (poR f (nF f) 99).1 := rfl
  unfold ppB
  rw [e0]
  rcases up_b (f := f) 99 with ⟨e, hq⟩ | ⟨x, hx, e⟩ <;> rcases dn_b (f := f) 99 (Nat.le_refl _) with ⟨g, hg⟩ | ⟨y, hy, g⟩
  · rw [e, g]
    rfl
  · exfalso
    have := hq y (by have := hy.1; omega) hy.1.2
    have := hy.2.1
    omega
  · exfalso
    have := hg x (by have := hx.1; omega) hx.1.2
    have := hx.2.1
    omega
  · have h1 := bst_uq hx hy
    subst h1
    rw [e, g]
    show (if (!decide (nI x < 0)) = true then nI x else -13) = nI x
    rw [decide_eq_false (nI_pos (by have := hx.1.2; omega))]
    rfl
theorem q_ll {c : Int} {D : CD} {U : MV_} (h : Sm c D U) : (if laB (U.2 0) = true then U.2 0 5 else -13) = -13 ↔ U.2 0 6 = 0 := by
  have a5 := h.iz.2.2.2.2.1.1.1.2
  rw [q_lp h, h.rl.1.2.2.2.2.2.2.1, h.rl.1.2.2.2.2.2.1]
  constructor
  · intro e
    by_cases c : U.2 0 6 = 0
    · exact c
    · rw [if_neg c] at e
      rw [e, show (-13 : Int32).toInt = -13 by decide] at a5
      exact i_ext (by rw [i_0]; omega)
  · intro c
    rw [if_pos c]
theorem con_ok {c : Int} {D : CD} {U : MV_} (h : Sm c D U) : bI (decide (sprS D.S (nO D.S) = ssR (guR D.S D.f D.g (nO D.S)).1 (guR D.S D.f D.g (nO D.S)).2) && (decide ((poolS D.S (nO D.S)).1 = (psR (guR D.S D.f D.g (nO D.S)).1 (guR D.S D.f D.g (nO D.S)).2 99).1) && covS D.S)) = 1 := by
  have g := gu_su h.rl h.iz.1 D.f D.g
  rw [decide_eq_true (su_ss h.rl h.iz.1 g).1.symm, decide_eq_true (show (poolS D.S (nO D.S)).1 = (psR (guR D.S D.f D.g (nO D.S)).1 (guR D.S D.f D.g (nO D.S)).2 99).1 by rw [pool_rl h.rl h.iz.1, su_pool h.iz.1 g]), cov_ok h.rl h.iz]
  rfl
theorem q_67 {c : Int} {D : CD} {U : MV_} (h : Sm c D U) : ¬ U.2 0 7 < U.2 0 6 ∧ ¬ lg_cmp (U.2 0 8).toInt64 (U.2 0 7).toInt64 < 0 ∧ (¬ U.2 0 6 = 0 → U.2 0 7 ≠ 0) := by
  have a := h.iz.2.2.2.2.1
  refine ⟨?_, ?_, fun e e7 => ?_⟩
  · rw [i_l]; omega
  · have := (lg_cmp_ge (U.2 0 8).toInt64 (U.2 0 7).toInt64).mpr (by rw [Int64.le_iff_toInt_le, Int32.toInt_toInt64, Int32.toInt_toInt64]; omega)
    rw [i_le, i_0] at this
    rw [i_l, i_0]
    omega
  · refine e (i_ext ?_)
    rw [e7, i_0] at a
    rw [i_0]
    omega
section POOLROWS
variable {p : Program} {l : Launch} {e : Env} {R : Room} {s : State} {m : MethodId} {args : Array Value} {below : List Frame} {meth : Method} {c : Code} {H : Heap} {locs : List Loc} {cells slots : Nat} {Q : State → Prop}
variable {G : Gx} {own : String} {cc : ByteArray} {nL : Nat} {ret : Option FieldType} {pc : Nat} {ls : Array Slot} {rest st : List Value}
variable {c9 : Int} {D : CD} {U : MV_} {K r : Nat → Nat → Nat} {X : va_W}
theorem d_meanPrice (C : Cx l G RL cc nL ret p s m meth c args) (hw : WH G s (cW G K r D X) H locs) (h : Sm c9 D U) (h6 : ¬ U.2 0 6 = 0) {index : Nat} (ml : Cond.methodLink RL index yX11_meanPrice ∈ LW) (hR : 7 ≤ R.frames ∧ 404 ≤ R.locals) (hf : cells + 1 ≤ R.cells ∧ slots + 6 ≤ R.slots) (hsz : ls.size = nL) (hrest : (rest.map fun v => v.category).sum ≤ 8) (hdg : decode cc pc = .ok (.invokevirtual index, 3))
    (kk : ∀ (H : Heap) (locs : List Loc), WH G s (cW G K r D X) H locs → W p l e R s m args below meth c H locs (cells + 1) (slots + 6) Q (F0 m (pc + 3) ls (.double (FP.ddiv (FP.i2d (U.2 0 8)) (FP.i2d (U.2 0 7))) :: rest))) : W p l e R s m args below meth c H locs cells slots Q (F0 m pc ls (.ref (K 7 0) :: rest)) := by
  have hF := C.2.2.2.2.2.2.2.2
  refine y_vd (rt := .double) C hw (x11_meanPrice hF (K := K) (S := D.S) (F := D.F) (X := uwA G K r D X) (pm := U.2 0 8) h.rl.2.1) ml yf_X11_meanPrice 19 rfl rfl (As := []) rfl rfl ⟨hR.1, hR.2⟩ hf hsz hrest hdg (fun k1 _ _ _ _ hp _ _ _ _ => absurd (h.rl.1.2.2.2.2.2.2.2.symm.trans hp.2) ((q_67 h).2.2 h6)) (fun r9 u9 H locs hp hw => ?_)
  have hp : r9 = FP.ddiv (FP.i2d (U.2 0 8)) (FP.i2d (U.2 0 7)) := by rw [hp.2, h.rl.1.2.2.2.2.2.2.2]
  rw [hp]
  exact kk H locs hw
theorem d_isConsistent (C : Cx l G RL cc nL ret p s m meth c args) (hw : WH G s (cW G K r D X) H locs) (h : Sm c9 D U) {index : Nat} (ml : Cond.methodLink RL index yX11_isConsistent ∈ LW) (hR : 6 ≤ R.frames ∧ 340 ≤ R.locals) (hf : cells + 2 ≤ R.cells ∧ slots + 6 ≤ R.slots) (hsz : ls.size = nL) (hrest : (rest.map fun v => v.category).sum ≤ 8) (hdg : decode cc pc = .ok (.invokevirtual index, 3))
    (kk : ∀ (H : Heap) (locs : List Loc), WH G s (cW G K r D.sg X) H locs → W p l e R s m args below meth c H locs (cells + 2) (slots + 6) Q (F0 m (pc + 3) ls (.int 1 :: rest))) : W p l e R s m args below meth c H locs cells slots Q (F0 m pc ls (.ref (K 7 0) :: rest)) := by
  have hF := C.2.2.2.2.2.2.2.2
  refine r_vi C (hw.perm (pw_E _ _ _ _ _ _ _ _ _ _)) (k11_isConsistent hF (K := K) (S := D.S) (F := D.F) (f := D.f) (g := D.g) (X := uwE G K r D X) h.ok) ml yf_X11_isConsistent 19 rfl rfl (As := []) rfl rfl ⟨hR.1, hR.2⟩ hf hsz hrest hdg (fun r9 u9 H locs hp hw => ?_)
  have hp : r9 = 1 := hp.trans (con_ok h)
  rw [hp]
  exact kk H locs (hw.perm (pw_E _ _ _ _ _ _ _ _ _ _).symm)
end POOLROWS
