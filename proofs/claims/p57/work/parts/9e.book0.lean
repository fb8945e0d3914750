/-! The law: book, what it rests on -/
/-- the number of the best order, -13 for none -/
def bOrd (f : Nat → Int32) (b : Bool) (k : Nat) : Int32 := match mbF f b k with
  | none => -13
  | some j => oF f j 0
theorem bO_no {f : Nat → Int32} {b : Bool} {k : Nat} (h : byF f k ≠ b) : bOrd f b k = bOrd f b (k + 1) := by
  have e : mbF f b (k + 1) = mbF f b k := if_neg h
  unfold bOrd
  rw [e]
theorem bO_ge {f : Nat → Int32} {b : Bool} {k : Nat} (h : ¬ bOrd f b k < 0) : ∃ j, j < k ∧ mbF f b k = some j ∧ bOrd f b k = oF f j 0 := by
  unfold bOrd at h ⊢
  cases e : mbF f b k with
  | none => rw [e] at h; exact absurd (show (-13 : Int32) < 0 by decide) h
  | some j => exact ⟨j, mb_lt e, rfl, rfl⟩
theorem bO_lt {f : Nat → Int32} (hb : bK f) {b : Bool} {k : Nat} (hk : k ≤ nF f) (h : bOrd f b k < 0) : mbF f b k = none := by
  unfold bOrd at h
  cases e : mbF f b k with
  | none => rfl
  | some j =>
    rw [e] at h
    have l := mb_lt e
    have := (hb.2.1 j (by omega)).2.2.2.2.1
    have h : oF f j 0 < 0 := h
    rw [i_l, i_0] at h
    omega
theorem bO_new {f : Nat → Int32} (hb : bK f) {b : Bool} {k : Nat} (hk : k < nF f) (h : byF f k = b) : (bOrd f b k < 0 → oF f k 0 = bOrd f b (k + 1)) ∧ ∀ j, j < k → mbF f b k = some j → (mdF f b k j ≤ 0 → bOrd f b k = bOrd f b (k + 1)) ∧ (¬ mdF f b k j ≤ 0 → oF f k 0 = bOrd f b (k + 1)) := by
  have es : mbF f b (k + 1) = mbs f b k (mbF f b k) := rfl
  unfold mbs at es
  rw [if_pos h] at es
  refine ⟨fun l => ?_, fun j hj e => ⟨fun d => ?_, fun d => ?_⟩⟩
  · rw [bO_lt hb (by omega) l] at es
    unfold bOrd
    rw [es]
  · rw [e] at es
    have es : mbF f b (k + 1) = if mdF f b k j ≤ 0 then some j else some k := es
    rw [if_pos d] at es
    unfold bOrd
    rw [es, e]
  · rw [e] at es
    have es : mbF f b (k + 1) = if mdF f b k j ≤ 0 then some j else some k := es
    rw [if_neg d] at es
    unfold bOrd
    rw [es]
/-- which price is ahead -/
theorem md_t {f : Nat → Int32} (hb : bK f) {k j : Nat} (hk : k < nF f) (hj : j < nF f) : (mdF f true k j ≤ 0 ↔ oF f k 3 ≤ oF f j 3) ∧ (mdF f false k j ≤ 0 ↔ oF f j 3 ≤ oF f k 3) := by
  have a := (hb.2.1 k hk).2.1
  have c := (hb.2.1 j hj).2.1
  unfold mdF
  rw [if_pos rfl, if_neg (by decide)]
  have e1 : (oF f k 3 - oF f j 3).toInt = (oF f k 3).toInt - (oF f j 3).toInt := i_sub (by omega) (by omega)
  have e2 : (oF f j 3 - oF f k 3).toInt = (oF f j 3).toInt - (oF f k 3).toInt := i_sub (by omega) (by omega)
  rw [i_le, i_le, i_le, i_le, e1, e2, i_0]
  exact ⟨by omega, by omega⟩
theorem q_by {f : Nat → Int32} (hb : bK f) {k : Nat} (hk : k < nF f) : oF f k 2 = bI (byF f k) := by
  unfold byF
  rcases (hb.2.1 k hk).1 with e | e <;> rw [e] <;> decide
theorem q_pz {f : Nat → Int32} (hb : bK f) {k : Nat} (hk : k < nF f) : ∃ z, 1 ≤ z ∧ z < 100 ∧ oF f k 3 = nI z := by
  have a := (hb.2.1 k hk).2.1
  have en : ((oF f k 3).toNatClampNeg : Int) = (oF f k 3).toInt := by
    show (((oF f k 3).toInt.toNat : Nat) : Int) = _
    omega
  refine ⟨(oF f k 3).toNatClampNeg, by omega, by omega, i_ext ?_⟩
  rw [i_nI (by omega)]
  exact en.symm
/-- the law's row of sums -/
def sumA (f : Nat → Int32) (k j : Nat) : Int32 := if j < 100 then smF f true (nI j) (nI j) k else smF f false (nI (j - 100)) (nI (j - 100)) k
theorem sumA_0 {f : Nat → Int32} {j : Nat} : sumA f 0 j = 0 := by unfold sumA; split <;> rfl
theorem sumA_s {f : Nat → Int32} {k z : Nat} {a : Nat → Int32} (b : Bool) (hby : byF f k = b) (hz : 1 ≤ z ∧ z < 100) (ez : oF f k 3 = nI z) (ha : ∀ j, j < 200 → a j = sumA f k j) {x : Nat} (hx : x = if b = true then z else 100 + z) : ∀ j, j < 200 → upd a x (a x + oF f k 4) j = sumA f (k + 1) j := by
  have e3 : (oF f k 3).toInt = z := by rw [ez, i_nI (by omega)]
  intro j hj
  have key : sumA f (k + 1) j = sumA f k j + (if j = x then oF f k 4 else 0) := by
    unfold sumA
    by_cases l : j < 100
    · rw [if_pos l, if_pos l, sm_s]
      congr 1
      have : (smC f true (nI j) (nI j) k = true) ↔ j = x := by
        rw [smC_i, hby, e3, i_nI (by omega), hx]
        cases b
        · rw [if_neg (by decide)]
          exact ⟨fun q => absurd q.1 (by decide), fun q => by omega⟩
        · rw [if_pos rfl]
          exact ⟨fun q => by omega, fun q => ⟨rfl, by omega, by omega⟩⟩
      by_cases d : j = x
      · rw [if_pos d, if_pos (this.mpr d)]
      · rw [if_neg d, if_neg (fun q => d (this.mp q))]
    · rw [if_neg l, if_neg l, sm_s]
      congr 1
      have : (smC f false (nI (j - 100)) (nI (j - 100)) k = true) ↔ j = x := by
        rw [smC_i, hby, e3, i_nI (by omega), hx]
        cases b
        · rw [if_neg (by decide)]
          exact ⟨fun q => by omega, fun q => ⟨rfl, by omega, by omega⟩⟩
        · rw [if_pos rfl]
          exact ⟨fun q => absurd q.1 (by decide), fun q => by omega⟩
      by_cases d : j = x
      · rw [if_pos d, if_pos (this.mpr d)]
      · rw [if_neg d, if_neg (fun q => d (this.mp q))]
  rw [key]
  by_cases d : j = x
  · subst d
    rw [pk_us, if_pos rfl, ha j hj]
  · rw [pk_un d, if_neg d, Int32.add_zero, ha j hj]
/-- minutes as the law asks for them -/
theorem q_left {f : Nat → Int32} (hb : bK f) {k : Nat} (hk : k < nF f) (h : ¬ (if oF f k 5 = 0 then (-14 : Int32) else oF f k 5) = -14) : ¬ (if oF f k 5 = 0 then (-14 : Int32) else oF f k 5) < 1 ∧ (if oF f k 5 = 0 then (-14 : Int32) else oF f k 5) ≤ 60 := by
  have a := (hb.2.1 k hk).2.2.2.1
  by_cases c : oF f k 5 = 0
  · rw [if_pos c] at h
    exact absurd rfl h
  · rw [if_neg c]
    have : (oF f k 5).toInt ≠ 0 := fun e => c (i_ext (by rw [e, i_0]))
    rw [i_l, i_le, i_1, show (60 : Int32).toInt = 60 by decide]
    omega
theorem q_bnd {f : Nat → Int32} (hb : bK f) {k : Nat} (hk : k < nF f) : (¬ oF f k 3 < 1 ∧ ¬ oF f k 3 > 99) ∧ (¬ oF f k 4 < 1 ∧ ¬ oF f k 4 > 50) ∧ ¬ oF f k 1 < 0 := by
  obtain ⟨a2, a3, a4, a5, a0⟩ := hb.2.1 k hk
  have e := (hb.1.2.2.2.2 k hk).1
  have h6 := hb.1.2.2.2.1
  have l := (hb.1.2.2.2.2 k hk).2
  refine ⟨⟨?_, ?_⟩, ⟨?_, ?_⟩, ?_⟩
  · rw [i_l, i_1]; omega
  · intro q
    have q : (99 : Int32) < oF f k 3 := q
    rw [i_l, show (99 : Int32).toInt = 99 by decide] at q
    omega
  · rw [i_l, i_1]; omega
  · intro q
    have q : (50 : Int32) < oF f k 4 := q
    rw [i_l, show (50 : Int32).toInt = 50 by decide] at q
    omega
  · rw [e]
    exact nI_pos (by omega)
theorem q_inc {f : Nat → Int32} (hb : bK f) {k : Nat} (hk : k < nF f) (h0 : 0 < k) : ¬ oF f k 0 ≤ oF f (k - 1) 0 := by
  have := hb.2.2 (k - 1) k (by omega) hk
  rw [i_le]
  omega
theorem q_ov {f : Nat → Int32} (h : bK f) {k : Nat} (hk : k < nF f) (j : Nat) (z : Int32) : (if teB f (oF f k 0) = true then teV f (oF f k 0) j else z) = oF f k j := by
  rw [if_pos (q_te h hk).1, (q_te h hk).2]
theorem q_oa {f : Nat → Int32} (hf : okF f) {k : Nat} (hk : k < nF f) (z : Int32) : (if inR (nI k) 0 (nI (nF f) - 1) = true then oF f (nI k).toNatClampNeg 0 else z) = oF f k 0 := by
  rw [if_pos (q_at hf hk).1, (q_at hf hk).2]
theorem q_bb {f : Nat → Int32} (b : Bool) : (if beB f b = true then beV f b 0 else -13) = bOrd f b (nF f) := by
  unfold beB beV bOrd
  cases mbF f b (nF f) <;> rfl
/-- no buyer bids what a seller asks, unless the pool is open -/
def Nc (f : Nat → Int32) : Prop := f 4 = 0 → ∀ i j, i < nF f → j < nF f → byF f i = true → byF f j = false → (oF f i 3).toInt < (oF f j 3).toInt
theorem q_sp0 {f : Nat → Int32} (hb : bK f) {b : Bool} (h : bOrd f b (nF f) < 0) : (if spB f = true then spV f else -1300) = -1300 := by
  have e := bO_lt hb (Nat.le_refl _) h
  refine if_neg ?_
  unfold spB beB
  cases b
  · rw [e]; simp
  · rw [e]; simp
theorem q_sp1 {f : Nat → Int32} {i j : Nat} (h1 : mbF f true (nF f) = some i) (h2 : mbF f false (nF f) = some j) : oF f j 3 - oF f i 3 = if spB f = true then spV f else -1300 := by
  have e : spB f = true := by unfold spB beB; rw [h1, h2]; rfl
  unfold spV beV
  rw [if_pos e, if_pos e, h1, h2]
theorem q_nc {f : Nat → Int32} (hb : bK f) (hN : Nc f) (h4 : f 4 = 0) (h : ¬ (if spB f = true then spV f else -1300) = -1300) : ¬ (if spB f = true then spV f else -1300) ≤ 0 := by
  by_cases e : spB f = true
  · cases h1 : mbF f true (nF f) with
    | none => unfold spB beB at e; rw [h1] at e; simp at e
    | some i =>
      cases h2 : mbF f false (nF f) with
      | none => unfold spB beB at e; rw [h2] at e; simp at e
      | some j =>
        rw [← q_sp1 h1 h2]
        have li := mb_lt h1
        have lj := mb_lt h2
        have q := hN h4 i j li lj (mb_by h1) (mb_by h2)
        have a := (hb.2.1 i li).2.1
        have c := (hb.2.1 j lj).2.1
        rw [i_le, i_0, i_sub (by omega) (by omega)]
        omega
  · rw [if_neg e] at h
    exact absurd rfl h
theorem q_ff : ∀ a b : Nat, a < 21 → b < 21 → 0 < b → FP.fcmp (FP.fdiv (FP.i2f (nI a)) (FP.i2f (nI b))) (FP.fdiv (FP.i2f (nI a)) (FP.i2f (nI b))) = some .eq := by
  have key : ∀ a : Fin 21, ∀ b : Fin 21, 0 < b.val → FP.fcmp (FP.fdiv (FP.i2f (nI a.val)) (FP.i2f (nI b.val))) (FP.fdiv (FP.i2f (nI a.val)) (FP.i2f (nI b.val))) = some .eq := by decide +kernel
  intro a b ha hb h0
  exact key ⟨a, ha⟩ ⟨b, hb⟩ h0
section BOOKROWS
variable {p : Program} {l : Launch} {e : Env} {R : Room} {s : State} {m : MethodId} {args : Array Value} {below : List Frame} {meth : Method} {c : Code} {H : Heap} {locs : List Loc} {cells slots : Nat} {Q : State → Prop}
variable {G : Gx} {own : String} {cc : ByteArray} {nL : Nat} {ret : Option FieldType} {pc : Nat} {ls : Array Slot} {rest st : List Value}
variable {c9 : Int} {D : CD} {U : MV_} {K r : Nat → Nat → Nat} {X : va_W}
theorem d_buyingShare (C : Cx l G RL cc nL ret p s m meth c args) (hw : WH G s (cW G K r D X) H locs) (h : Sm c9 D U) (h1 : ¬ nI (nF (U.2 0)) = 0) {index : Nat} (ml : Cond.methodLink RL index yX11_buyingShare ∈ LW) (hR : 7 ≤ R.frames ∧ 404 ≤ R.locals) (hf : cells + 1 ≤ R.cells ∧ slots + 6 ≤ R.slots) (hsz : ls.size = nL) (hrest : (rest.map fun v => v.category).sum ≤ 8) (hdg : decode cc pc = .ok (.invokevirtual index, 3))
    (kk : ∀ (z : Nat) (H : Heap) (locs : List Loc), z < 21 → bsF (U.2 0) (nF (U.2 0)) = nI z → WH G s (cW G K r D X) H locs → W p l e R s m args below meth c H locs (cells + 1) (slots + 6) Q (F0 m (pc + 3) ls (.float (FP.fdiv (FP.i2f (nI z)) (FP.i2f (nI (nF (U.2 0))))) :: rest))) : W p l e R s m args below meth c H locs cells slots Q (F0 m pc ls (.ref (K 7 0) :: rest)) := by
  have hF := C.2.2.2.2.2.2.2.2
  obtain ⟨z, z1, z2, z3⟩ := bc_ok h.rl h.iz.1
  refine y_vf (rt := .float) C hw (x11_buyingShare hF (K := K) (S := D.S) (F := D.F) (X := uwA G K r D X) h.ok z1 z2) ml yf_X11_buyingShare 19 rfl rfl (As := []) rfl rfl ⟨hR.1, hR.2⟩ hf hsz hrest hdg (fun k1 _ _ _ _ hp _ _ _ _ => absurd ((h.okf.1.symm.trans (h.rl.1.2.1.symm.trans hp.2))) h1) (fun r9 u9 H locs hp hw => ?_)
  have hp : r9 = FP.fdiv (FP.i2f (nI z)) (FP.i2f (nI (nF (U.2 0)))) := by rw [hp.2, h.rl.n]
  rw [hp]
  exact kk z H locs z1 z3 hw
end BOOKROWS
