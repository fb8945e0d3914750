/-! The pool -/
theorem zs_0 {g : Nat → Int} : ∀ {n : Nat}, (∀ k, k < n → g k = 0) → zs g n = 0
  | 0, _ => rfl
  | n + 1, h => by
    show zs g n + g n = 0
    rw [zs_0 (fun k hk => h k (by omega)), h n (by omega)]; rfl
theorem zs_at {g : Nat → Int} {n : Nat} (h : 1 ≤ zs g n) : ∃ k, k < n ∧ g k ≠ 0 := by
  by_cases c : ∃ k, k < n ∧ g k ≠ 0
  · exact c
  · exfalso
    have : zs g n = 0 := zs_0 fun k hk => Decidable.byContradiction fun e => c ⟨k, hk, e⟩
    omega
/-- what a sum over orders is -/
theorem sm_int {f : Nat → Int32} (h : bK f) (b : Bool) (lo hi : Int32) : ∀ {n : Nat}, n ≤ nF f → (smF f b lo hi n).toInt = zs (fun k => if smC f b lo hi k = true then (oF f k 4).toInt else 0) n ∧ 0 ≤ (smF f b lo hi n).toInt ∧ (smF f b lo hi n).toInt ≤ 50 * n
  | 0, _ => ⟨i_0, by show 0 ≤ (0 : Int32).toInt; decide, by show (0 : Int32).toInt ≤ 50 * 0; decide⟩
  | n + 1, hn => by
    obtain ⟨i1, i2, i3⟩ := sm_int h b lo hi (n := n) (by omega)
    obtain ⟨o2, o3, o4, o5, o0⟩ := h.2.1 n (by omega)
    have h20 := h.1.2.1
    have e : smF f b lo hi (n + 1) = smF f b lo hi n + (if smC f b lo hi n = true then oF f n 4 else 0) := rfl
    have ez : zs (fun k => if smC f b lo hi k = true then (oF f k 4).toInt else 0) (n + 1) = zs (fun k => if smC f b lo hi k = true then (oF f k 4).toInt else 0) n + (if smC f b lo hi n = true then (oF f n 4).toInt else 0) := rfl
    have en : ((n + 1 : Nat) : Int) = (n : Int) + 1 := rfl
    have ei := iteI (c := smC f b lo hi n = true) (x := oF f n 4)
    rw [e, ez, ← i1, ← ei.1, i_add (by omega) (by omega)]
    omega
theorem smP {f : Nat → Int32} (h : bK f) (x : Int32) : (smF f true x 99 (nF f)).toInt = zq (wP x.toInt) f := by
  rw [(sm_int h true x 99 (Nat.le_refl _)).1]
  refine zs_congr fun k hk => ?_
  obtain ⟨o2, o3, o4, o5, o0⟩ := h.2.1 k hk
  have e : smC f true x 99 k = true ↔ (byF f k = true ∧ x.toInt ≤ (oF f k 3).toInt) := by
    unfold smC
    rw [Bool.and_eq_true, decide_eq_true_iff, inR_i, show (99 : Int32).toInt = 99 by decide]
    exact ⟨fun a => ⟨a.1, a.2.1⟩, fun a => ⟨a.1, a.2, o3.2⟩⟩
  unfold zw zk wP
  by_cases c : smC f true x 99 k = true
  · rw [if_pos c, if_pos (e.mp c), Int.one_mul]
  · rw [if_neg c, if_neg (fun a => c (e.mpr a)), Int.zero_mul]
theorem smS {f : Nat → Int32} (h : bK f) (x : Int32) : (smF f false 1 x (nF f)).toInt = zq (wS x.toInt) f := by
  rw [(sm_int h false 1 x (Nat.le_refl _)).1]
  refine zs_congr fun k hk => ?_
  obtain ⟨o2, o3, o4, o5, o0⟩ := h.2.1 k hk
  have e : smC f false 1 x k = true ↔ (byF f k = false ∧ (oF f k 3).toInt ≤ x.toInt) := by
    unfold smC
    rw [Bool.and_eq_true, decide_eq_true_iff, inR_i, show (1 : Int32).toInt = 1 by decide]
    exact ⟨fun a => ⟨a.1, a.2.2⟩, fun a => ⟨a.1, o3.1, a.2⟩⟩
  unfold zw zk wS
  by_cases c : smC f false 1 x k = true
  · rw [if_pos c, if_pos (e.mp c), Int.one_mul]
  · rw [if_neg c, if_neg (fun a => c (e.mpr a)), Int.zero_mul]
theorem bS_sm {c : Nat → Bool} {v : Nat → Int32} : ∀ n : Nat, bS c v n = fr (fun p s => s + (if c p = true then v p else 0)) n 0
  | 0 => rfl
  | n + 1 => by
    show (if c n = true then bS c v n + v n else bS c v n) = fr (fun p s => s + (if c p = true then v p else 0)) n 0 + (if c n = true then v n else 0)
    rw [bS_sm n]
    split
    · rfl
    · rw [Int32.add_zero]
theorem Rl.dmd {S : SV} {f : Nat → Int32} (h : Rl S f) (hb : bK f) (x : Int32) : dmd S x (nO S) = smF f true x 99 (nF f) := by
  unfold _root_.Jvm.Pilot.CDropMarketLaw_law_r1105_e9f6f8.dmd smF
  rw [bS_sm, h.n]
  refine fr_congr fun k s hk => ?_
  obtain ⟨o2, o3, o4, o5, o0⟩ := hb.2.1 k hk
  have e : (buyS S k && !decide (S.2.1 5 k < x)) = smC f true x 99 k := by
    unfold smC inR
    rw [h.buy hk, h.pri hk]
    have : decide (99 < oF f k 3) = false := by rw [decide_eq_false_iff_not, i_l, show (99 : Int32).toInt = 99 by decide]; omega
    rw [this]
    cases byF f k <;> simp
  rw [e, h.qua hk]
theorem Rl.sup {S : SV} {f : Nat → Int32} (h : Rl S f) (hb : bK f) (x : Int32) : sup S x (nO S) = smF f false 1 x (nF f) := by
  unfold _root_.Jvm.Pilot.CDropMarketLaw_law_r1105_e9f6f8.sup smF
  rw [bS_sm, h.n]
  refine fr_congr fun k s hk => ?_
  obtain ⟨o2, o3, o4, o5, o0⟩ := hb.2.1 k hk
  have e : (!buyS S k && !decide (x < S.2.1 5 k)) = smC f false 1 x k := by
    unfold smC inR
    rw [h.buy hk, h.pri hk]
    have : decide (oF f k 3 < 1) = false := by rw [decide_eq_false_iff_not, i_l, show (1 : Int32).toInt = 1 by decide]; omega
    rw [this]
    cases byF f k <;> simp
  rw [e, h.qua hk]
theorem mmax_i {x y : Int32} : (mmax x y).toInt = max x.toInt y.toInt := by
  unfold mmax
  by_cases h : x < y
  · rw [if_pos h]; rw [i_l] at h; omega
  · rw [if_neg h]; rw [i_l] at h; omega
theorem mabs_i {x : Int32} (h : -1000000 ≤ x.toInt) : (mabs x).toInt = if 0 ≤ x.toInt then x.toInt else -x.toInt := by
  unfold mabs
  have := i_rng x
  by_cases c : (0 : Int32) ≤ x
  · rw [if_pos c]; rw [i_le, i_0] at c; rw [if_pos c]
  · rw [if_neg c]
    rw [i_le, i_0] at c
    rw [if_neg c, i_sub (by rw [i_0]; omega) (by rw [i_0]; omega), i_0]
    omega
/-- the pool's price, found by trying: the model's -/
theorem pc_po {f : Nat → Int32} (h : bK f) {d s : Int32 → Int32} (hd : ∀ x, d x = smF f true x 99 (nF f)) (hs : ∀ x, s x = smF f false 1 x (nF f)) : ∀ n : Nat, n ≤ 99 → pcR d s n = poR f (nF f) n ∧
    (((poR f (nF f) n).1 = -1 ∧ (poR f (nF f) n).2.1 = 0 ∧ (poR f (nF f) n).2.2 = 0) ∨ (∃ p : Nat, 1 ≤ p ∧ p ≤ 99 ∧ (poR f (nF f) n).1 = nI p ∧ (poR f (nF f) n).2.1 = voF f (nF f) (nI p) ∧ 1 ≤ (poR f (nF f) n).2.1.toInt))
  | 0, _ => ⟨rfl, Or.inl ⟨rfl, rfl, rfl⟩⟩
  | n + 1, hn => by
    obtain ⟨i1, i2⟩ := pc_po h hd hs n (by omega)
    have h20 := h.1.2.1
    have b1 := (sm_int h true (nI (n + 1)) 99 (Nat.le_refl _)).2
    have b2 := (sm_int h false 1 (nI (n + 1)) (Nat.le_refl _)).2
    have e1 : pcR d s (n + 1) = pcs (nI (n + 1)) (d (nI (n + 1))) (s (nI (n + 1))) (pcR d s n) := rfl
    have e2 : poR f (nF f) (n + 1) = poF f (nF f) (nI (n + 1)) (poR f (nF f) n) := rfl
    rw [e1, e2, i1, hd, hs]
    generalize poR f (nF f) n = t at i2
    have ev : voF f (nF f) (nI (n + 1)) = mmin (smF f true (nI (n + 1)) 99 (nF f)) (smF f false 1 (nI (n + 1)) (nF f)) := rfl
    unfold pcs poF
    rw [ev]
    generalize smF f true (nI (n + 1)) 99 (nF f) = D at b1 ev ⊢
    generalize smF f false 1 (nI (n + 1)) (nF f) = E at b2 ev ⊢
    have m1 := mmin_i (x := D) (y := E)
    have m2 := mmax_i (x := D) (y := E)
    have m3 : (D - E).toInt = D.toInt - E.toInt := i_sub (by omega) (by omega)
    have m5 : (mmax D E - mmin D E).toInt = (mmax D E).toInt - (mmin D E).toInt := i_sub (by omega) (by omega)
    have m4 : mabs (D - E) = mmax D E - mmin D E := i_ext (by rw [mabs_i (by omega), m5, m1, m2, m3]; split <;> omega)
    rw [m4]
    generalize hsur : mmax D E - mmin D E = sur at m5
    have t0 : 0 ≤ t.2.1.toInt ∧ (t.2.1.toInt = 0 → t.2.2.toInt = 0) := by
      rcases i2 with ⟨a1, a2, a3⟩ | ⟨p, a1, a2, a3, a4, a5⟩
      · rw [a2, a3]; decide
      · omega
    have key : (t.2.1 < mmin D E ∨ (mmin D E = t.2.1 ∧ ¬ t.2.2 ≤ sur)) ↔ (t.2.1 < mmin D E ∨ (¬ mmin D E ≤ 0 ∧ mmin D E = t.2.1 ∧ sur < t.2.2)) := by
      rw [i_l, i_le, i_le, i_l, i_0]
      constructor
      · rintro (a | ⟨a, b⟩)
        · exact Or.inl a
        · have := congrArg Int32.toInt a
          exact Or.inr ⟨by omega, a, by omega⟩
      · rintro (a | ⟨a, b, c⟩)
        · exact Or.inl a
        · exact Or.inr ⟨b, by omega⟩
    by_cases c : (t.2.1 < mmin D E ∨ (mmin D E = t.2.1 ∧ ¬ t.2.2 ≤ sur))
    · rw [if_pos c, if_pos (key.mp c)]
      refine ⟨rfl, Or.inr ⟨n + 1, by omega, by omega, rfl, ?_, ?_⟩⟩
      · exact ev.symm
      · rcases key.mp c with a | ⟨a, -, -⟩
        · rw [i_l] at a; show 1 ≤ (mmin D E).toInt; omega
        · rw [i_le, i_0] at a; show 1 ≤ (mmin D E).toInt; omega
    · rw [if_neg c, if_neg (fun a => c (key.mpr a))]
      exact ⟨rfl, i2⟩
/-! The pool is closed -/
theorem zk_P {f : Nat → Int32} {x : Int} {j : Nat} (h : byF f j = true) : zk (wP x) f j = if x ≤ (oF f j 3).toInt then 1 else 0 := by
  unfold zk wP
  rw [h]
  by_cases c : x ≤ (oF f j 3).toInt
  · rw [if_pos ⟨rfl, c⟩, if_pos c]
  · rw [if_neg (fun a => c a.2), if_neg c]
theorem zk_P0 {f : Nat → Int32} {x : Int} {j : Nat} (h : byF f j = false) : zk (wP x) f j = 0 := by
  unfold zk wP
  rw [h, if_neg (fun a => absurd a.1 (by decide))]
theorem zk_S {f : Nat → Int32} {x : Int} {j : Nat} (h : byF f j = false) : zk (wS x) f j = if (oF f j 3).toInt ≤ x then 1 else 0 := by
  unfold zk wS
  rw [h]
  by_cases c : (oF f j 3).toInt ≤ x
  · rw [if_pos ⟨rfl, c⟩, if_pos c]
  · rw [if_neg (fun a => c a.2), if_neg c]
theorem zk_S0 {f : Nat → Int32} {x : Int} {j : Nat} (h : byF f j = true) : zk (wS x) f j = 0 := by
  unfold zk wS
  rw [h, if_neg (fun a => absurd a.1 (by decide))]
theorem buy_at {f : Nat → Int32} (h : bK f) {x : Int} (hx : 1 ≤ zq (wP x) f) : ∃ j, mbF f true (nF f) = some j ∧ x ≤ (oF f j 3).toInt := by
  obtain ⟨k, hk, hz⟩ := zs_at hx
  have hb : byF f k = true := by
    cases c : byF f k with
    | true => rfl
    | false => exact absurd (by unfold zw; rw [zk_P0 c, Int.zero_mul]) hz
  have hp : x ≤ (oF f k 3).toInt := Decidable.byContradiction fun c => hz (by unfold zw; rw [zk_P hb, if_neg c, Int.zero_mul])
  cases hm : mbF f true (nF f) with
  | none => exact absurd hb (mb_none hm k hk)
  | some j =>
    have := mb_max h (Nat.le_refl _) hm k hk hb
    unfold nah at this
    rw [if_pos rfl] at this
    exact ⟨j, rfl, by omega⟩
theorem sell_at {f : Nat → Int32} (h : bK f) {x : Int} (hx : 1 ≤ zq (wS x) f) : ∃ j, mbF f false (nF f) = some j ∧ (oF f j 3).toInt ≤ x := by
  obtain ⟨k, hk, hz⟩ := zs_at hx
  have hb : byF f k = false := by
    cases c : byF f k with
    | false => rfl
    | true => exact absurd (by unfold zw; rw [zk_S0 c, Int.zero_mul]) hz
  have hp : (oF f k 3).toInt ≤ x := Decidable.byContradiction fun c => hz (by unfold zw; rw [zk_S hb, if_neg c, Int.zero_mul])
  cases hm : mbF f false (nF f) with
  | none => exact absurd hb (mb_none hm k hk)
  | some j =>
    have := mb_max h (Nat.le_refl _) hm k hk hb
    unfold nah at this
    rw [if_neg (by decide)] at this
    exact ⟨j, rfl, by omega⟩
/-- one meeting in the pool -/
theorem cl_step {B : Int} {f : Nat → Int32} {p x : Int32} {j k : Nat} (hp : 1 ≤ p.toInt ∧ p.toInt ≤ 99) (hx : 1 ≤ x.toInt) (h : Iv B f (fun _ => 0) (fun _ => 0) 0) (hxP : x.toInt ≤ zq (wP p.toInt) f) (hxS : x.toInt ≤ zq (wS p.toInt) f)
    (hj : mbF f true (nF f) = some j) (hk : mbF f false (nF f) = some k) (hpj : p.toInt ≤ (oF f j 3).toInt) (hpk : (oF f k 3).toInt ≤ p.toInt) :
    Iv B (clS f x p j k) (fun _ => 0) (fun _ => 0) 0 ∧ (x - clT f x j k).toInt = x.toInt - (clT f x j k).toInt ∧ 0 ≤ (x - clT f x j k).toInt ∧ (x - clT f x j k).toInt ≤ zq (wP p.toInt) (clS f x p j k) ∧ (x - clT f x j k).toInt ≤ zq (wS p.toInt) (clS f x p j k) ∧
    ((x - clT f x j k).toInt = 0 ∨ nF (clS f x p j k) + 1 ≤ nF f) ∧ (∀ S, Rl S f → Rl (tpS p S x j k) (clS f x p j k) ∧ tpT S x j k = clT f x j k) ∧ clS f x p j k 4 = f 4 ∧ clS f x p j k 2 = f 2 := by
  have hK := h.1
  have hjn := mb_lt hj
  have hkn := mb_lt hk
  have hbj := mb_by hj
  have hbk := mb_by hk
  have hjk : j ≠ k := fun e => by rw [e, hbk] at hbj; exact absurd hbj (by decide)
  obtain ⟨j2, j3, j4, j5, j0⟩ := hK.2.1 j hjn
  obtain ⟨k2, k3, k4, k5, k0⟩ := hK.2.1 k hkn
  have h6 := hK.1.2.2.2.1
  have wj := hK.1.2.2.2.2 j hjn
  have wk := hK.1.2.2.2.2 k hkn
  obtain ⟨t, et⟩ : ∃ t, clT f x j k = t := ⟨_, rfl⟩
  have ti : t.toInt = min x.toInt (min (oF f j 4).toInt (oF f k 4).toInt) := by rw [← et]; unfold clT; rw [mmin_i, mmin_i]
  have hxt : (x - t).toInt = x.toInt - t.toInt := by
    have := i_rng x
    exact i_sub (by omega) (by omega)
  have hmul : (p * t).toInt = p.toInt * t.toInt := by
    have a1 : p.toInt * t.toInt ≤ 99 * t.toInt := Int.mul_le_mul_of_nonneg_right (by omega) (by omega)
    have a2 : 0 ≤ p.toInt * t.toInt := Int.mul_nonneg (by omega) (by omega)
    exact i_mul (by omega) (by omega)
  have V1 : (p * t).toInt ≤ 99 * t.toInt := by rw [hmul]; exact Int.mul_le_mul_of_nonneg_right (by omega) (by omega)
  have V0 : t.toInt ≤ (p * t).toInt := by
    rw [hmul]
    have q := Int.mul_le_mul_of_nonneg_right (show (1 : Int) ≤ p.toInt by omega) (show 0 ≤ t.toInt by omega)
    rw [Int.one_mul] at q
    exact q
  have Vj : (p * t).toInt ≤ (oF f j 3).toInt * t.toInt := by rw [hmul]; exact Int.mul_le_mul_of_nonneg_right hpj (by omega)
  have nQ := zq_nn wQ_nn hK
  have h8 : (f 8 + p * t).toInt = (f 8).toInt + (p * t).toInt := by
    have a := h.2.2.2.2.1.1
    have a2 := h.2.2.2.2.1.2
    have c := h.2.2.2.2.2
    exact i_add (by omega) (by omega)
  obtain ⟨g, eg⟩ : ∃ g, pyF f (wF f j) (wF f k) p t = g := ⟨_, rfl⟩
  have okg := okF_py hK.1 (bu := wF f j) (se := wF f k) (pr := p) (q := t) (by omega) (by omega)
  rw [eg] at okg
  have eo : ∀ k n, n < 6 → oF g k n = oF f k n := fun k n hn => by rw [← eg]; exact py_hi (by omega) (by omega) (by omega)
  have elo : ∀ k, k < 5 → g k = f k := fun k hk => by rw [← eg]; exact py_lo hk
  have egt : tF g = tF f := by unfold tF; rw [elo 0 (by omega)]
  have hKg : bK g := ⟨okg.1, fun k hk => by
      unfold bO
      rw [eo k 2 (by omega), eo k 3 (by omega), eo k 4 (by omega), eo k 5 (by omega), eo k 0 (by omega), elo 2 (by omega)]
      exact hK.2.1 k (by rw [← okg.2]; exact hk), fun a c hac hc => by
      rw [eo a 0 (by omega), eo c 0 (by omega)]
      exact hK.2.2 a c hac (by rw [← okg.2]; exact hc)⟩
  have ezk : ∀ w k, zk w g k = zk w f k := fun w k => by
    unfold zk wF byF
    rw [eo k 1 (by omega), eo k 2 (by omega), eo k 3 (by omega)]
  have ezq : ∀ w, zq w g = zq w f := fun w => by
    unfold zq
    rw [okg.2]
    refine zs_congr fun k _ => ?_
    unfold zw
    rw [ezk, eo k 4 (by omega)]
  -- the later order first
  obtain ⟨a, ea⟩ : ∃ a, max j k = a := ⟨_, rfl⟩
  obtain ⟨c, ec⟩ : ∃ c, min j k = c := ⟨_, rfl⟩
  have hca : c < a := by omega
  have han : a < nF f := by omega
  have hta : t.toInt ≤ (oF f a 4).toInt := by
    rcases (show a = j ∨ a = k by omega) with e | e <;> rw [e] <;> omega
  have htc : t.toInt ≤ (oF f c 4).toInt := by
    rcases (show c = j ∨ c = k by omega) with e | e <;> rw [e] <;> omega
  obtain ⟨y1, y2, y3, y4, y5⟩ := ta_zq hKg (j := a) (by rw [okg.2]; exact han) (t := t) (by omega) (by rw [eo a 4 (by omega)]; exact hta)
  have r1ok := okF_ta okg.1 (q := a) (by rw [okg.2]; exact han) t
  rw [okg.2] at y1 y2 y3 y4 y5 r1ok
  rw [eo a 4 (by omega)] at y3
  obtain ⟨g2, e2⟩ : ∃ g2, taF g (nF f) a t = g2 := ⟨_, rfl⟩
  have rl2 : ∀ S, Rl S g → Rl (rdS S (nO S) a t) g2 := fun S hS => by
    have r := hS.ta okg.1 (j := a) (by rw [okg.2]; exact han) t
    rw [okg.2, e2] at r
    exact r
  rw [e2] at y1 y2 y3 y4 y5 r1ok
  have hc2 : c < nF g2 := by omega
  have oc : ∀ i, i < 6 → oF g2 c i = oF f c i := fun i hi => by rw [y5 c i hca hi, eo c i hi]
  obtain ⟨z1, z2, z3, z4, -⟩ := ta_zq y2 (j := c) hc2 (t := t) (by omega) (by rw [oc 4 (by omega)]; exact htc)
  rw [oc 4 (by omega)] at z3
  have eS : clS f x p j k = taF g2 (nF g2) c t := by
    unfold clS clA
    rw [et, eg, ea, ec, e2]
  obtain ⟨g3, e3⟩ : ∃ g3, taF g2 (nF g2) c t = g3 := ⟨_, rfl⟩
  have rl3 : ∀ S, Rl S g2 → Rl (rdS S (nO S) c t) g3 := fun S hS => by
    have r := hS.ta r1ok.1 (j := c) hc2 t
    rw [e3] at r
    exact r
  rw [e3] at z1 z2 z3 z4 eS
  rw [eS, et]
  have zkc : ∀ w, zk w g2 c = zk w f c := fun w => by
    unfold zk wF byF
    rw [oc 1 (by omega), oc 2 (by omega), oc 3 (by omega)]
  have zz : ∀ w, zq w g3 = zq w f - (zk w f j * t.toInt + zk w f k * t.toInt) := fun w => by
    rw [z4, y4, ezq, ezk, zkc]
    rcases (show (a = j ∧ c = k) ∨ (a = k ∧ c = j) by omega) with ⟨q1, q2⟩ | ⟨q1, q2⟩ <;> rw [q1, q2] <;> omega
  have lo3 : ∀ i, i < 21 → i ≠ 1 → g3 i = g i := fun i hi h1 => by rw [z1 i hi h1, y1 i hi h1]
  have hn := py_n (f := f) (bu := wF f j) (se := wF f k) (pr := p) (q := t) (by omega) (by omega)
  rw [eg] at hn
  have et3 : tF g3 = tF f := by unfold tF; rw [lo3 0 (by omega) (by omega), elo 0 (by omega)]
  have es : ∀ i n, i < 6 → n < 2 → sF g3 i n = sF g i n := fun i n hi hn => lo3 _ (by omega) (by omega)
  have zkM : ∀ i, zk (wM i) f j * t.toInt = (if wF f j = i then (oF f j 3).toInt * t.toInt else 0) ∧ zk (wM i) f k * t.toInt = 0 := fun i => by
    unfold zk wM
    rw [hbj, hbk]
    refine ⟨?_, by rw [if_neg (fun a => absurd a.1 (by decide)), Int.zero_mul]⟩
    by_cases d : wF f j = i
    · rw [if_pos ⟨rfl, d⟩, if_pos d]
    · rw [if_neg (fun a => d a.2), if_neg d, Int.zero_mul]
  have zkD : ∀ i, zk (wD i) f j * t.toInt = 0 ∧ zk (wD i) f k * t.toInt = (if wF f k = i then t.toInt else 0) := fun i => by
    unfold zk wD
    rw [hbj, hbk]
    refine ⟨by rw [if_neg (fun a => absurd a.1 (by decide)), Int.zero_mul], ?_⟩
    by_cases d : wF f k = i
    · rw [if_pos ⟨rfl, d⟩, if_pos d, Int.one_mul]
    · rw [if_neg (fun a => d a.2), if_neg d, Int.zero_mul]
  have zP : zq (wP p.toInt) g3 = zq (wP p.toInt) f - t.toInt := by rw [zz, zk_P hbj, zk_P0 hbk, if_pos hpj]; omega
  have zS : zq (wS p.toInt) g3 = zq (wS p.toInt) f - t.toInt := by rw [zz, zk_S0 hbj, zk_S hbk, if_pos hpk]; omega
  have zQ : zq wQ g3 = zq wQ f - (1 * t.toInt + 1 * t.toInt) := zz wQ
  refine ⟨?_, hxt, by omega, by omega, by omega, ?_, fun S hS => ?_, by rw [lo3 4 (by omega) (by omega), elo 4 (by omega)], by rw [lo3 2 (by omega) (by omega), elo 2 (by omega)]⟩
  · refine h.step (bu := wF f j) (se := wF f k) (V := p * t) (t := t) wj.2 wk.2 z2 (by rw [lo3 4 (by omega) (by omega), elo 4 (by omega)]) (by rw [lo3 2 (by omega) (by omega), elo 2 (by omega)]) et3 (fun i hi => ?_) (fun i hi => ?_) (by rw [lo3 6 (by omega) (by omega), hn.2.1]) (by rw [lo3 7 (by omega) (by omega), hn.2.2.1]) (by rw [lo3 8 (by omega) (by omega), hn.2.2.2]) (by rw [lo3 5 (by omega) (by omega), hn.1]; omega) (by omega) ⟨V0, V1⟩ (by omega) (by omega) (fun i hi => ⟨Int.le_refl 0, Int.le_refl 0⟩) (fun i hi => ?_) (fun i hi => ?_)
    · rw [es i 0 (by omega) (by omega), ← eg, py_s0 (by omega) (by omega) (by omega)]
    · rw [es i 1 (by omega) (by omega), ← eg, py_s1 (by omega) (by omega) (by omega)]
    · rw [zz, (zkM i).1, (zkM i).2]
      by_cases d : i = wF f j
      · rw [if_pos d, if_pos d.symm]; omega
      · rw [if_neg d, if_neg (fun e => d e.symm)]; omega
    · rw [zz, (zkD i).1, (zkD i).2]
      by_cases d : i = wF f k
      · rw [if_pos d, if_pos d.symm]; omega
      · rw [if_neg d, if_neg (fun e => d e.symm)]; omega
  · by_cases d : t.toInt = x.toInt
    · left; omega
    · right
      have : t.toInt = (oF f a 4).toInt ∨ t.toInt = (oF f c 4).toInt := by
        rcases (show (a = j ∧ c = k) ∨ (a = k ∧ c = j) by omega) with ⟨q1, q2⟩ | ⟨q1, q2⟩ <;> rw [q1, q2] <;> omega
      have n2 : nF g2 ≤ nF f := r1ok.2.1
      rcases this with e | e
      · rw [if_pos e] at y3
        split at z3 <;> omega
      · rw [if_pos e] at z3
        omega
  · have q4j := hS.qua hjn
    have q4k := hS.qua hkn
    have q1j := hS.sta hjn
    have q1k := hS.sta hkn
    have eT : tpT S x j k = t := by
      apply i_ext
      unfold tpT
      rw [mmin_i, mmin_i, q4j, q4k, ti]
      omega
    refine ⟨?_, eT⟩
    have r1 := hS.py hK.1 wj.2 wk.2 h8
    rw [eg] at r1
    have r2 := rl2 _ r1
    have r3 := rl3 _ r2
    have n1 : nO (trS S (nI (wF f j)) (nI (wF f k)) p t) = nO S := by rw [r1.n, okg.2, hS.n]
    rw [n1] at r3
    have e : tpS p S x j k = rdS (rdS (trS S (nI (wF f j)) (nI (wF f k)) p t) (nO S) a t) (nO (rdS (trS S (nI (wF f j)) (nI (wF f k)) p t) (nO S) a t)) c t := by
      unfold tpS
      rw [eT, q1j, q1k, wj.1, wk.1, ea, ec]
    rw [e]
    exact r3
theorem clR_0 {price x : Int32} {f : Nat → Int32} (h : x ≤ 0) : ∀ v, clR price v f x = some f
  | 0 => by unfold clR; rw [if_pos h]
  | v + 1 => by unfold clR; rw [if_pos h]
theorem cl_run {B : Int} {p : Int32} (hp : 1 ≤ p.toInt ∧ p.toInt ≤ 99) : ∀ {w v : Nat} {f : Nat → Int32} {S : SV} {x : Int32}, nF f ≤ w → nF f ≤ v → Rl S f → 0 ≤ x.toInt → Iv B f (fun _ => 0) (fun _ => 0) 0 → x.toInt ≤ zq (wP p.toInt) f → x.toInt ≤ zq (wS p.toInt) f →
    ∃ g, clR p v f x = some g ∧ Iv B g (fun _ => 0) (fun _ => 0) 0 ∧ Rl (tpR p w S x).1 g ∧ g 4 = f 4 ∧ g 2 = f 2
  | w, v, f, S, x, hw, hv, hS, hx, h, hxP, hxS => by
    by_cases c : x ≤ 0
    · rw [tpR_x c, clR_0 c]; exact ⟨f, rfl, h, hS, rfl, rfl⟩
    · have c' : 1 ≤ x.toInt := by rw [i_le, i_0] at c; omega
      obtain ⟨j, hj, hpj⟩ := buy_at h.1 (x := p.toInt) (by omega)
      obtain ⟨k, hk, hpk⟩ := sell_at h.1 (x := p.toInt) (by omega)
      have hjn := mb_lt hj
      have bj := hS.best h.1 true (n := nF f) (Nat.le_refl _)
      have bk := hS.best h.1 false (n := nF f) (Nat.le_refl _)
      rw [← hS.n] at bj bk
      rw [hS.n, hj] at bj
      rw [hS.n, hk] at bk
      obtain ⟨s1, s2, s3, s4, s5, s6, s7, s8, s9⟩ := cl_step hp c' h hxP hxS hj hk hpj hpk
      have s7 := s7 S hS
      obtain ⟨w, rfl⟩ : ∃ w', w = w' + 1 := ⟨w - 1, by omega⟩
      obtain ⟨v, rfl⟩ : ∃ v', v = v' + 1 := ⟨v - 1, by omega⟩
      have e1 : tpR p (w + 1) S x = tpR p w (tpS p S x j k) (x - tpT S x j k) := by
        rw [← hS.n] at bj bk
        show (if x ≤ 0 then (S, x) else match best S true (nO S), best S false (nO S) with
          | some i, some j => tpR p w (tpS p S x i j) (x - tpT S x i j)
          | _, _ => (S, x)) = _
        rw [if_neg c, bj, bk]
      have e2 : clR p (v + 1) f x = clR p v (clS f x p j k) (x - clT f x j k) := by
        show (if x ≤ 0 then some f else match mbF f true (nF f), mbF f false (nF f) with
          | some j, some k => clR p v (clS f x p j k) (x - clT f x j k)
          | _, _ => none) = _
        rw [if_neg c, hj, hk]
      rw [e1, e2, s7.2]
      rcases s6 with e | e
      · have z : x - clT f x j k ≤ 0 := by rw [i_le, i_0]; omega
        rw [tpR_x z, clR_0 z]
        exact ⟨_, rfl, s1, s7.1, s8, s9⟩
      · obtain ⟨g, g1, g2, g3, g4, g5⟩ := cl_run hp (w := w) (v := v) (x := x - clT f x j k) (S := tpS p S x j k) (by omega) (by omega) s7.1 s3 s1 s4 s5
        exact ⟨g, g1, g2, g3, g4.trans s8, g5.trans s9⟩
  termination_by w => w
theorem Iv.clear {B : Int} {f : Nat → Int32} (h : Iv B f (fun _ => 0) (fun _ => 0) 0) : Iv B (upd (upd f 1 0) 4 0) (fun _ => 0) (fun _ => 0) 0 := by
  obtain ⟨a1, a2, a3, a4, ⟨⟨a5, a6⟩, a7, a8, a9, a10⟩, a11, a12⟩ := h
  have e : ∀ k, k ≠ 1 → k ≠ 4 → upd (upd f 1 0) 4 0 k = f k := fun k h1 h4 => by rw [pk_un h4, pk_un h1]
  have e1 : upd (upd f 1 0) 4 0 1 = 0 := by rw [pk_un (by omega), pk_us]
  have en : nF (upd (upd f 1 0) 4 0) = 0 := by unfold nF; rw [e1]; rfl
  have et : tF (upd (upd f 1 0) 4 0) = tF f := by unfold tF; rw [e 0 (by omega) (by omega)]
  have ez : ∀ w, zq w (upd (upd f 1 0) 4 0) = 0 := fun w => by unfold zq; rw [en]; rfl
  have es : ∀ k i, sF (upd (upd f 1 0) 4 0) k i = sF f k i := fun k i => e _ (by omega) (by omega)
  have nQ := zq_nn wQ_nn a1
  refine ⟨⟨⟨by rw [en, e1]; rfl, by omega, by rw [et, e 0 (by omega) (by omega)]; exact a1.1.2.2.1, by rw [et]; exact a1.1.2.2.2.1, fun k hk => by omega⟩, fun k hk => by omega, fun i k _ hk => by omega⟩, Or.inl (by rw [pk_us]), fun k hk => ?_, ?_, ⟨⟨by rw [e 8 (by omega) (by omega), e 7 (by omega) (by omega), e 6 (by omega) (by omega), e 5 (by omega) (by omega)]; exact a5, by rw [e 8 (by omega) (by omega), e 2 (by omega) (by omega), ez]; omega⟩, by rw [e 6 (by omega) (by omega)]; exact a7, by rw [e 6 (by omega) (by omega), e 7 (by omega) (by omega)]; exact a8, by rw [e 6 (by omega) (by omega), e 7 (by omega) (by omega)]; exact a9, by rw [e 7 (by omega) (by omega), e 2 (by omega) (by omega), ez]; omega⟩, a11, by rw [e 2 (by omega) (by omega)]; exact a12⟩
  · rw [et] at hk
    have h3 := a3 k hk
    have n1 := zq_nn (wM_nn k) a1
    have n2 := zq_nn (wD_nn k) a1
    rw [ez, ez, es, es]
    dsimp only at h3 ⊢
    omega
  · rw [et]
    have s0 : (fun k => (sF (upd (upd f 1 0) 4 0) k 0).toInt) = fun k => (sF f k 0).toInt := funext fun k => by rw [es]
    have s1 : (fun k => (sF (upd (upd f 1 0) 4 0) k 1).toInt) = fun k => (sF f k 1).toInt := funext fun k => by rw [es]
    rw [s0, s1]
    exact a4
theorem Rl.clear {S : SV} {f : Nat → Int32} (h : Rl S f) : Rl (sI (sI S 1 0) 2 0) (upd (upd f 1 0) 4 0) := by
  have e : ∀ k, k ≠ 1 → k ≠ 4 → upd (upd f 1 0) 4 0 k = f k := fun k h1 h4 => by rw [pk_un h4, pk_un h1]
  have e1 : upd (upd f 1 0) 4 0 1 = 0 := by rw [pk_un (by omega), pk_us]
  have en : nF (upd (upd f 1 0) 4 0) = 0 := by unfold nF; rw [e1]; rfl
  have et : tF (upd (upd f 1 0) 4 0) = tF f := by unfold tF; rw [e 0 (by omega) (by omega)]
  refine ⟨⟨?_, ?_, ?_, ?_, ?_, ?_, ?_, ?_⟩, ?_, fun i hi => ?_, fun k hk => by omega⟩
  · rw [e _ (by omega) (by omega)]; exact h.1.1
  · rw [e1]; rfl
  · rw [pk_us]; rfl
  · rw [e _ (by omega) (by omega)]; exact h.1.2.2.2.1
  · rw [e _ (by omega) (by omega)]; exact h.1.2.2.2.2.1
  · rw [e _ (by omega) (by omega)]; exact h.1.2.2.2.2.2.1
  · rw [e _ (by omega) (by omega)]; exact h.1.2.2.2.2.2.2.1
  · rw [e _ (by omega) (by omega)]; exact h.1.2.2.2.2.2.2.2
  · rw [e _ (by omega) (by omega)]; exact h.2.1
  · rw [et]
    have s0 : ∀ j, sF (upd (upd f 1 0) 4 0) i j = sF f i j := fun j => e _ (by omega) (by omega)
    rw [s0, s0]
    exact h.2.2.1 i hi
theorem Iv.opn {B : Int} {f : Nat → Int32} (h : Iv B f (fun _ => 0) (fun _ => 0) 0) : Iv B (upd f 4 1) (fun _ => 0) (fun _ => 0) 0 := by
  obtain ⟨a1, a2, a3, a4, ⟨⟨a5, a6⟩, a7, a8, a9, a10⟩, a11, a12⟩ := h
  have e : ∀ k, k ≠ 4 → upd f 4 1 k = f k := fun k h4 => pk_un h4
  have en : nF (upd f 4 1) = nF f := by unfold nF; rw [e 1 (by omega)]
  have et : tF (upd f 4 1) = tF f := by unfold tF; rw [e 0 (by omega)]
  have eo : ∀ k i, oF (upd f 4 1) k i = oF f k i := fun k i => e _ (by omega)
  have es : ∀ k i, sF (upd f 4 1) k i = sF f k i := fun k i => e _ (by omega)
  have ez : ∀ w, zq w (upd f 4 1) = zq w f := fun w => by
    unfold zq
    rw [en]
    refine zs_congr fun k _ => ?_
    unfold zw zk wF byF
    rw [eo, eo, eo, eo]
  refine ⟨⟨(okF_of a1.1 (e 0 (by omega)) (e 1 (by omega)) (fun p _ => eo p 1)).1, fun k hk => ?_, fun i k hik hk => ?_⟩, Or.inr (by rw [pk_us]), fun k hk => ?_, ?_, ⟨⟨by rw [e 8 (by omega), e 7 (by omega), e 6 (by omega), e 5 (by omega)]; exact a5, by rw [e 8 (by omega), e 2 (by omega), ez]; exact a6⟩, by rw [e 6 (by omega)]; exact a7, by rw [e 6 (by omega), e 7 (by omega)]; exact a8, by rw [e 6 (by omega), e 7 (by omega)]; exact a9, by rw [e 7 (by omega), e 2 (by omega), ez]; exact a10⟩, a11, by rw [e 2 (by omega)]; exact a12⟩
  · rw [en] at hk
    unfold bO
    rw [eo, eo, eo, eo, eo, e 2 (by omega)]
    exact a1.2.1 k hk
  · rw [en] at hk
    rw [eo, eo]
    exact a1.2.2 i k hik hk
  · rw [et] at hk
    rw [ez, ez, es, es]
    exact a3 k hk
  · rw [et]
    have s0 : (fun k => (sF (upd f 4 1) k 0).toInt) = fun k => (sF f k 0).toInt := funext fun k => by rw [es]
    have s1 : (fun k => (sF (upd f 4 1) k 1).toInt) = fun k => (sF f k 1).toInt := funext fun k => by rw [es]
    rw [s0, s1]
    exact a4
theorem Rl.opn {S : SV} {f : Nat → Int32} (h : Rl S f) : Rl (sI S 2 1) (upd f 4 1) := by
  have e : ∀ k, k ≠ 4 → upd f 4 1 k = f k := fun k h4 => pk_un h4
  have en : nF (upd f 4 1) = nF f := by unfold nF; rw [e 1 (by omega)]
  have et : tF (upd f 4 1) = tF f := by unfold tF; rw [e 0 (by omega)]
  refine ⟨⟨?_, ?_, ?_, ?_, ?_, ?_, ?_, ?_⟩, ?_, fun i hi => ?_, fun k hk j hj => ?_⟩
  · rw [e _ (by omega)]; exact h.1.1
  · rw [e _ (by omega)]; exact h.1.2.1
  · rw [pk_us]; rfl
  · rw [e _ (by omega)]; exact h.1.2.2.2.1
  · rw [e _ (by omega)]; exact h.1.2.2.2.2.1
  · rw [e _ (by omega)]; exact h.1.2.2.2.2.2.1
  · rw [e _ (by omega)]; exact h.1.2.2.2.2.2.2.1
  · rw [e _ (by omega)]; exact h.1.2.2.2.2.2.2.2
  · rw [e _ (by omega)]; exact h.2.1
  · rw [et]
    have s0 : ∀ j, sF (upd f 4 1) i j = sF f i j := fun j => e _ (by omega)
    rw [s0, s0]
    exact h.2.2.1 i hi
  · rw [en] at hk
    have o0 : oF (upd f 4 1) k j = oF f k j := e _ (by omega)
    rw [o0]
    exact h.2.2.2 k hk j hj
theorem Iv.add {B : Int} {f : Nat → Int32} (h : Iv B f (fun _ => 0) (fun _ => 0) 0) (ht : tF f < 6) {x y : Int32} (hx : 0 ≤ x.toInt ∧ x.toInt ≤ 9999) (hy : 0 ≤ y.toInt ∧ y.toInt ≤ 999) :
    Iv B (upd (upd (upd f (9 + 2 * tF f) x) (9 + 2 * tF f + 1) y) 0 (nI (tF f + 1))) (fun _ => 0) (fun _ => 0) 0 := by
  obtain ⟨a1, a2, a3, a4, ⟨⟨a5, a6⟩, a7, a8, a9, a10⟩, a11, a12⟩ := h
  obtain ⟨g, eg⟩ : ∃ g, upd (upd (upd f (9 + 2 * tF f) x) (9 + 2 * tF f + 1) y) 0 (nI (tF f + 1)) = g := ⟨_, rfl⟩
  rw [eg]
  have e : ∀ k, k ≠ 0 → k ≠ 9 + 2 * tF f → k ≠ 9 + 2 * tF f + 1 → g k = f k := fun k h0 h1 h2 => by rw [← eg, pk_un h0, pk_un h2, pk_un h1]
  have e0 : g 0 = nI (tF f + 1) := by rw [← eg, pk_us]
  have lo : ∀ k, 1 ≤ k → k < 9 → g k = f k := fun k h1 h2 => e k (by omega) (by omega) (by omega)
  have en : nF g = nF f := by unfold nF; rw [lo 1 (by omega) (by omega)]
  have et : tF g = tF f + 1 := by unfold tF at *; rw [e0, nI_clamp (by omega)]
  have eo : ∀ k i, oF g k i = oF f k i := fun k i => e _ (by omega) (by omega) (by omega)
  have es : ∀ k i, k < tF f → i < 2 → sF g k i = sF f k i := fun k i hk hi => e _ (by omega) (by omega) (by omega)
  have s0 : sF g (tF f) 0 = x := by unfold sF; rw [← eg, pk_un (by omega), pk_un (by omega), Nat.add_zero, pk_us]
  have s1 : sF g (tF f) 1 = y := by unfold sF; rw [← eg, pk_un (by omega), pk_us]
  have ezk : ∀ w k, zw w g k = zw w f k := fun w k => by
    unfold zw zk wF byF
    rw [eo, eo, eo, eo]
  have ez : ∀ w, zq w g = zq w f := fun w => by
    unfold zq
    rw [en]
    exact zs_congr fun k _ => ezk w k
  refine ⟨⟨⟨by rw [en, lo 1 (by omega) (by omega)]; exact a1.1.1, by rw [en]; exact a1.1.2.1, by rw [et, e0], by omega, fun k hk => ?_⟩, fun k hk => ?_, fun i k hik hk => ?_⟩, by rw [lo 4 (by omega) (by omega)]; exact a2, fun k hk => ?_, ?_, ⟨⟨by rw [lo 8 (by omega) (by omega), lo 7 (by omega) (by omega), lo 6 (by omega) (by omega), lo 5 (by omega) (by omega)]; exact a5, by rw [lo 8 (by omega) (by omega), lo 2 (by omega) (by omega), ez]; exact a6⟩, by rw [lo 6 (by omega) (by omega)]; exact a7, by rw [lo 6 (by omega) (by omega), lo 7 (by omega) (by omega)]; exact a8, by rw [lo 6 (by omega) (by omega), lo 7 (by omega) (by omega)]; exact a9, by rw [lo 7 (by omega) (by omega), lo 2 (by omega) (by omega), ez]; exact a10⟩, a11, by rw [lo 2 (by omega) (by omega)]; exact a12⟩
  · rw [en] at hk
    have := a1.1.2.2.2.2 k hk
    unfold wF at this ⊢
    rw [eo]
    exact ⟨this.1, by omega⟩
  · rw [en] at hk
    unfold bO
    rw [eo, eo, eo, eo, eo, lo 2 (by omega) (by omega)]
    exact a1.2.1 k hk
  · rw [en] at hk
    rw [eo, eo]
    exact a1.2.2 i k hik hk
  · rw [et] at hk
    rw [ez, ez]
    by_cases c : k = tF f
    · rw [c, s0, s1]
      have z0 : zq (wM (tF f)) f = 0 := zs_0 fun i hi => by
        have := a1.1.2.2.2.2 i hi
        unfold zw zk wM
        rw [if_neg (fun a => by omega), Int.zero_mul]
      have z1 : zq (wD (tF f)) f = 0 := zs_0 fun i hi => by
        have := a1.1.2.2.2.2 i hi
        unfold zw zk wD
        rw [if_neg (fun a => by omega), Int.zero_mul]
      rw [z0, z1]
      dsimp only
      omega
    · rw [es k 0 (by omega) (by omega), es k 1 (by omega) (by omega)]
      exact a3 k (by omega)
  · rw [et]
    show zs _ (tF f) + (sF g (tF f) 0).toInt ≤ _ ∧ zs _ (tF f) + (sF g (tF f) 1).toInt ≤ _
    rw [s0, s1, zs_congr (g := fun k => (sF g k 0).toInt) (h := fun k => (sF f k 0).toInt) (fun k hk => by rw [es k 0 hk (by omega)]), zs_congr (g := fun k => (sF g k 1).toInt) (h := fun k => (sF f k 1).toInt) (fun k hk => by rw [es k 1 hk (by omega)])]
    have : ((tF f + 1 : Nat) : Int) = (tF f : Int) + 1 := rfl
    omega
theorem pool_rl {S : SV} {f : Nat → Int32} (h : Rl S f) (hb : bK f) : poolS S (nO S) = poR f (nF f) 99 := by
  have := (pc_po hb (d := fun q => dmd S q (nO S)) (s := fun q => sup S q (nO S)) (fun x => h.dmd hb x) (fun x => h.sup hb x) 99 (Nat.le_refl _)).1
  unfold poolS
  exact this
/-- the pool's price -/
theorem clP_of {f : Nat → Int32} (hb : bK f) : (clP f = -1 ∧ clV f = 0 ∧ (poR f (nF f) 99).2.1 = 0) ∨ ∃ p : Nat, 1 ≤ p ∧ p ≤ 99 ∧ clP f = nI p ∧ clV f = voF f (nF f) (nI p) ∧ (poR f (nF f) 99).2.1 = voF f (nF f) (nI p) ∧ 1 ≤ (clV f).toInt := by
  have h := (pc_po hb (d := fun x => smF f true x 99 (nF f)) (s := fun x => smF f false 1 x (nF f)) (fun _ => rfl) (fun _ => rfl) 99 (Nat.le_refl _)).2
  rw [clP_e] at h
  rcases h with ⟨a1, a2, -⟩ | ⟨p, a1, a2, a3, a4, a5⟩
  · refine Or.inl ⟨a1, ?_, a2⟩
    unfold clV
    rw [a1]
    rfl
  · refine Or.inr ⟨p, a1, a2, a3, ?_, a4, ?_⟩
    · unfold clV
      rw [a3, if_neg (nI_pos (by omega))]
    · unfold clV
      rw [a3, if_neg (nI_pos (by omega)), ← a4]
      exact a5
theorem close_ok {B : Int} {f : Nat → Int32} {S : SV} (hS : Rl S f) (h : Iv B f (fun _ => 0) (fun _ => 0) 0) : ∃ g, clG f = some g ∧ (poolS S (nO S)).2.1 = clV f ∧ Iv B (upd (upd g 1 0) 4 0) (fun _ => 0) (fun _ => 0) 0 ∧ Rl (epS S) (upd (upd g 1 0) 4 0) := by
  have hb := h.1
  have h20 := hb.1.2.1
  have ep := pool_rl hS hb
  have e1 : (poolS S (nO S)).1 = clP f := by rw [ep, clP_e]
  have key : (poolS S (nO S)).2.1 = clV f ∧ ∃ g, clG f = some g ∧ Iv B g (fun _ => 0) (fun _ => 0) 0 ∧ Rl (tpR (clP f) 20 S (clV f)).1 g := by
    rw [ep]
    rcases clP_of hb with ⟨a1, a2, a3⟩ | ⟨p, a1, a2, a3, a4, a5, a6⟩
    · refine ⟨by rw [a3, a2], f, ?_, h, ?_⟩
      · unfold clG
        rw [a2]
        exact clR_0 (by decide) 41
      · rw [a2, tpR_x (by decide)]
        exact hS
    · refine ⟨by rw [a5, a4], ?_⟩
      have hp : (nI p).toInt = p := i_nI (by omega)
      have hv : (clV f).toInt = min (zq (wP p) f) (zq (wS p) f) := by
        rw [a4]
        unfold voF
        rw [mmin_i, smP hb, smS hb, hp]
      have n1 := zq_nn (wP_nn p) hb
      have n2 := zq_nn (wS_nn p) hb
      obtain ⟨g, g1, g2, g3, -, -⟩ := cl_run (p := nI p) (w := 20) (v := 41) (x := clV f) (by omega) h20 (by omega) hS (by omega) h (by rw [hp]; omega) (by rw [hp]; omega)
      refine ⟨g, ?_, g2, ?_⟩
      · unfold clG
        rw [a3]
        exact g1
      · rw [a3]
        exact g3
  obtain ⟨k1, g, k2, k3, k4⟩ := key
  refine ⟨g, k2, k1, k3.clear, ?_⟩
  unfold epS
  rw [e1, k1]
  exact k4.clear
/-- an order cancelled -/
theorem Rl.find {B : Int} {S : SV} {f : Nat → Int32} (hS : Rl S f) (h : Iv B f (fun _ => 0) (fun _ => 0) 0) (x : Int32) : slotF S x (nO S) = plF f x (nF f) :=
  hS.slot (fun i j hi hj e => Decidable.byContradiction fun c => by
    rcases (show i < j ∨ j < i by omega) with l | l
    · have := h.1.2.2 i j l hj; rw [e] at this; omega
    · have := h.1.2.2 j i l hi; rw [e] at this; omega) x
