/-! Trades: the class's as the model's -/
theorem i64_add {x y : Int32} (h : (x + y).toInt = x.toInt + y.toInt) : x.toInt64 + y.toInt64 = (x + y).toInt64 := by
  apply Int64.toInt_inj.mp
  have a := i_rng x
  have b := i_rng y
  rw [Int64.toInt_add, Int32.toInt_toInt64, Int32.toInt_toInt64, Int32.toInt_toInt64, h]
  have c := i_rng (x + y)
  rw [h] at c
  generalize x.toInt + y.toInt = z at c
  exact Int.bmod_eq_of_le (by omega) (by omega)
theorem sR_u (S : SV) (k : Nat) (f : Nat → Int32) (j : Nat) : (sR S k f).2.1 j = if j = k then f else S.2.1 j := rfl
theorem sI_u (S : SV) (k : Nat) (x : Int32) (j : Nat) : (sI S k x).2.1 j = S.2.1 j := rfl
theorem sP_u (S : SV) (x : Int64) (j : Nat) : (sP S x).2.1 j = S.2.1 j := rfl
theorem trS_0 (S : SV) (bu se pr q : Int32) : (trS S bu se pr q).2.1 0 = radd 6 (radd 6 (S.2.1 0) bu (-(pr * q))) se (pr * q) := by
  unfold trS
  rw [sP_u, sI_u, sI_u, sI_u, sR_u, if_neg (by decide), sR_u, if_pos rfl]
theorem trS_1 (S : SV) (bu se pr q : Int32) : (trS S bu se pr q).2.1 1 = radd 6 (radd 6 (S.2.1 1) se (-q)) bu q := by
  unfold trS
  rw [sP_u, sI_u, sI_u, sI_u, sR_u, if_pos rfl]
theorem trS_k (S : SV) (bu se pr q : Int32) {k : Nat} (hk : 2 ≤ k) : (trS S bu se pr q).2.1 k = S.2.1 k := by
  unfold trS
  rw [sP_u, sI_u, sI_u, sI_u, sR_u, if_neg (by omega), sR_u, if_neg (by omega)]
theorem Rl.py {S : SV} {f : Nat → Int32} (h : Rl S f) (hf : okF f) {bu se : Nat} (hb : bu < tF f) (hs : se < tF f) {pr q : Int32} (h8 : (f 8 + pr * q).toInt = (f 8).toInt + (pr * q).toInt) : Rl (trS S (nI bu) (nI se) pr q) (pyF f bu se pr q) := by
  have h6 := hf.2.2.2.1
  have hn := py_n (f := f) (bu := bu) (se := se) (pr := pr) (q := q) (by omega) (by omega)
  have e0 : tF (pyF f bu se pr q) = tF f := by unfold tF; rw [py_lo (by omega)]
  have e1 : nF (pyF f bu se pr q) = nF f := by unfold nF; rw [py_lo (by omega)]
  refine ⟨⟨?_, ?_, ?_, ?_, ?_, ?_, ?_, ?_⟩, ?_, fun i hi => ?_, fun k hk i hi => ?_⟩
  · rw [py_lo (by omega)]; exact h.1.1
  · rw [py_lo (by omega)]; exact h.1.2.1
  · rw [py_lo (by omega)]; exact h.1.2.2.1
  · rw [py_lo (by omega)]; exact h.1.2.2.2.1
  · rw [py_lo (by omega)]; exact h.1.2.2.2.2.1
  · rw [hn.1]; rfl
  · rw [hn.2.1]; show S.1 6 + 1 = _; rw [h.1.2.2.2.2.2.2.1]
  · rw [hn.2.2.1]; show S.1 7 + q = _; rw [h.1.2.2.2.2.2.2.2]
  · rw [hn.2.2.2]
    show S.2.2 + (pr * q).toInt64 = _
    rw [h.2.1]
    exact i64_add h8
  · rw [e0]
    have hr := h.2.2.1 i hi
    rw [trS_0, trS_1]
    rw [radd_nI (by omega) (by decide), radd_nI (by omega) (by decide), radd_nI (by omega) (by decide), radd_nI (by omega) (by decide)]
    have key : ∀ (g : Nat → Int32) (a b : Nat) (x y : Int32), upd (upd g a x) b y i = if i = b then y else if i = a then x else g i := fun g a b x y => by
      by_cases c : i = b
      · rw [if_pos c, c, pk_us]
      · rw [if_neg c, pk_un c]
        by_cases d : i = a
        · rw [if_pos d, d, pk_us]
        · rw [if_neg d, pk_un d]
    have k1 : ∀ (g : Nat → Int32) (a : Nat) (x : Int32) (b : Nat), upd g a x b = if b = a then x else g b := fun g a x b => by
      by_cases d : b = a
      · rw [if_pos d, d, pk_us]
      · rw [if_neg d, pk_un d]
    rw [key, key, k1, k1]
    by_cases l : i < tF f
    · rw [if_pos l, if_pos l, py_s0 (by omega) (by omega) hi, py_s1 (by omega) (by omega) hi, ← (h.2.2.1 i hi).1.trans (if_pos l), ← (h.2.2.1 i hi).2.trans (if_pos l)]
      by_cases c1 : i = bu
      · by_cases c2 : i = se
        · rw [← c1, ← c2]
          simp only [if_true, Int32.sub_eq_add_neg]
          refine ⟨by first | rfl | trivial, by rw [Int32.add_assoc, Int32.add_comm (-q), Int32.add_assoc]⟩
        · have c3 : ¬ se = bu := fun e => c2 (by rw [c1, e])
          have c4 : ¬ bu = se := fun e => c3 e.symm
          simp only [c1, c3, c4, if_true, if_false, Int32.sub_eq_add_neg, Int32.add_zero]
          rw [show -(0 : Int32) = 0 by decide, Int32.add_zero]
          refine ⟨?_, ?_⟩ <;> first | rfl | trivial
      · by_cases c2 : i = se
        · have c3 : ¬ se = bu := fun e => c1 (by rw [c2, e])
          have c4 : ¬ bu = se := fun e => c3 e.symm
          simp only [c2, c3, c4, if_true, if_false, Int32.sub_eq_add_neg, Int32.add_zero]
          rw [show -(0 : Int32) = 0 by decide, Int32.add_zero]
          refine ⟨?_, ?_⟩ <;> first | rfl | trivial
        · simp only [c1, c2, if_false, Int32.sub_eq_add_neg, Int32.add_zero]
          rw [show -(0 : Int32) = 0 by decide]
          exact ⟨(Int32.add_zero _).symm, (Int32.add_zero _).symm⟩
    · rw [if_neg l, if_neg l, if_neg (by omega), if_neg (by omega), if_neg (by omega), if_neg (by omega), hr.1, hr.2, if_neg l, if_neg l]
      exact ⟨rfl, rfl⟩
  · rw [e1] at hk
    have g : oF (pyF f bu se pr q) k i = oF f k i := py_hi (by omega) (by omega) (by omega)
    rw [g, ← h.2.2.2 k hk i hi, trS_k _ _ _ _ _ (by omega)]
/-- a quantity taken from an order -/
theorem Rl.ta {S : SV} {f : Nat → Int32} (h : Rl S f) (hf : okF f) {j : Nat} (hj : j < nF f) (t : Int32) : Rl (rdS S (nO S) j t) (taF f (nF f) j t) := by
  have hok := okF_tq hf j t
  have e4 : oF (tqF f j t) j 4 = oF f j 4 - t := by
    unfold oF tqF
    rw [pk_us]
  have e5 : upd (S.2.1 6) j (S.2.1 6 j + -t) j = oF f j 4 - t := by rw [pk_us, h.qua hj, Int32.sub_eq_add_neg]
  have hs : Rl (subQ S j t) (tqF f j t) := by
    have elo : ∀ k, k < 21 → tqF f j t k = f k := fun k hk => by unfold tqF; rw [pk_un (by omega)]
    have et : tF (tqF f j t) = tF f := by unfold tF; rw [elo 0 (by omega)]
    refine ⟨⟨?_, ?_, ?_, ?_, ?_, ?_, ?_, ?_⟩, ?_, fun i hi => ?_, fun k hk i hi => ?_⟩
    · rw [elo _ (by omega)]; exact h.1.1
    · rw [elo _ (by omega)]; exact h.1.2.1
    · rw [elo _ (by omega)]; exact h.1.2.2.1
    · rw [elo _ (by omega)]; exact h.1.2.2.2.1
    · rw [elo _ (by omega)]; exact h.1.2.2.2.2.1
    · rw [elo _ (by omega)]; exact h.1.2.2.2.2.2.1
    · rw [elo _ (by omega)]; exact h.1.2.2.2.2.2.2.1
    · rw [elo _ (by omega)]; exact h.1.2.2.2.2.2.2.2
    · rw [elo _ (by omega)]; exact h.2.1
    · rw [et]
      have s0 : ∀ k, k < 2 → sF (tqF f j t) i k = sF f i k := fun k hk => elo _ (by omega)
      rw [s0 0 (by omega), s0 1 (by omega)]
      exact h.2.2.1 i hi
    · rw [hok.2] at hk
      have hr := h.2.2.2 k hk i hi
      by_cases c : i = 4
      · subst c
        show upd (S.2.1 6) j (S.2.1 6 j + -t) k = _
        by_cases d : k = j
        · rw [d, e5, e4]
        · rw [pk_un d]
          have g : oF (tqF f j t) k 4 = oF f k 4 := by unfold oF tqF; rw [pk_un (by omega)]
          rw [g, ← hr]
      · have g : oF (tqF f j t) k i = oF f k i := by unfold oF tqF; rw [pk_un (by omega)]
        rw [g, ← hr]
        rcases (show i = 0 ∨ i = 1 ∨ i = 2 ∨ i = 3 ∨ i = 5 by omega) with rfl | rfl | rfl | rfl | rfl <;> rfl
  unfold rdS taF
  rw [e4, e5]
  by_cases c : oF f j 4 - t = 0
  · rw [if_pos c, if_pos c]
    have h2 := hs.rm hok.1 (j := j) (by rw [hok.2]; exact hj)
    rw [hok.2] at h2
    exact h2
  · rw [if_neg c, if_neg c]
    exact hs
/-! The order with the highest priority -/
theorem Rl.best {S : SV} {f : Nat → Int32} (h : Rl S f) (hb : bK f) (b : Bool) : ∀ {n : Nat}, n ≤ nF f → best S b n = mbF f b n
  | 0, _ => rfl
  | n + 1, hn => by
    rw [best_s, mb_s, Rl.best h hb b (n := n) (by omega)]
    unfold bstep mbs
    rw [h.buy (show n < nF f by omega)]
    by_cases c : byF f n = b
    · rw [if_pos c, if_pos c]
      cases hm : mbF f b n with
      | none => rfl
      | some j =>
        have hj := mb_lt hm
        have p1 := (hb.2.1 n (by omega)).2.1
        have p2 := (hb.2.1 j (by omega)).2.1
        have e : ahd S b n j = !decide (mdF f b n j ≤ 0) := by
          unfold ahd mdF
          rw [h.pri (show n < nF f by omega), h.pri (show j < nF f by omega)]
          cases b
          · rw [if_neg (by decide), if_neg (by decide)]
            congr 1
            refine decide_eq_decide.mpr ?_
            rw [i_le, i_le, i_sub (by omega) (by omega), i_sub (by omega) (by omega), i_0]
            omega
          · rw [if_pos rfl, if_pos rfl]
        show (if ahd S b n j = true then some n else some j) = (if mdF f b n j ≤ 0 then some j else some n)
        rw [e]
        by_cases d : mdF f b n j ≤ 0
        · rw [if_pos d, if_neg (by simp [d])]
        · rw [if_neg d, if_pos (by simp [d])]
    · rw [if_neg c, if_neg c]
/-- a's price is not ahead of b's price -/
def nah (b : Bool) (x y : Int) : Prop := if b = true then x ≤ y else y ≤ x
theorem mb_max {f : Nat → Int32} (hb : bK f) {b : Bool} : ∀ {n j : Nat}, n ≤ nF f → mbF f b n = some j → ∀ k, k < n → byF f k = b → nah b (oF f k 3).toInt (oF f j 3).toInt
  | 0, _, _, _, _, hk, _ => absurd hk (by omega)
  | n + 1, j, hn, hm, k, hk, hkb => by
    rw [mb_s] at hm
    unfold mbs at hm
    have ih := fun j (hj : mbF f b n = some j) => mb_max hb (n := n) (j := j) (by omega) hj
    have p1 := (hb.2.1 n (by omega)).2.1
    by_cases c : byF f n = b
    · rw [if_pos c] at hm
      cases hm' : mbF f b n with
      | none =>
        rw [hm'] at hm
        injection hm with hm
        by_cases d : k = n
        · rw [d, hm]; unfold nah; split <;> exact Int.le_refl _
        · exfalso
          have : ∀ m, m ≤ n → mbF f b m = none → ∀ k, k < m → byF f k ≠ b := fun m => by
            induction m with
            | zero => intro _ _ k hk; omega
            | succ m ihm =>
              intro h1 h2 k hk e
              rw [mb_s] at h2
              unfold mbs at h2
              by_cases cc : byF f m = b
              · rw [if_pos cc] at h2
                cases hq : mbF f b m with
                | none => rw [hq] at h2; cases h2
                | some i =>
                  rw [hq] at h2
                  dsimp only at h2
                  split at h2 <;> cases h2
              · rw [if_neg cc] at h2
                by_cases ee : k = m
                · rw [ee] at e; exact cc e
                · exact ihm (by omega) h2 k (by omega) e
          exact this n (by omega) hm' k (by omega) hkb
      | some i =>
        have hi := mb_lt hm'
        have p2 := (hb.2.1 i (by omega)).2.1
        rw [hm'] at hm
        have hm : (if mdF f b n i ≤ 0 then some i else some n) = some j := hm
        have key : (mdF f b n i ≤ 0) ↔ nah b (oF f n 3).toInt (oF f i 3).toInt := by
          unfold mdF nah
          cases b
          · rw [if_neg (by decide), if_neg (by decide), i_le, i_sub (by omega) (by omega), i_0]; omega
          · rw [if_pos rfl, if_pos rfl, i_le, i_sub (by omega) (by omega), i_0]; omega
        by_cases d : mdF f b n i ≤ 0
        · rw [if_pos d] at hm
          injection hm with hm
          rw [← hm]
          by_cases e : k = n
          · rw [e]; exact key.mp d
          · exact ih i hm' k (by omega) hkb
        · rw [if_neg d] at hm
          injection hm with hm
          rw [← hm]
          have d' : ¬ nah b (oF f n 3).toInt (oF f i 3).toInt := fun e => d (key.mpr e)
          by_cases e : k = n
          · rw [e]; unfold nah; split <;> exact Int.le_refl _
          · have := ih i hm' k (by omega) hkb
            unfold nah at this d' ⊢
            split at this <;> split at d' <;> first | (split <;> first | omega | contradiction) | contradiction
    · rw [if_neg c] at hm
      by_cases e : k = n
      · rw [e] at hkb; exact absurd hkb c
      · exact ih j hm k (by omega) hkb
theorem mb_none {f : Nat → Int32} {b : Bool} : ∀ {n : Nat}, mbF f b n = none → ∀ k, k < n → byF f k ≠ b
  | 0, _, _, hk, _ => absurd hk (by omega)
  | n + 1, hm, k, hk, hkb => by
    rw [mb_s] at hm
    unfold mbs at hm
    by_cases c : byF f n = b
    · rw [if_pos c] at hm
      cases hq : mbF f b n with
      | none => rw [hq] at hm; cases hm
      | some i =>
        rw [hq] at hm
        dsimp only at hm
        split at hm <;> cases hm
    · rw [if_neg c] at hm
      by_cases e : k = n
      · rw [e] at hkb; exact c hkb
      · exact mb_none hm k (by omega) hkb
/-! One meeting of a new order with the book -/
theorem mmin_i {x y : Int32} : (mmin x y).toInt = min x.toInt y.toInt := by
  unfold mmin
  by_cases h : y < x
  · rw [if_pos h]; rw [i_l] at h; omega
  · rw [if_neg h]; rw [i_l] at h; omega
def pM (b : Bool) (i : Nat) (pr x : Int) (k : Nat) : Int := if b = true ∧ k = i then pr * x else 0
def pD (b : Bool) (i : Nat) (x : Int) (k : Nat) : Int := if b = false ∧ k = i then x else 0
theorem mt_step {B : Int} {b : Bool} {i : Nat} {pr : Int32} {f : Nat → Int32} {x : Int32} {j : Nat} (hi : i < tF f) (hp : 1 ≤ pr.toInt ∧ pr.toInt ≤ 99) (hx : 1 ≤ x.toInt ∧ x.toInt ≤ 50)
    (h : Iv B f (pM b i pr.toInt x.toInt) (pD b i x.toInt) x.toInt) (hj : mbF f (!b) (nF f) = some j) (ht : tnB b pr (oF f j 3) = true) :
    Iv B (mtS b i f x j) (pM b i pr.toInt (x - mtT f x j).toInt) (pD b i (x - mtT f x j).toInt) (x - mtT f x j).toInt ∧
    tF (mtS b i f x j) = tF f ∧ (x - mtT f x j).toInt = x.toInt - (mtT f x j).toInt ∧ (x.toInt - (mtT f x j).toInt = 0 ∨ nF (mtS b i f x j) + 1 = nF f) ∧
    (1 ≤ (mtT f x j).toInt ∧ (mtT f x j).toInt ≤ x.toInt) ∧ (∀ S, Rl S f → Rl (tnS b (nI i) pr S x j) (mtS b i f x j) ∧ x - mmin x (S.2.1 6 j) = x - mtT f x j ∧ S.2.1 5 j = oF f j 3) ∧ mtS b i f x j 4 = f 4 ∧ mtS b i f x j 2 = f 2 := by
  have hK := h.1
  have hjn := mb_lt hj
  have hby := mb_by hj
  obtain ⟨o2, o3, o4, o5, o0⟩ := hK.2.1 j hjn
  have h6 := hK.1.2.2.2.1
  have hw := hK.1.2.2.2.2 j hjn
  have et : (mtT f x j).toInt = min x.toInt (oF f j 4).toInt := mmin_i
  have hxt : (x - mtT f x j).toInt = x.toInt - (mtT f x j).toInt := i_sub (by omega) (by omega)
  have hpt : nah b (oF f j 3).toInt pr.toInt := by
    unfold tnB at ht
    unfold nah
    cases b
    · exact i_le.mp (of_decide_eq_true ht)
    · exact i_le.mp (of_decide_eq_true ht)
  have hmul : (oF f j 3 * mtT f x j).toInt = (oF f j 3).toInt * (mtT f x j).toInt := by
    have a1 : (oF f j 3).toInt * (mtT f x j).toInt ≤ 99 * (mtT f x j).toInt := Int.mul_le_mul_of_nonneg_right (by omega) (by omega)
    have a2 : 0 ≤ (oF f j 3).toInt * (mtT f x j).toInt := Int.mul_nonneg (by omega) (by omega)
    exact i_mul (by omega) (by omega)
  have V1 : (oF f j 3 * mtT f x j).toInt ≤ 99 * (mtT f x j).toInt := by
    rw [hmul]; exact Int.mul_le_mul_of_nonneg_right (by omega) (by omega)
  have V0 : (mtT f x j).toInt ≤ (oF f j 3 * mtT f x j).toInt := by
    rw [hmul]
    have q := Int.mul_le_mul_of_nonneg_right (show (1 : Int) ≤ (oF f j 3).toInt by omega) (show 0 ≤ (mtT f x j).toInt by omega)
    rw [Int.one_mul] at q
    exact q
  have h8 : (f 8 + oF f j 3 * mtT f x j).toInt = (f 8).toInt + (oF f j 3 * mtT f x j).toInt := by
    have a := h.2.2.2.2.1.1
    have a2 := h.2.2.2.2.1.2
    have c := h.2.2.2.2.2
    have d := zq_nn wQ_nn hK
    exact i_add (by omega) (by omega)
  obtain ⟨bu, ebu⟩ : ∃ bu, (if b = true then i else wF f j) = bu := ⟨_, rfl⟩
  obtain ⟨se, ese⟩ : ∃ se, (if b = true then wF f j else i) = se := ⟨_, rfl⟩
  have hbu : bu < tF f := by rw [← ebu]; split <;> omega
  have hse : se < tF f := by rw [← ese]; split <;> omega
  obtain ⟨g, eg⟩ : ∃ g, pyF f bu se (oF f j 3) (mtT f x j) = g := ⟨_, rfl⟩
  have eS : mtS b i f x j = taF g (nF f) j (mtT f x j) := by unfold mtS; rw [ebu, ese, eg]
  have okg := okF_py hK.1 (bu := bu) (se := se) (pr := oF f j 3) (q := mtT f x j) (by omega) (by omega)
  rw [eg] at okg
  have eo : ∀ k n, n < 6 → oF g k n = oF f k n := fun k n hn => by rw [← eg]; exact py_hi (by omega) (by omega) (by omega)
  have elo : ∀ k, k < 5 → g k = f k := fun k hk => by rw [← eg]; exact py_lo hk
  have egt : tF g = tF f := by unfold tF; rw [elo 0 (by omega)]
  have hKg : bK g := ⟨okg.1, fun k hk => by
      unfold bO
      rw [eo k 2 (by omega), eo k 3 (by omega), eo k 4 (by omega), eo k 5 (by omega), eo k 0 (by omega), elo 2 (by omega)]
      exact hK.2.1 k (by rw [← okg.2]; exact hk), fun a c hac hc => by
      rw [eo a 0 (by omega), eo c 0 (by omega)]
      exact hK.2.2 a c hac (by rw [← okg.2]; exact hc)⟩
  have ezk : ∀ w k, zk w g k = zk w f k := fun w k => by
    unfold zk wF byF
    rw [eo k 1 (by omega), eo k 2 (by omega), eo k 3 (by omega)]
  have ezq : ∀ w, zq w g = zq w f := fun w => by
    unfold zq
    rw [okg.2]
    refine zs_congr fun k _ => ?_
    unfold zw
    rw [ezk, eo k 4 (by omega)]
  have tz := ta_zq hKg (j := j) (by rw [okg.2]; exact hjn) (t := mtT f x j) (by omega) (by rw [eo j 4 (by omega)]; omega)
  rw [okg.2, ← eS, eo j 4 (by omega)] at tz
  obtain ⟨z1, z2, z3, z4, -⟩ := tz
  have z4' : ∀ w, zq w (mtS b i f x j) = zq w f - zk w f j * (mtT f x j).toInt := fun w => by rw [z4, ezq, ezk]
  have e0 : tF (mtS b i f x j) = tF f := by unfold tF; rw [z1 0 (by omega) (by omega), elo 0 (by omega)]
  have es : ∀ k n, k < 6 → n < 2 → sF (mtS b i f x j) k n = sF g k n := fun k n hk hn => z1 _ (by omega) (by omega)
  have hn := py_n (f := f) (bu := bu) (se := se) (pr := oF f j 3) (q := mtT f x j) (by omega) (by omega)
  rw [eg] at hn
  have zkM : ∀ k, zk (wM k) f j = if b = false ∧ wF f j = k then (oF f j 3).toInt else 0 := fun k => by
    unfold zk wM
    rw [hby]
    cases b <;> simp
  have zkD : ∀ k, zk (wD k) f j = if b = true ∧ wF f j = k then 1 else 0 := fun k => by
    unfold zk wD
    rw [hby]
    cases b <;> simp
  have hI : Iv B (mtS b i f x j) (pM b i pr.toInt (x - mtT f x j).toInt) (pD b i (x - mtT f x j).toInt) (x - mtT f x j).toInt := by
    refine h.step (bu := bu) (se := se) (V := oF f j 3 * mtT f x j) (t := mtT f x j) hbu hse z2 (by rw [z1 4 (by omega) (by omega), elo 4 (by omega)]) (by rw [z1 2 (by omega) (by omega), elo 2 (by omega)]) e0 (fun k hk => ?_) (fun k hk => ?_) (by rw [z1 6 (by omega) (by omega), hn.2.1]) (by rw [z1 7 (by omega) (by omega), hn.2.2.1]) (by rw [z1 8 (by omega) (by omega), hn.2.2.2]) (by rw [z1 5 (by omega) (by omega), hn.1]; omega) (by omega) ⟨V0, V1⟩ ?_ (by omega) (fun k hk => ?_) (fun k hk => ?_) (fun k hk => ?_)
    · rw [es k 0 (by omega) (by omega), ← eg, py_s0 (by omega) (by omega) (by omega)]
    · rw [es k 1 (by omega) (by omega), ← eg, py_s1 (by omega) (by omega) (by omega)]
    · rw [z4']
      show zq wQ f - 1 * (mtT f x j).toInt + _ + _ ≤ _
      omega
    · unfold pM pD
      have : 0 ≤ pr.toInt * (x - mtT f x j).toInt := Int.mul_nonneg (by omega) (by omega)
      constructor <;> split <;> omega
    · rw [z4', zkM, hmul, hxt, ← ebu]
      unfold pM
      have m1 : pr.toInt * (x.toInt - (mtT f x j).toInt) = pr.toInt * x.toInt - pr.toInt * (mtT f x j).toInt := Int.mul_sub ..
      unfold nah at hpt
      cases b
      · simp only [Bool.false_eq_true, if_false, false_and, true_and, eq_comm (a := wF f j)] at hpt ⊢
        by_cases c : k = wF f j
        · rw [if_pos c]; omega
        · rw [if_neg c]; omega
      · simp only [Bool.true_eq_false, if_true, if_false, false_and, true_and] at hpt ⊢
        have m2 : (oF f j 3).toInt * (mtT f x j).toInt ≤ pr.toInt * (mtT f x j).toInt := Int.mul_le_mul_of_nonneg_right hpt (by omega)
        by_cases c : k = i
        · simp only [if_pos c]; omega
        · simp only [if_neg c]; omega
    · rw [z4', zkD, hxt, ← ese]
      unfold pD
      cases b
      · simp only [Bool.false_eq_true, if_false, false_and, true_and]
        by_cases c : k = i
        · simp only [if_pos c]; omega
        · simp only [if_neg c]; omega
      · simp only [Bool.true_eq_false, if_true, if_false, false_and, true_and, eq_comm (a := wF f j)]
        by_cases c : k = wF f j
        · simp only [if_pos c]; omega
        · simp only [if_neg c]; omega
  refine ⟨hI, e0, hxt, ?_, ⟨by omega, by omega⟩, fun S hS => ?_, by rw [z1 4 (by omega) (by omega), elo 4 (by omega)], by rw [z1 2 (by omega) (by omega), elo 2 (by omega)]⟩
  · by_cases c : (mtT f x j).toInt = (oF f j 4).toInt
    · rw [if_pos c] at z3; right; omega
    · left; omega
  · have q4 := hS.qua hjn
    have q3 := hS.pri hjn
    have q1 := hS.sta hjn
    refine ⟨?_, by rw [q4]; rfl, q3⟩
    have e1 : tnS b (nI i) pr S x j = rdS (trS S (nI bu) (nI se) (oF f j 3) (mtT f x j)) (nO S) j (mtT f x j) := by
      unfold tnS
      rw [q4, q3, q1, hw.1, ← ebu, ← ese]
      cases b <;> rfl
    have r1 := hS.py hK.1 hbu hse h8
    rw [eg] at r1
    have r2 := r1.ta okg.1 (j := j) (by rw [okg.2]; exact hjn) (mtT f x j)
    rw [r1.n, okg.2, ← eS] at r2
    rw [e1, hS.n]
    exact r2
theorem ta_num {f : Nat → Int32} (h : okF f) {j : Nat} (hj : j < nF f) (t : Int32) : ∀ k, k < nF (taF f (nF f) j t) → ∃ m, m < nF f ∧ oF (taF f (nF f) j t) k 0 = oF f m 0 := by
  have hok := okF_tq h j t
  have e0 : ∀ k, oF (tqF f j t) k 0 = oF f k 0 := fun k => by unfold oF tqF; rw [pk_un (by omega)]
  unfold taF
  by_cases c : oF (tqF f j t) j 4 = 0
  · rw [if_pos c]
    have hd := okF_dr hok.1 (q := j) (by rw [hok.2]; exact hj)
    rw [hok.2] at hd
    intro k hk
    rw [hd.2] at hk
    rw [dr_of hk (by omega)]
    split
    · exact ⟨k, by omega, e0 k⟩
    · exact ⟨k + 1, by omega, e0 (k + 1)⟩
  · rw [if_neg c]
    intro k hk
    rw [hok.2] at hk
    exact ⟨k, hk, e0 k⟩
theorem mtS_num {b : Bool} {i : Nat} {x : Int32} {f : Nat → Int32} {j : Nat} (h : okF f) (hi : i < tF f) (hj : j < nF f) : ∀ k, k < nF (mtS b i f x j) → ∃ m, m < nF f ∧ oF (mtS b i f x j) k 0 = oF f m 0 := by
  have h6 := h.2.2.2.1
  have hw := h.2.2.2.2 j hj
  have hb : (if b = true then i else wF f j) < 6 := by split <;> omega
  have hs : (if b = true then wF f j else i) < 6 := by split <;> omega
  have okg := okF_py h hb hs (pr := oF f j 3) (q := mtT f x j)
  have a := ta_num okg.1 (j := j) (by rw [okg.2]; exact hj) (mtT f x j)
  rw [okg.2] at a
  intro k hk
  obtain ⟨m, h1, h2⟩ := a k hk
  exact ⟨m, h1, h2.trans (py_hi hb hs (by omega))⟩
theorem Iv.weak {B : Int} {f : Nat → Int32} {pm pd : Nat → Int} {x : Int} (h : Iv B f pm pd x) : Iv B f (fun _ => 0) (fun _ => 0) 0 := by
  obtain ⟨a1, a2, a3, a4, ⟨⟨a5, a6⟩, a7, a8, a9, a10⟩, a11, a12⟩ := h
  refine ⟨a1, a2, fun k hk => ?_, a4, ⟨⟨a5, by omega⟩, a7, a8, a9, by omega⟩, by omega, a12⟩
  have := a3 k hk
  dsimp only
  omega
theorem Iv.mono {B C : Int} {f : Nat → Int32} {pm pd : Nat → Int} {x : Int} (h : Iv B f pm pd x) (h1 : B ≤ C) (h2 : C ≤ 40000) : Iv C f pm pd x := by
  obtain ⟨a1, a2, a3, a4, a5, a6, a7, a8, a9⟩ := h
  exact ⟨a1, a2, a3, a4, a5, a6, a7, by omega, h2⟩
theorem mt_run {B : Int} {b : Bool} {i : Nat} {pr : Int32} (hp : 1 ≤ pr.toInt ∧ pr.toInt ≤ 99) : ∀ {w v : Nat} {f : Nat → Int32} {S : SV} {x : Int32}, nF f ≤ w → nF f < v → i < tF f → Rl S f → (0 ≤ x.toInt ∧ x.toInt ≤ 50) → Iv B f (pM b i pr.toInt x.toInt) (pD b i x.toInt) x.toInt →
    Iv B (mtR b i pr v f x).1 (pM b i pr.toInt (mtR b i pr v f x).2.toInt) (pD b i (mtR b i pr v f x).2.toInt) (mtR b i pr v f x).2.toInt ∧ tF (mtR b i pr v f x).1 = tF f ∧ Rl (tnR b (nI i) pr w S x).1 (mtR b i pr v f x).1 ∧ (tnR b (nI i) pr w S x).2 = (mtR b i pr v f x).2 ∧
    (0 ≤ (mtR b i pr v f x).2.toInt ∧ (mtR b i pr v f x).2.toInt ≤ x.toInt) ∧ (mtR b i pr v f x).1 4 = f 4 ∧ (mtR b i pr v f x).1 2 = f 2 ∧ nF (mtR b i pr v f x).1 ≤ nF f ∧ ∀ N : Int, (∀ k, k < nF f → (oF f k 0).toInt < N) → ∀ k, k < nF (mtR b i pr v f x).1 → (oF (mtR b i pr v f x).1 k 0).toInt < N
  | w, v, f, S, x, hw, hv, hi, hS, hx, h => by
    have done : Iv B f (pM b i pr.toInt x.toInt) (pD b i x.toInt) x.toInt ∧ tF f = tF f ∧ Rl S f ∧ x = x ∧ (0 ≤ x.toInt ∧ x.toInt ≤ x.toInt) ∧ f 4 = f 4 ∧ f 2 = f 2 ∧ nF f ≤ nF f ∧ ∀ N : Int, (∀ k, k < nF f → (oF f k 0).toInt < N) → ∀ k, k < nF f → (oF f k 0).toInt < N := ⟨h, rfl, hS, rfl, ⟨hx.1, Int.le_refl _⟩, rfl, rfl, Nat.le_refl _, fun _ a => a⟩
    by_cases c : x ≤ 0
    · rw [tnR_x c, mtR_x c]; exact done
    · have c' : 1 ≤ x.toInt := by rw [i_le, i_0] at c; omega
      have hbe := hS.best h.1 (!b) (n := nF f) (Nat.le_refl _)
      rw [← hS.n] at hbe
      cases hm : mbF f (!b) (nF f) with
      | none =>
        rw [tnR_n (by rw [hbe, hS.n, hm]), mtR_n hm]
        exact done
      | some j =>
        have hj := mb_lt hm
        have hb2 : best S (!b) (nO S) = some j := by rw [hbe, hS.n, hm]
        have q3 := hS.pri hj
        by_cases ht : tnB b pr (oF f j 3) = true
        · obtain ⟨w, rfl⟩ : ∃ w', w = w' + 1 := ⟨w - 1, by omega⟩
          obtain ⟨v, rfl⟩ : ∃ v', v = v' + 1 := ⟨v - 1, by omega⟩
          obtain ⟨s1, s2, s3, s4, s5, s6, s7, s8⟩ := mt_step hi hp ⟨c', hx.2⟩ h hm ht
          have s6 := s6 S hS
          have num := mtS_num (b := b) (i := i) (x := x) h.1.1 hi hj
          rw [tnR_g c hb2 (by rw [q3]; exact ht), mtR_g c hm ht, s6.2.1]
          rcases s4 with s4 | s4
          · have z : x - mtT f x j ≤ 0 := by rw [i_le, s3, i_0]; omega
            rw [tnR_x z, mtR_x z]
            refine ⟨s1, s2, s6.1, rfl, by rw [s3]; omega, s7, s8, (mtS_ok h.1.1 (by have := h.1.1.2.2.2.1; omega) hj).2, fun N hN k hk => ?_⟩
            obtain ⟨m, h1, h2⟩ := num k hk
            rw [h2]; exact hN m h1
          · have ih := mt_run hp (w := w) (v := v) (x := x - mtT f x j) (S := tnS b (nI i) pr S x j) (by omega) (by omega) (by rw [s2]; exact hi) s6.1 (by rw [s3]; omega) s1
            obtain ⟨r1, r2, r3, r4, r5, r6, r7, r8, r9⟩ := ih
            refine ⟨r1, r2.trans s2, r3, r4, by rw [s3] at r5; omega, r6.trans s7, r7.trans s8, by omega, fun N hN => r9 N (fun k hk => ?_)⟩
            obtain ⟨m, h1, h2⟩ := num k hk
            rw [h2]; exact hN m h1
        · have ht' : tnB b pr (oF f j 3) = false := by simpa using ht
          rw [tnR_s hb2 (by rw [q3]; exact ht'), mtR_s hm ht']
          exact done
  termination_by w => w
/-- what is free -/
theorem fq_int {B : Int} {f : Nat → Int32} {pm pd : Nat → Int} {x : Int} (h : Iv B f pm pd x) {i : Nat} (hi : i < tF f) (b : Bool) : ∀ {n : Nat}, n ≤ nF f → (fqR f i b n).toInt = (sF f i (if b = true then 0 else 1)).toInt - zs (zw (if b = true then wM i else wD i) f) n ∧ (0 ≤ zs (zw (if b = true then wM i else wD i) f) n ∧ zs (zw (if b = true then wM i else wD i) f) n ≤ 4950 * n)
  | 0, _ => by
    refine ⟨?_, Int.le_refl _, Int.le_refl _⟩
    show (sF f i _).toInt = _ - 0
    omega
  | n + 1, hn => by
    obtain ⟨i1, i2, i3⟩ := fq_int h hi b (n := n) (by omega)
    have h6 := h.1.1.2.2.2.1
    have hw := h.1.1.2.2.2.2 n (by omega)
    obtain ⟨o2, o3, o4, o5, o0⟩ := h.1.2.1 n (by omega)
    have st := h.st hi
    have hnn := h.1.1.2.1
    have m0 : 0 ≤ (sF f i (if b = true then 0 else 1)).toInt ∧ (sF f i (if b = true then 0 else 1)).toInt ≤ 59994 := by cases b <;> simp <;> omega
    have mm : 0 ≤ (oF f n 3).toInt * (oF f n 4).toInt ∧ (oF f n 3).toInt * (oF f n 4).toInt ≤ 99 * (oF f n 4).toInt := ⟨Int.mul_nonneg (by omega) (by omega), Int.mul_le_mul_of_nonneg_right (by omega) (by omega)⟩
    have ez : zs (zw (if b = true then wM i else wD i) f) (n + 1) = zs (zw (if b = true then wM i else wD i) f) n + zw (if b = true then wM i else wD i) f n := rfl
    have ev : (if fqC f i b n = true then fqV f b n else 0).toInt = zw (if b = true then wM i else wD i) f n ∧ 0 ≤ zw (if b = true then wM i else wD i) f n ∧ zw (if b = true then wM i else wD i) f n ≤ 4950 := by
      have ec : fqC f i b n = (decide (wF f n = i) && decide (byF f n = b)) := by
        unfold fqC
        congr 1
        refine decide_eq_decide.mpr ?_
        rw [hw.1]
        exact ⟨fun e => nI_ij (by omega) (by omega) e, fun e => by rw [e]⟩
      rw [ec]
      unfold zw zk
      cases b
      · rw [if_neg (show ¬ false = true by decide)]
        unfold wD fqV
        by_cases c1 : wF f n = i <;> by_cases c2 : byF f n = false <;> simp [-Int32.toInt_mul, c1, c2, i_0] <;> omega
      · rw [if_pos (show true = true from rfl)]
        unfold wM fqV
        by_cases c1 : wF f n = i <;> by_cases c2 : byF f n = true <;> simp [-Int32.toInt_mul, c1, c2, i_0]
        rw [i_mul (by rw [Int.mul_comm]; omega) (by rw [Int.mul_comm]; omega), Int.mul_comm]
        omega
    have es : fqR f i b (n + 1) = fqR f i b n - (if fqC f i b n = true then fqV f b n else 0) := rfl
    rw [es, i_sub (by rw [ev.1]; omega) (by rw [ev.1]; omega), ev.1, i1, ez]
    refine ⟨by omega, by omega, ?_⟩
    have : ((n + 1 : Nat) : Int) = (n : Int) + 1 := rfl
    omega
