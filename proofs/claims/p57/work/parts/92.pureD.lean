/-! Parameters, commands, texts -/
theorem nmC_g (L : List Int32) : ∀ (k q : Nat) (x : Int32), q ≤ (nmC L k q x).1 ∧ (dgB L q = true → 0 < k → q + 1 ≤ (nmC L k q x).1) ∧ (dgB L q = false → nmC L k q x = (q, x))
  | 0, q, x => ⟨Nat.le_refl _, fun _ h => absurd h (by omega), fun _ => rfl⟩
  | k + 1, q, x => by
    unfold nmC
    by_cases c : dgB L q = true
    · rw [if_pos c]
      have := (nmC_g L k (q + 1) (10 * x + dgA L q)).1
      exact ⟨by omega, fun _ _ => this, fun e => by rw [c] at e; exact absurd e (by decide)⟩
    · rw [if_neg c]
      exact ⟨Nat.le_refl _, fun e => absurd e c, fun _ => rfl⟩
theorem id_dg {L : List Int32} {U : MV_} {n : Nat} (h : tx L U n) (t : Nat) : idB U n t false = dgB L t := by
  unfold idB dgB beC
  rw [← h.1]
  by_cases c : t < n
  · rw [Nat.add_zero, if_pos c, h.2.2 t c, decide_eq_true c]; rfl
  · rw [Nat.add_zero, if_neg c, decide_eq_false c]; rfl
theorem nm_eq {L : List Int32} {U : MV_} {n : Nat} (h : tx L U n) : ∀ (k t : Nat) (x : Int32), nmR U n false k t x = nmC L k t x
  | 0, _, _ => rfl
  | k + 1, t, x => by
    unfold nmR nmC
    rw [id_dg h]
    by_cases c : dgB L t = true
    · rw [if_pos c, if_pos c, nm_eq h k]
      have hd : t < n := by
        unfold dgB at c
        rw [Bool.and_eq_true, decide_eq_true_iff, ← h.1] at c
        exact c.1
      have e : 10 * x + U.2 5 t - 48 = 10 * x + dgA L t := by
        unfold dgA
        rw [if_pos c, h.2.2 t hd, Int32.sub_eq_add_neg, Int32.sub_eq_add_neg, Int32.add_assoc]
      rw [e]
    · rw [if_neg c, if_neg c]
theorem rn_w {U : MV_} {n m t : Nat} : rnM U n m t true = ((t, true), 0) := by
  have e : ∀ m, nmR U n true m t 0 = (t, 0) := fun m => by cases m <;> rfl
  unfold rnM
  show (((nmR U n (true || !idB U n t true) m t 0).1, true || !idB U n t true), (nmR U n (true || !idB U n t true) m t 0).2) = _
  rw [Bool.true_or, e]
theorem rd_w {U : MV_} {n t : Nat} : ∀ {ms : List Nat} {i : Nat} {c : Nat → Int32}, (rdP U n ms i (t, true) c).1 = (t, true)
  | [], _, _ => rfl
  | m :: ms, i, c => by
    show (rdP U n ms (i + 1) (rnM U n m t true).1 _).1 = _
    rw [rn_w]
    exact rd_w
theorem rd_keep {U : MV_} {n : Nat} : ∀ {ms : List Nat} {i : Nat} {a : Nat × Bool} {c : Nat → Int32} {y : Nat}, y < i ∨ i + ms.length ≤ y → (rdP U n ms i a c).2 y = c y
  | [], _, _, _, _, _ => rfl
  | m :: ms, i, a, c, y, h => by
    rw [List.length_cons] at h
    show (rdP U n ms (i + 1) _ (upd c i _)).2 y = _
    rw [rd_keep (by omega), pk_un (by omega)]
/-- the digits that parameters may have -/
def dgs (vb : Nat) : Nat → Nat → List Nat
  | _, 0 => []
  | i, v + 1 => (if ndV vb ≤ i then 3 else 1) :: dgs vb (i + 1) v
theorem dgs_len (vb : Nat) : ∀ (v i : Nat), (dgs vb i v).length = v
  | 0, _ => rfl
  | v + 1, i => by show (dgs vb (i + 1) v).length + 1 = _; rw [dgs_len vb v]
theorem dgs_vb (w : Nat) (hw : w < 7) : List.replicate (ndV w) 1 ++ List.replicate (nnV w) 3 = dgs w 0 (ndV w + nnV w) := by
  rcases (show w = 0 ∨ w = 1 ∨ w = 2 ∨ w = 3 ∨ w = 4 ∨ w = 5 ∨ w = 6 by omega) with rfl | rfl | rfl | rfl | rfl | rfl | rfl <;> decide
theorem rp_ok {L : List Int32} {U : MV_} {n : Nat} (h : tx L U n) (vb b : Nat) : ∀ {v i q : Nat} {g c : Nat → Int32},
    (rdP U n (dgs vb i v) (b + i) (q, false) c).1 = ((rpR L vb v i q g).2.1, !(rpR L vb v i q g).1) ∧ ((rpR L vb v i q g).1 = true → ∀ x, i ≤ x → x < i + v → (rdP U n (dgs vb i v) (b + i) (q, false) c).2 (b + x) = (rpR L vb v i q g).2.2 x) ∧ (∀ x, x < i → (rpR L vb v i q g).2.2 x = g x) ∧ q ≤ (rpR L vb v i q g).2.1
  | 0, i, q, g, c => ⟨rfl, fun _ x h1 h2 => absurd h2 (by omega), fun _ _ => rfl, Nat.le_refl _⟩
  | v + 1, i, q, g, c => by
    have hb := be_st h (t := q) (k := 0) (ch := 32) (by decide)
    rw [Nat.add_zero] at hb
    obtain ⟨m, hm⟩ : ∃ m, (if ndV vb ≤ i then 3 else 1) = m := ⟨_, rfl⟩
    have hm0 : 0 < m := by rw [← hm]; split <;> omega
    have eL : rdP U n (dgs vb i (v + 1)) (b + i) (q, false) c = rdP U n (dgs vb (i + 1) v) (b + i + 1) (rnM U n m q false).1 (upd c (b + i) (rnM U n m q false).2) := by
      show rdP U n ((if ndV vb ≤ i then 3 else 1) :: dgs vb (i + 1) v) (b + i) (q, false) c = _
      rw [hm]
      rfl
    have eR : rpR L vb (v + 1) i q g = if stB L q 32 = true then (if q + 1 < (nmC L m (q + 1) 0).1 then rpR L vb v (i + 1) (nmC L m (q + 1) 0).1 (upd g i (nmC L m (q + 1) 0).2) else (false, (nmC L m (q + 1) 0).1, upd g i (nmC L m (q + 1) 0).2)) else (false, q, g) := by
      rw [← hm]; rfl
    have es : skR U n [32] q false = if beC U n q 0 = 32 &&& 255 then (q + 1, false) else (q, true) := rfl
    rw [show (32 : Int32) &&& 255 = 32 by decide] at es
    have eN : rnM U n m q false = (((nmR U n ((skR U n [32] q false).2 || !idB U n (skR U n [32] q false).1 (skR U n [32] q false).2) m (skR U n [32] q false).1 0).1, ((skR U n [32] q false).2 || !idB U n (skR U n [32] q false).1 (skR U n [32] q false).2)), (nmR U n ((skR U n [32] q false).2 || !idB U n (skR U n [32] q false).1 (skR U n [32] q false).2) m (skR U n [32] q false).1 0).2) := rfl
    have ew : ∀ t, nmR U n true m t 0 = (t, 0) := fun t => by cases m <;> rfl
    rw [eL, eR]
    by_cases c1 : stB L q 32 = true
    · rw [if_pos (hb.mpr c1)] at es
      rw [es] at eN
      dsimp only at eN
      rw [id_dg h, Bool.false_or] at eN
      rw [if_pos c1]
      have hg := nmC_g L m (q + 1) 0
      by_cases c2 : dgB L (q + 1) = true
      · rw [c2, Bool.not_true, nm_eq h] at eN
        have l := hg.2.1 c2 hm0
        rw [if_pos (by omega), eN]
        obtain ⟨i1, i2, i3, i4⟩ := rp_ok h vb b (v := v) (i := i + 1) (q := (nmC L m (q + 1) 0).1) (g := upd g i (nmC L m (q + 1) 0).2) (c := upd c (b + i) (nmC L m (q + 1) 0).2)
        rw [show b + i + 1 = b + (i + 1) by omega]
        refine ⟨i1, fun hr x h1 h2 => ?_, fun x hx => ?_, by omega⟩
        · by_cases e : x = i
          · rw [e, i3 i (by omega), pk_us, rd_keep (Or.inl (by omega)), pk_us]
          · exact i2 hr x (by omega) (by omega)
        · rw [i3 x (by omega), pk_un (by omega)]
      · have c2' := Bool.of_not_eq_true c2
        rw [c2', Bool.not_false, ew] at eN
        have l := hg.2.2 c2'
        rw [l, if_neg (Nat.lt_irrefl _), eN]
        refine ⟨?_, fun e => absurd e Bool.false_ne_true, fun x hx => pk_un (by omega), by show q ≤ q + 1; omega⟩
        rw [rd_w]
        rfl
    · rw [if_neg (fun e => c1 (hb.mp e))] at es
      rw [es] at eN
      dsimp only at eN
      rw [Bool.true_or, ew] at eN
      rw [if_neg c1, eN]
      refine ⟨?_, fun e => absurd e Bool.false_ne_true, fun _ _ => rfl, Nat.le_refl _⟩
      rw [rd_w]
      rfl
/-- the model's sign of a command -/
def cdO (w : Nat) (k : Int32) : Prop := match w with
  | 0 => k = 116
  | 1 => k = 98
  | 2 => k = 115
  | 3 => k = 99
  | 4 => k = 112
  | 5 => ¬ k = 116 ∧ ¬ k = 98 ∧ ¬ k = 115 ∧ ¬ k = 99 ∧ ¬ k = 112 ∧ ¬ k = 108
  | _ => k = 108
theorem cdO_ok (a b : Int32) : cdO (wdI a b) (rcK a b) := by
  unfold wdI rcK
  by_cases h1 : a = 115 ∧ b = 116
  · rw [if_pos h1, if_pos h1]; rfl
  rw [if_neg h1, if_neg h1]
  by_cases h2 : a = 99 ∧ b = 108
  · rw [if_pos h2, if_pos h2]; rfl
  rw [if_neg h2, if_neg h2]
  by_cases h3 : a = 116 ∨ a = 108
  · rw [if_pos h3]
    have e : ¬ a = 98 ∧ ¬ a = 115 ∧ ¬ a = 99 ∧ ¬ a = 112 := by rcases h3 with e | e <;> rw [e] <;> decide
    rw [if_neg e.1, if_neg e.2.1, if_neg e.2.2.1, if_neg e.2.2.2]
    exact ⟨by decide, by decide, by decide, by decide, by decide, by decide⟩
  rw [if_neg h3]
  by_cases c1 : a = 98
  · rw [if_pos c1]; exact c1
  rw [if_neg c1]
  by_cases c2 : a = 115
  · rw [if_pos c2]; exact c2
  rw [if_neg c2]
  by_cases c3 : a = 99
  · rw [if_pos c3]; exact c3
  rw [if_neg c3]
  by_cases c4 : a = 112
  · rw [if_pos c4]; exact c4
  rw [if_neg c4]
  exact ⟨fun e => h3 (Or.inl e), c1, c2, c3, c4, fun e => h3 (Or.inr e)⟩
def arV (w : Nat) : Nat := ndV w + nnV w
/-- one command -/
theorem rc_ok {L : List Int32} {U : MV_} {n : Nat} (h : tx L U n) {q r : Nat} (hr : rcQ L q = some r) (vb : Nat) (g : Nat → Int32) (cm : Nat) (c : Nat → Int32) :
    (rcM U n r false cm c).1 = ((rcC L q vb g).2.1, !(rcC L q vb g).1) ∧ (rcM U n r false cm c).2.1 = cm + 1 ∧ (∀ y, y < 4 * cm → (rcM U n r false cm c).2.2 y = c y) ∧
    ((rcC L q vb g).1 = true → r < (rcC L q vb g).2.1 ∧ (rcC L q vb g).2.2.1 = wdI (beC U n r 0) (beC U n r 1) ∧ cdO (wdI (beC U n r 0) (beC U n r 1)) ((rcM U n r false cm c).2.2 (4 * cm)) ∧ ∀ x, x < arV (wdI (beC U n r 0) (beC U n r 1)) → (rcM U n r false cm c).2.2 (4 * cm + 1 + x) = (rcC L q vb g).2.2.2 x) := by
  obtain ⟨w, hw, hw7, hne, hle⟩ := rv_ok h (q := r)
  have hv := wd_vb (beC U n r 0) (beC U n r 1)
  have hcd := cdO_ok (beC U n r 0) (beC U n r 1)
  rw [← hw] at hv hcd ⊢
  obtain ⟨k, hk⟩ : ∃ k, rcK (beC U n r 0) (beC U n r 1) = k := ⟨_, rfl⟩
  have eM : rcM U n r false cm c = rcN U n r cm c k := by
    unfold rcM
    rw [if_neg (by decide), hk]
  rw [hk] at hv hcd
  rw [dgs_vb w hw7] at hv
  have es := (mw_sk h (W := wdL w) (q := r) (wd_255 w) (v := (wdL w).length) (k := 0) (by omega))
  have em : mwR L (wdL w) r (wdL w).length 0 = mwC L (wdL w) r := rfl
  rw [List.drop_zero, Nat.add_zero, em] at es
  have hrv := rv_w hw7 hne hle (v := 7) (i := 0) (lo := 0) (by omega) (by omega) (fun e => by omega)
  have eC : rcC L q vb g = if (rvC L r vb).1 = true then ((rpR L (rvC L r vb).2.1 (ndV (rvC L r vb).2.1 + nnV (rvC L r vb).2.1) 0 (rvC L r vb).2.2 g).1, (rpR L (rvC L r vb).2.1 (ndV (rvC L r vb).2.1 + nnV (rvC L r vb).2.1) 0 (rvC L r vb).2.2 g).2.1, (rvC L r vb).2.1, (rpR L (rvC L r vb).2.1 (ndV (rvC L r vb).2.1 + nnV (rvC L r vb).2.1) 0 (rvC L r vb).2.2 g).2.2) else (false, (rvC L r vb).2.2, (rvC L r vb).2.1, g) := by
    unfold rcC
    rw [hr]
  have eN : rcN U n r cm c k = ((rdP U n (dgs w 0 (ndV w + nnV w)) (4 * cm + 1) (r + mwC L (wdL w) r, !decide (mwC L (wdL w) r = (wdL w).length)) (upd c (4 * cm) k)).1, cm + 1, (rdP U n (dgs w 0 (ndV w + nnV w)) (4 * cm + 1) (r + mwC L (wdL w) r, !decide (mwC L (wdL w) r = (wdL w).length)) (upd c (4 * cm) k)).2) := by
    unfold rcN
    rw [hv.1, es.1]
  rw [eM, eN, eC]
  have keep : ∀ (a : Nat × Bool) (y : Nat), y < 4 * cm + 1 → (rdP U n (dgs w 0 (ndV w + nnV w)) (4 * cm + 1) a (upd c (4 * cm) k)).2 y = upd c (4 * cm) k y := fun a y hy => rd_keep (Or.inl hy)
  by_cases cc : mwC L (wdL w) r = (wdL w).length
  · have h1 := hrv.1 cc
    have ev : rvC L r vb = (true, w, r + (wdL w).length) := by
      unfold rvC
      rw [if_pos h1.1, h1.2]
    rw [ev, if_pos rfl, decide_eq_true cc, cc, Bool.not_true]
    obtain ⟨i1, i2, i3, i4⟩ := rp_ok h w (4 * cm + 1) (v := ndV w + nnV w) (i := 0) (q := r + (wdL w).length) (g := g) (c := upd c (4 * cm) k)
    rw [Nat.add_zero] at i1 i2
    refine ⟨i1, rfl, fun y hy => ?_, fun e => ⟨?_, rfl, ?_, fun x hx => ?_⟩⟩
    · rw [keep _ y (by omega), pk_un (by omega)]
    · have := wd_len w
      show r < (rpR L w (ndV w + nnV w) 0 (r + (wdL w).length) g).2.1
      omega
    · show cdO w ((rdP U n (dgs w 0 (ndV w + nnV w)) (4 * cm + 1) (r + (wdL w).length, false) (upd c (4 * cm) k)).2 (4 * cm))
      rw [keep _ _ (by omega), pk_us]
      exact hcd
    · exact i2 e x (Nat.zero_le _) (by unfold arV at hx; omega)
  · have h1 := hrv.2 cc
    have ev : rvC L r vb = (false, vb, r + mwC L (wdL w) r) := by
      unfold rvC
      rw [if_neg (by rw [h1.1]; decide), h1.2]
    rw [ev, if_neg Bool.false_ne_true, decide_eq_false cc, Bool.not_false]
    refine ⟨?_, rfl, fun y hy => ?_, fun e => absurd e Bool.false_ne_true⟩
    · rw [rd_w]
      try rfl
    · show (rdP U n (dgs w 0 (ndV w + nnV w)) (4 * cm + 1) (r + mwC L (wdL w) r, true) (upd c (4 * cm) k)).2 y = c y
      rw [keep _ y (by omega), pk_un (by omega)]
/-- m commands from place q on, the first of them number k, stand in the row c -/
def rdO (L : List Int32) (c : Nat → Int32) : Nat → Nat → Nat → Prop
  | 0, _, _ => True
  | m + 1, k, q => ∃ q' w, w < 7 ∧ cdO w (c (4 * k)) ∧ (∀ vb g, (rcC L q vb g).1 = true ∧ (rcC L q vb g).2.1 = q' ∧ (rcC L q vb g).2.2.1 = w ∧ ∀ x, x < arV w → (rcC L q vb g).2.2.2 x = c (4 * k + 1 + x)) ∧ rdO L c m (k + 1) q'
/-- what is left of the counting behind a command -/
def cnT (L : List Int32) (v k q vb : Nat) (g : Nat → Int32) : Option Nat × Nat × Nat × (Nat → Int32) := if q = L.length then (some k, q, vb, g) else cnC L v (k + 1) q vb g
theorem cnC_T {L : List Int32} {v k q vb : Nat} {g : Nat → Int32} (h : (rcC L q vb g).1 = true) : cnC L (v + 1) k q vb g = cnT L v k (rcC L q vb g).2.1 (rcC L q vb g).2.2.1 (rcC L q vb g).2.2.2 := by
  unfold cnT
  rw [cnC, if_neg (by rw [h]; decide)]
theorem cn_ok {L : List Int32} {U : MV_} {n : Nat} (h : tx L U n) : ∀ {v v' k q vb : Nat} {g c : Nat → Int32}, vb < 7 → 0 < q → q ≤ n → n - q ≤ v → n - q < v' →
    ((cnT L v k q vb g).1 = none → ((rdA U n v' (q, false) k c).1.2 || decide ((rdA U n v' (q, false) k c).1.1 < n)) = true ∧ (rdA U n v' (q, false) k c).1.1 = (cnT L v k q vb g).2.1) ∧
    (∀ N, (cnT L v k q vb g).1 = some N → (rdA U n v' (q, false) k c).1 = (n, false) ∧ (rdA U n v' (q, false) k c).2.1 = N ∧ k ≤ N ∧ rdO L (rdA U n v' (q, false) k c).2.2 (N - k) k q) ∧ ∀ y, y < 4 * k → (rdA U n v' (q, false) k c).2.2 y = c y
  | v, v', k, q, vb, g, c, hvb, h0, hq, hv, hv' => by
    obtain ⟨v', rfl⟩ : ∃ u, v' = u + 1 := ⟨v' - 1, by omega⟩
    have hb := be_st h (t := q) (k := 0) (ch := 59) (by decide)
    rw [Nat.add_zero] at hb
    by_cases e : q = n
    · have eT : cnT L v k q vb g = (some k, q, vb, g) := by unfold cnT; rw [if_pos (by rw [e, h.1])]
      have eA : rdA U n (v' + 1) (q, false) k c = ((q, false), k, c) := rdA_s (fun a => by have := be_59 a.2; dsimp only at this; omega)
      rw [eT, eA]
      refine ⟨fun a => absurd a (by simp), fun N a => ?_, fun _ _ => rfl⟩
      injection a with a
      rw [← a, Nat.sub_self]
      exact ⟨by rw [e], rfl, Nat.le_refl _, trivial⟩
    · obtain ⟨v, rfl⟩ : ∃ u, v = u + 1 := ⟨v - 1, by omega⟩
      have eT : cnT L (v + 1) k q vb g = cnC L (v + 1) (k + 1) q vb g := by unfold cnT; rw [if_neg (by rw [← h.1]; exact e)]
      rw [eT]
      by_cases c1 : stB L q 59 = true
      · have hr : rcQ L q = some (q + 1) := by unfold rcQ; rw [if_neg (by omega), if_pos c1]
        have hq1 : q < n := by
          unfold stB at c1
          rw [Bool.and_eq_true, decide_eq_true_iff, ← h.1] at c1
          exact c1.1
        rw [rdA_g (hb.mpr c1)]
        obtain ⟨r1, r2, r3, r4⟩ := rc_ok h hr vb g k c
        rw [r1, r2]
        by_cases c2 : (rcC L q vb g).1 = true
        · have r4 := r4 c2
          rw [cnC_T c2, c2, Bool.not_true]
          have hle : (rcC L q vb g).2.1 ≤ n := by
            rw [h.1]
            exact (rcC_le (by rw [← h.1]; omega) hvb).1
          obtain ⟨i1, i2, i3⟩ := cn_ok h (v := v) (v' := v') (k := k + 1) (q := (rcC L q vb g).2.1) (vb := (rcC L q vb g).2.2.1) (g := (rcC L q vb g).2.2.2) (c := (rcM U n (q + 1) false k c).2.2) (rcC_le (by rw [← h.1]; omega) hvb).2 (by omega) hle (by omega) (by omega)
          refine ⟨i1, fun N hN => ?_, fun y hy => by rw [i3 y (by omega), r3 y hy]⟩
          obtain ⟨j1, j2, j3, j4⟩ := i2 N hN
          refine ⟨j1, j2, by omega, ?_⟩
          rw [show N - k = (N - (k + 1)) + 1 by omega]
          refine ⟨(rcC L q vb g).2.1, wdI (beC U n (q + 1) 0) (beC U n (q + 1) 1), (wd_vb _ _).2, ?_, fun vb2 g2 => ?_, j4⟩
          · rw [i3 _ (by omega)]
            exact r4.2.2.1
          · obtain ⟨s1, s2, s3, s4⟩ := rc_ok h hr vb2 g2 k c
            rw [r1] at s1
            have s1a := congrArg Prod.fst s1
            have s1b := congrArg Prod.snd s1
            dsimp only at s1a s1b
            rw [c2] at s1b
            have s0 : (rcC L q vb2 g2).1 = true := by
              cases hz : (rcC L q vb2 g2).1 with
              | true => rfl
              | false => rw [hz] at s1b; exact absurd s1b (by decide)
            obtain ⟨t1, t2, t3, t4⟩ := s4 s0
            refine ⟨s0, s1a.symm, t2, fun x hx => ?_⟩
            rw [← t4 x hx, i3 _ (by
              have : arV (wdI (beC U n (q + 1) 0) (beC U n (q + 1) 1)) ≤ 3 := by
                have hw7 := (wd_vb (beC U n (q + 1) 0) (beC U n (q + 1) 1)).2
                generalize wdI (beC U n (q + 1) 0) (beC U n (q + 1) 1) = w at hw7
                rcases (show w = 0 ∨ w = 1 ∨ w = 2 ∨ w = 3 ∨ w = 4 ∨ w = 5 ∨ w = 6 by omega) with rfl | rfl | rfl | rfl | rfl | rfl | rfl <;> decide
              omega)]
        · have c2' := Bool.of_not_eq_true c2
          have eC : cnC L (v + 1) (k + 1) q vb g = (none, (rcC L q vb g).2) := by rw [cnC, if_pos c2']
          rw [eC, c2', Bool.not_false]
          have eA : rdA U n v' ((rcC L q vb g).2.1, true) (k + 1) (rcM U n (q + 1) false k c).2.2 = (((rcC L q vb g).2.1, true), k + 1, (rcM U n (q + 1) false k c).2.2) := by
            cases v' with
            | zero => rfl
            | succ u => exact rdA_s (fun a => absurd a.1 (by simp))
          rw [eA]
          exact ⟨fun _ => ⟨rfl, rfl⟩, fun N a => absurd a (by simp), fun y hy => r3 y hy⟩
      · have hr : rcQ L q = none := by unfold rcQ; rw [if_neg (by omega), if_neg c1]
        have eR : rcC L q vb g = (false, q, vb, g) := by unfold rcC; rw [hr]
        have eC : cnC L (v + 1) (k + 1) q vb g = (none, q, vb, g) := by rw [cnC, eR, if_pos rfl]
        have eA : rdA U n (v' + 1) (q, false) k c = ((q, false), k, c) := rdA_s (fun a => c1 (hb.mp a.2))
        rw [eC, eA]
        refine ⟨fun _ => ⟨?_, rfl⟩, fun N a => absurd a (by simp), fun _ _ => rfl⟩
        show (false || decide (q < n)) = true
        rw [Bool.false_or, decide_eq_true_iff]
        omega
  termination_by v => v
