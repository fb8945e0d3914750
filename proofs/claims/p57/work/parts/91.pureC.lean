/-! A command read: the class's parser and the model's -/
/-- the text of both -/
def tx (L : List Int32) (U : MV_) (n : Nat) : Prop := n = L.length ∧ n ≤ 60 ∧ ∀ k, k < n → U.2 5 k = L.getD k 0
theorem be_st {L : List Int32} {U : MV_} {n : Nat} (h : tx L U n) {t k : Nat} {ch : Int32} (hc : ch ≠ -1) : beC U n t k = ch ↔ stB L (t + k) ch = true := by
  unfold beC stB
  rw [Bool.and_eq_true, decide_eq_true_iff, decide_eq_true_iff, ← h.1]
  by_cases c : t + k < n
  · rw [if_pos c, h.2.2 _ c]; exact ⟨fun e => ⟨c, e⟩, fun e => e.2⟩
  · rw [if_neg c]; exact ⟨fun e => absurd e.symm hc, fun e => absurd e.1 c⟩
/-- a word: how far it goes -/
theorem mw_sk {L W : List Int32} {U : MV_} {n q : Nat} (h : tx L U n) (hW : ∀ c, c ∈ W → c &&& 255 ≠ -1) : ∀ {v k : Nat}, k + v = W.length → skR U n (W.drop k) (q + k) false = (q + mwR L W q v k, !decide (mwR L W q v k = W.length)) ∧ mwR L W q v k ≤ W.length ∧ k ≤ mwR L W q v k
  | 0, k, hk => by
    have e : k = W.length := by omega
    rw [e, List.drop_length]
    refine ⟨?_, Nat.le_refl _, Nat.le_refl _⟩
    show (q + W.length, false) = (q + W.length, !decide (W.length = W.length))
    rw [decide_eq_true rfl]; rfl
  | v + 1, k, hk => by
    have hl : k < W.length := by omega
    have ed : W.drop k = W[k] :: W.drop (k + 1) := List.drop_eq_getElem_cons hl
    have eg : W.getD k 0 = W[k] := by rw [List.getD_eq_getElem?_getD, List.getElem?_eq_getElem hl]; rfl
    have hb := be_st h (t := q + k) (k := 0) (hW W[k] (List.getElem_mem hl))
    rw [Nat.add_zero] at hb
    rw [ed]
    show (if false = true then (q + k, false) else if beC U n (q + k) 0 = W[k] &&& 255 then skR U n (W.drop (k + 1)) (q + k + 1) false else (q + k, true)) = _ ∧ _
    rw [if_neg (by decide)]
    unfold mwR
    rw [eg]
    by_cases c : stB L (q + k) (W[k] &&& 255) = true
    · rw [if_pos (hb.mpr c), if_pos c]
      have ih := mw_sk h hW (q := q) (v := v) (k := k + 1) (by omega)
      exact ⟨ih.1, ih.2.1, by omega⟩
    · rw [if_neg (fun e => c (hb.mp e)), if_neg c]
      refine ⟨?_, by omega, Nat.le_refl _⟩
      rw [decide_eq_false (by omega)]; rfl
theorem mw_0 {L W : List Int32} {q : Nat} (hw : 0 < W.length) (h : stB L q (W.getD 0 0 &&& 255) = false) : mwC L W q = 0 := by
  unfold mwC
  obtain ⟨v, hv⟩ : ∃ v, W.length = v + 1 := ⟨W.length - 1, by omega⟩
  rw [hv]
  unfold mwR
  rw [Nat.add_zero, h, if_neg (by decide)]
theorem mw_1 {L W : List Int32} {q : Nat} (hw : 1 < W.length) (h0 : stB L q (W.getD 0 0 &&& 255) = true) (h : stB L (q + 1) (W.getD 1 0 &&& 255) = false) : mwC L W q = 1 := by
  unfold mwC
  obtain ⟨v, hv⟩ : ∃ v, W.length = v + 2 := ⟨W.length - 2, by omega⟩
  rw [hv]
  unfold mwR
  rw [Nat.add_zero, if_pos h0]
  unfold mwR
  rw [h, if_neg (by decide)]
theorem mw_ge {L W : List Int32} {q : Nat} (hw : 0 < W.length) (h0 : stB L q (W.getD 0 0 &&& 255) = true) : 1 ≤ mwC L W q := by
  have key : ∀ v k, k ≤ mwR L W q v k := fun v => by
    induction v with
    | zero => intro k; exact Nat.le_refl _
    | succ v ih =>
      intro k
      unfold mwR
      split
      · have := ih (k + 1); omega
      · exact Nat.le_refl _
  unfold mwC
  obtain ⟨v, hv⟩ : ∃ v, W.length = v + 1 := ⟨W.length - 1, by omega⟩
  rw [hv]
  unfold mwR
  rw [Nat.add_zero, if_pos h0]
  exact key v 1
/-- the word found, if every other word goes less far -/
theorem rv_w {L : List Int32} {q w : Nat} (hw : w < 7) (hne : ∀ i, i < 7 → i ≠ w → mwC L (wdL i) q ≠ (wdL i).length) (hle : ∀ i, i < 7 → mwC L (wdL i) q ≤ mwC L (wdL w) q) : ∀ {v i lo : Nat}, i + v = 7 → lo ≤ mwC L (wdL w) q → (w < i → lo = mwC L (wdL w) q ∧ mwC L (wdL w) q ≠ (wdL w).length) →
    (mwC L (wdL w) q = (wdL w).length → (rvR L q v i lo).1 = true ∧ (rvR L q v i lo).2.1 = w) ∧ (mwC L (wdL w) q ≠ (wdL w).length → (rvR L q v i lo).1 = false ∧ (rvR L q v i lo).2.2 = mwC L (wdL w) q)
  | 0, i, lo, h, h1, h2 => by
    have := h2 (by omega)
    exact ⟨fun e => absurd e this.2, fun _ => ⟨rfl, this.1⟩⟩
  | v + 1, i, lo, h, h1, h2 => by
    unfold rvR
    by_cases c : mwC L (wdL i) q = (wdL i).length
    · rw [if_pos c]
      have e : i = w := Decidable.byContradiction fun e => hne i (by omega) e c
      rw [e] at c
      exact ⟨fun _ => ⟨rfl, e⟩, fun a => absurd c a⟩
    · rw [if_neg c]
      have l := hle i (by omega)
      refine rv_w hw hne hle (by omega) (by omega) (fun l2 => ?_)
      by_cases e : i = w
      · rw [e] at c ⊢; exact ⟨by omega, c⟩
      · have := h2 (by omega)
        exact ⟨by omega, this.2⟩
/-- the word that two letters call for -/
def wdI (a b : Int32) : Nat := if a = 115 ∧ b = 116 then 0 else if a = 99 ∧ b = 108 then 6 else if a = 98 then 1 else if a = 115 then 2 else if a = 99 then 3 else if a = 112 then 4 else 5
theorem wd_vb (a b : Int32) : vbL (rcK a b) = (wdL (wdI a b), (List.replicate (ndV (wdI a b)) 1 ++ List.replicate (nnV (wdI a b)) 3)) ∧ wdI a b < 7 := by
  unfold wdI rcK
  by_cases h1 : a = 115 ∧ b = 116
  · rw [if_pos h1, if_pos h1]; exact ⟨rfl, by omega⟩
  rw [if_neg h1, if_neg h1]
  by_cases h2 : a = 99 ∧ b = 108
  · rw [if_pos h2, if_pos h2]; exact ⟨rfl, by omega⟩
  rw [if_neg h2, if_neg h2]
  by_cases h3 : a = 116 ∨ a = 108
  · rw [if_pos h3]
    have e : ¬ a = 98 ∧ ¬ a = 115 ∧ ¬ a = 99 ∧ ¬ a = 112 := by rcases h3 with e | e <;> rw [e] <;> decide
    rw [if_neg e.1, if_neg e.2.1, if_neg e.2.2.1, if_neg e.2.2.2]
    exact ⟨rfl, by omega⟩
  rw [if_neg h3]
  have h4 : ¬ a = 116 := fun e => h3 (Or.inl e)
  have h5 : ¬ a = 108 := fun e => h3 (Or.inr e)
  unfold vbL
  rw [if_neg h4]
  by_cases c1 : a = 98
  · rw [if_pos c1, if_pos c1]; exact ⟨rfl, by omega⟩
  rw [if_neg c1, if_neg c1]
  by_cases c2 : a = 115
  · rw [if_pos c2, if_pos c2]; exact ⟨rfl, by omega⟩
  rw [if_neg c2, if_neg c2]
  by_cases c3 : a = 99
  · rw [if_pos c3, if_pos c3]; exact ⟨rfl, by omega⟩
  rw [if_neg c3, if_neg c3]
  by_cases c4 : a = 112
  · rw [if_pos c4, if_pos c4]; exact ⟨rfl, by omega⟩
  rw [if_neg c4, if_neg c4, if_neg h5]
  exact ⟨rfl, by omega⟩
theorem wd_len (i : Nat) : 2 ≤ (wdL i).length ∧ (wdL i).length ≤ 6 := by
  unfold wdL
  split <;> decide
theorem wd_255 (i : Nat) : ∀ c, c ∈ wdL i → c &&& 255 ≠ -1 := by
  unfold wdL
  split <;> decide
/-- the first two letters of the words -/
theorem wd_ab (i : Nat) (hi : i < 7) : (wdL i).getD 0 0 &&& 255 = ([115, 98, 115, 99, 112, 111, 99] : List Int32).getD i 0 ∧ (wdL i).getD 1 0 &&& 255 = ([116, 117, 101, 97, 97, 112, 108] : List Int32).getD i 0 := by
  rcases (show i = 0 ∨ i = 1 ∨ i = 2 ∨ i = 3 ∨ i = 4 ∨ i = 5 ∨ i = 6 by omega) with rfl | rfl | rfl | rfl | rfl | rfl | rfl <;> decide
theorem st_f {L : List Int32} {i : Nat} {a b : Int32} (h : stB L i a = true) (hne : b ≠ a) : stB L i b = false := by
  unfold stB at h ⊢
  rw [Bool.and_eq_true, decide_eq_true_iff, decide_eq_true_iff] at h
  rw [h.2, decide_eq_false (p := a = b) (fun e => hne e.symm), Bool.and_false]
theorem rv_ok {L : List Int32} {U : MV_} {n q : Nat} (h : tx L U n) : ∃ w, w = wdI (beC U n q 0) (beC U n q 1) ∧ w < 7 ∧ (∀ i, i < 7 → i ≠ w → mwC L (wdL i) q ≠ (wdL i).length) ∧ ∀ i, i < 7 → mwC L (wdL i) q ≤ mwC L (wdL w) q := by
  have b0 : ∀ ch : Int32, ch ≠ -1 → (beC U n q 0 = ch ↔ stB L q ch = true) := fun ch hc => be_st h hc
  have b1 : ∀ ch : Int32, ch ≠ -1 → (beC U n q 1 = ch ↔ stB L (q + 1) ch = true) := fun ch hc => be_st h hc
  have w0 : ∀ i, i < 7 → stB L q (([115, 98, 115, 99, 112, 111, 99] : List Int32).getD i 0) = false → mwC L (wdL i) q = 0 := fun i hi e => mw_0 (by have := wd_len i; omega) (by rw [(wd_ab i hi).1]; exact e)
  have w1 : ∀ i, i < 7 → stB L q (([115, 98, 115, 99, 112, 111, 99] : List Int32).getD i 0) = true → stB L (q + 1) (([116, 117, 101, 97, 97, 112, 108] : List Int32).getD i 0) = false → mwC L (wdL i) q = 1 := fun i hi e e1 => mw_1 (by have := wd_len i; omega) (by rw [(wd_ab i hi).1]; exact e) (by rw [(wd_ab i hi).2]; exact e1)
  have wg : ∀ i, i < 7 → stB L q (([115, 98, 115, 99, 112, 111, 99] : List Int32).getD i 0) = true → 1 ≤ mwC L (wdL i) q := fun i hi e => mw_ge (by have := wd_len i; omega) (by rw [(wd_ab i hi).1]; exact e)
  have wl : ∀ i, 2 ≤ (wdL i).length := fun i => (wd_len i).1
  -- what is to be shown, if all words but w go at most one letter far and no farther than w
  have fin : ∀ w, w < 7 → (∀ i, i < 7 → i ≠ w → mwC L (wdL i) q ≤ 1 ∧ mwC L (wdL i) q ≤ mwC L (wdL w) q) → (∀ i, i < 7 → i ≠ w → mwC L (wdL i) q ≠ (wdL i).length) ∧ ∀ i, i < 7 → mwC L (wdL i) q ≤ mwC L (wdL w) q := fun w hw hh => ⟨fun i hi hne => by have := hh i hi hne; have := wl i; omega, fun i hi => by
    by_cases e : i = w
    · rw [e]; exact Nat.le_refl _
    · exact (hh i hi e).2⟩
  refine ⟨_, rfl, (wd_vb _ _).2, ?_⟩
  unfold wdI
  by_cases h1 : beC U n q 0 = 115 ∧ beC U n q 1 = 116
  · rw [if_pos h1]
    have s0 := (b0 115 (by decide)).mp h1.1
    have s1 := (b1 116 (by decide)).mp h1.2
    have g0 := wg 0 (by omega) s0
    refine fin 0 (by omega) (fun i hi hne => ?_)
    rcases (show i = 1 ∨ i = 2 ∨ i = 3 ∨ i = 4 ∨ i = 5 ∨ i = 6 by omega) with rfl | rfl | rfl | rfl | rfl | rfl
    · rw [w0 1 hi (st_f s0 (by decide))]; omega
    · rw [w1 2 hi s0 (st_f s1 (by decide))]; omega
    · rw [w0 3 hi (st_f s0 (by decide))]; omega
    · rw [w0 4 hi (st_f s0 (by decide))]; omega
    · rw [w0 5 hi (st_f s0 (by decide))]; omega
    · rw [w0 6 hi (st_f s0 (by decide))]; omega
  rw [if_neg h1]
  by_cases h2 : beC U n q 0 = 99 ∧ beC U n q 1 = 108
  · rw [if_pos h2]
    have s0 := (b0 99 (by decide)).mp h2.1
    have s1 := (b1 108 (by decide)).mp h2.2
    have g0 := wg 6 (by omega) s0
    refine fin 6 (by omega) (fun i hi hne => ?_)
    rcases (show i = 0 ∨ i = 1 ∨ i = 2 ∨ i = 3 ∨ i = 4 ∨ i = 5 by omega) with rfl | rfl | rfl | rfl | rfl | rfl
    · rw [w0 0 hi (st_f s0 (by decide))]; omega
    · rw [w0 1 hi (st_f s0 (by decide))]; omega
    · rw [w0 2 hi (st_f s0 (by decide))]; omega
    · rw [w1 3 hi s0 (st_f s1 (by decide))]; omega
    · rw [w0 4 hi (st_f s0 (by decide))]; omega
    · rw [w0 5 hi (st_f s0 (by decide))]; omega
  rw [if_neg h2]
  by_cases h3 : beC U n q 0 = 98
  · rw [if_pos h3]
    have s0 := (b0 98 (by decide)).mp h3
    refine fin 1 (by omega) (fun i hi hne => ?_)
    rcases (show i = 0 ∨ i = 2 ∨ i = 3 ∨ i = 4 ∨ i = 5 ∨ i = 6 by omega) with rfl | rfl | rfl | rfl | rfl | rfl <;> rw [w0 _ hi (st_f s0 (by decide))] <;> omega
  rw [if_neg h3]
  by_cases h4 : beC U n q 0 = 115
  · rw [if_pos h4]
    have s0 := (b0 115 (by decide)).mp h4
    have s1 : stB L (q + 1) 116 = false := Bool.of_not_eq_true fun e => h1 ⟨h4, (b1 116 (by decide)).mpr e⟩
    have g0 := wg 2 (by omega) s0
    refine fin 2 (by omega) (fun i hi hne => ?_)
    rcases (show i = 0 ∨ i = 1 ∨ i = 3 ∨ i = 4 ∨ i = 5 ∨ i = 6 by omega) with rfl | rfl | rfl | rfl | rfl | rfl
    · rw [w1 0 hi s0 s1]; omega
    all_goals (rw [w0 _ hi (st_f s0 (by decide))]; omega)
  rw [if_neg h4]
  by_cases h5 : beC U n q 0 = 99
  · rw [if_pos h5]
    have s0 := (b0 99 (by decide)).mp h5
    have s1 : stB L (q + 1) 108 = false := Bool.of_not_eq_true fun e => h2 ⟨h5, (b1 108 (by decide)).mpr e⟩
    have g0 := wg 3 (by omega) s0
    refine fin 3 (by omega) (fun i hi hne => ?_)
    rcases (show i = 6 ∨ i = 0 ∨ i = 1 ∨ i = 2 ∨ i = 4 ∨ i = 5 by omega) with rfl | rfl | rfl | rfl | rfl | rfl
    · rw [w1 6 hi s0 s1]; omega
    all_goals (rw [w0 _ hi (st_f s0 (by decide))]; omega)
  rw [if_neg h5]
  by_cases h6 : beC U n q 0 = 112
  · rw [if_pos h6]
    have s0 := (b0 112 (by decide)).mp h6
    refine fin 4 (by omega) (fun i hi hne => ?_)
    rcases (show i = 0 ∨ i = 1 ∨ i = 2 ∨ i = 3 ∨ i = 5 ∨ i = 6 by omega) with rfl | rfl | rfl | rfl | rfl | rfl <;> rw [w0 _ hi (st_f s0 (by decide))] <;> omega
  rw [if_neg h6]
  have z : ∀ ch : Int32, ch ≠ -1 → beC U n q 0 ≠ ch → stB L q ch = false := fun ch hc e => Bool.of_not_eq_true fun a => e ((b0 ch hc).mpr a)
  refine fin 5 (by omega) (fun i hi hne => ?_)
  rcases (show i = 0 ∨ i = 1 ∨ i = 2 ∨ i = 3 ∨ i = 4 ∨ i = 6 by omega) with rfl | rfl | rfl | rfl | rfl | rfl
  · rw [w0 _ hi (z _ (by decide) h4)]; omega
  · rw [w0 _ hi (z _ (by decide) h3)]; omega
  · rw [w0 _ hi (z _ (by decide) h4)]; omega
  · rw [w0 _ hi (z _ (by decide) h5)]; omega
  · rw [w0 _ hi (z _ (by decide) h6)]; omega
  · rw [w0 _ hi (z _ (by decide) h5)]; omega
