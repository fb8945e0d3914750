/-! Orders: found by their numbers; the same fault on both sides -/
theorem fnd_lst {p q : Nat → Bool} : ∀ {n : Nat}, (∀ k, k < n → p k = q k) → (∀ i j, i < n → j < n → q i = true → q j = true → i = j) → fnd p n = lst q n
  | 0, _, _ => rfl
  | n + 1, h, hu => by
    have ih := fnd_lst (n := n) (fun k hk => h k (by omega)) (fun i j hi hj => hu i j (by omega) (by omega))
    show (match fnd p n with | some k => some k | none => if p n = true then some n else none) = (if q n = true then some n else lst q n)
    rw [ih, h n (by omega)]
    by_cases hq : q n = true
    · rw [if_pos hq, if_pos hq]
      cases hl : lst q n with
      | none => rfl
      | some j =>
        have h1 := lst_lt hl
        have h2 := hu j n (by omega) (by omega) h1.2 hq
        omega
    · rw [if_neg hq, if_neg hq]
      cases lst q n <;> rfl
theorem Rl.slot {S : SV} {f : Nat → Int32} (h : Rl S f) (hu : ∀ i j, i < nF f → j < nF f → oF f i 0 = oF f j 0 → i = j) (x : Int32) : slotF S x (nO S) = plF f x (nF f) := by
  rw [h.n]
  refine fnd_lst (fun k hk => by rw [h.num hk]) (fun i j hi hj h1 h2 => hu i j hi hj ?_)
  rw [of_decide_eq_true h1, of_decide_eq_true h2]
theorem isF_has {f : Nat → Int32} (hf : okF f) (x : Int32) : hasN x (tF f) = isF f x := by
  have h6 := hf.2.2.2.1
  have h1 : (f 0 - 1).toInt = (tF f : Int) - 1 := by
    rw [hf.2.2.1]
    generalize tF f = t at h6
    rcases (show t = 0 ∨ t = 1 ∨ t = 2 ∨ t = 3 ∨ t = 4 ∨ t = 5 ∨ t = 6 by omega) with rfl | rfl | rfl | rfl | rfl | rfl | rfl <;> decide
  unfold hasN isF inR
  rw [← decide_not, ← decide_not, ← Bool.decide_and]
  refine decide_eq_decide.mpr ?_
  rw [Int32.lt_iff_toInt_lt, Int32.lt_iff_toInt_lt, h1, show (0 : Int32).toInt = 0 by decide]
  omega
theorem Rl.ord {S : SV} {f : Nat → Int32} (h : Rl S f) (hf : okF f) (x : Int32) (b : Bool) (pr q mi : Int32) :
    opC f x b pr q mi = nI (ordF S b x pr q (decide (mi ≤ 60)) (if mi = -1 then decide (f 4 = 1) else decide (f 1 = 20))) := by
  have h6 := hf.2.2.2.1
  unfold opC ordF
  rw [h.t, isF_has hf]
  by_cases h1 : isF f x = false
  · rw [if_pos h1, if_pos h1]; decide
  · rw [if_neg h1, if_neg h1]
    by_cases h2 : (inR pr 1 99 && inR q 1 50 && decide (mi ≤ 60)) = false
    · rw [if_pos h2, if_pos h2]; decide
    · rw [if_neg h2, if_neg h2]
      by_cases h3 : (if mi = -1 then decide (f 4 = 1) else decide (f 1 = 20)) = true
      · rw [if_pos h3, if_pos h3]; decide
      · rw [if_neg h3, if_neg h3]
        obtain ⟨i, hi, rfl⟩ := hasN_of (n := tF f) (x := x) (by rw [isF_has hf]; simpa using h1) (by omega)
        rw [nI_clamp (by omega)]
        cases b
        · rw [h.frD hf hi]
          show (if decide (fqR f i false (nF f) < q) = true then (4 : Int32) else 0) = nI (if fqR f i false (nF f) < q then 4 else 0)
          by_cases h4 : fqR f i false (nF f) < q
          · rw [if_pos (decide_eq_true h4), if_pos h4]; decide
          · rw [if_neg (by simpa using h4), if_neg h4]; decide
        · rw [h.frM hf hi, if_pos rfl, if_pos rfl]
          by_cases h4 : fqR f i true (nF f) < pr * q
          · rw [if_pos (decide_eq_true h4), if_pos h4]; decide
          · rw [if_neg (by simpa using h4), if_neg h4]; decide
