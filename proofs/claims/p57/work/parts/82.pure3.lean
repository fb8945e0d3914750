/-! An order taken out: rmS as drF -/
theorem Rl.rm {S : SV} {f : Nat → Int32} (h : Rl S f) (hf : okF f) {j : Nat} (hj : j < nF f) : Rl (rmS S (nO S) j) (drF f (nF f) j) := by
  have h20 := hf.2.1
  have e1 : nF (drF f (nF f) j) = nF f - 1 := by
    unfold nF
    rw [dr_1, nI_clamp (by have := hf.2.1; unfold nF at this; omega)]
  have e0 : tF (drF f (nF f) j) = tF f := by unfold tF; rw [dr_lo (by omega) (by omega)]
  have lo : ∀ k, k < 21 → k ≠ 1 → drF f (nF f) j k = f k := fun k h1 h2 => dr_lo (by omega) h2
  rw [h.n]
  refine ⟨⟨?_, ?_, ?_, ?_, ?_, ?_, ?_, ?_⟩, ?_, fun i hi => ?_, fun k hk i hi => ?_⟩
  · rw [lo 0 (by omega) (by omega)]; exact h.1.1
  · rw [dr_1]; rfl
  · rw [lo 4 (by omega) (by omega)]; exact h.1.2.2.1
  · rw [lo 3 (by omega) (by omega)]; exact h.1.2.2.2.1
  · rw [lo 2 (by omega) (by omega)]; exact h.1.2.2.2.2.1
  · rw [lo 5 (by omega) (by omega)]; exact h.1.2.2.2.2.2.1
  · rw [lo 6 (by omega) (by omega)]; exact h.1.2.2.2.2.2.2.1
  · rw [lo 7 (by omega) (by omega)]; exact h.1.2.2.2.2.2.2.2
  · rw [lo 8 (by omega) (by omega)]; exact h.2.1
  · rw [e0]
    have h1 := h.2.2.1 i hi
    show S.2.1 0 i = _ ∧ S.2.1 1 i = _
    have s0 : sF (drF f (nF f) j) i 0 = sF f i 0 := lo _ (by omega) (by omega)
    have s1 : sF (drF f (nF f) j) i 1 = sF f i 1 := lo _ (by omega) (by omega)
    rw [s0, s1]
    exact h1
  · rw [e1] at hk
    rw [dr_of hk hi]
    have g : (rmS S (nF f) j).2.1 (2 + i) = rgap 20 (S.2.1 (2 + i)) j := by
      rcases (show i = 0 ∨ i = 1 ∨ i = 2 ∨ i = 3 ∨ i = 4 ∨ i = 5 by omega) with rfl | rfl | rfl | rfl | rfl | rfl <;> rfl
    rw [g]
    by_cases l : k < j
    · rw [if_pos l, ← h.2.2.2 k (by omega) i hi]
      show (if k < j ∨ 20 ≤ k then _ else _) = _
      rw [if_pos (Or.inl l)]
    · rw [if_neg l, ← h.2.2.2 (k + 1) (by omega) i hi]
      show (if k < j ∨ 20 ≤ k then _ else if k + 1 = 20 then _ else _) = _
      rw [if_neg (by omega), if_neg (by omega)]
