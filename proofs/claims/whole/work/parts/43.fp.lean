/-! whole numbers divided as doubles: never NaN -/
theorem fp_log {A : Nat} (h : A ≠ 0) : 2 ^ A.log2 ≤ A ∧ A < 2 ^ (A.log2 + 1) := ⟨Nat.log2_self_le h, Nat.lt_log2_self⟩
theorem fp_leading {A : Nat} (h : A ≠ 0) : FP.Core.leading A 1 = (A.log2 : Int) := by
  unfold FP.Core.leading
  have h1 : Nat.log2 1 = 0 := by decide
  have h2 := (fp_log h).1
  simp only [h1]
  rw [if_pos]
  · omega
  · have e1 : ((A.log2 : Int) - ((0 : Nat) : Int)).toNat = A.log2 := by omega
    have e2 : (-((A.log2 : Int) - ((0 : Nat) : Int))).toNat = 0 := by omega
    rw [e1, e2]
    omega
theorem fp_near1 (N : Nat) : FP.Core.nearest N 1 = N := by
  unfold FP.Core.nearest
  rw [if_pos (by omega)]
  omega
/-- a whole number but 0, rounded: its first digit stands -/
theorem fp_round {s : Bool} {A : Nat} (h : A ≠ 0) (hA : A < 2 ^ 32) : ∃ c q, FP.Core.roundRatio FP.Core.b64 s A 1 0 = .fin s c q ∧ 2 ^ 52 ≤ c ∧ c < 2 ^ 53 ∧ -52 ≤ q ∧ q ≤ 0 := by
  have hl : A.log2 ≤ 31 := by
    have := (Nat.log2_lt h (k := 32)).mpr hA
    omega
  have hq : FP.Core.quantum FP.Core.b64 A 1 0 = (A.log2 : Int) - 52 := by
    unfold FP.Core.quantum
    rw [fp_leading h]
    have e1 : FP.Core.b64.qmin = -1074 := by decide
    have e2 : ((FP.Core.b64.p : Nat) : Int) = 53 := by decide
    rw [e1, e2]
    omega
  have hu : FP.Core.unitsNum A 0 ((A.log2 : Int) - 52) = A * 2 ^ (52 - A.log2) := by
    unfold FP.Core.unitsNum
    congr 2
    omega
  have hd : FP.Core.unitsDen 1 0 ((A.log2 : Int) - 52) = 1 := by
    unfold FP.Core.unitsDen
    have : ((A.log2 : Int) - 52 - 0).toNat = 0 := by omega
    rw [this]
  obtain ⟨l1, l2⟩ := fp_log h
  have c1 : 2 ^ 52 ≤ A * 2 ^ (52 - A.log2) := by
    have : 2 ^ A.log2 * 2 ^ (52 - A.log2) ≤ A * 2 ^ (52 - A.log2) := Nat.mul_le_mul_right _ l1
    rwa [← Nat.pow_add, show A.log2 + (52 - A.log2) = 52 by omega] at this
  have c2 : A * 2 ^ (52 - A.log2) < 2 ^ 53 := by
    have : A * 2 ^ (52 - A.log2) < 2 ^ (A.log2 + 1) * 2 ^ (52 - A.log2) := Nat.mul_lt_mul_of_pos_right l2 (Nat.two_pow_pos _)
    rwa [← Nat.pow_add, show A.log2 + 1 + (52 - A.log2) = 53 by omega] at this
  refine ⟨A * 2 ^ (52 - A.log2), (A.log2 : Int) - 52, ?_, c1, c2, by omega, by omega⟩
  unfold FP.Core.roundRatio
  rw [if_neg h, hq]
  unfold FP.Core.roundAt
  rw [hu, hd, fp_near1]
  unfold FP.Core.settle
  rw [if_pos (show A * 2 ^ (52 - A.log2) < 2 ^ FP.Core.b64.p from c2)]
  unfold FP.Core.bound
  rw [if_pos]
  have : FP.Core.b64.qmax = 971 := by decide
  omega
theorem fp_dec {s : Bool} {e t : Nat} (he1 : 1 ≤ e) (he2 : e < 2047) (ht : t < 2 ^ 52) : ∃ s' c q, FP.Core.decode FP.Core.b64 (FP.Core.assemble FP.Core.b64 s e t) = .fin s' c q ∧ 2 ^ 52 ≤ c := by
  have hT : FP.Core.b64.tails = 4503599627370496 := by decide
  have hE : FP.Core.b64.exps = 2048 := by decide
  have h52 : (2 : Nat) ^ 52 = 4503599627370496 := by decide
  have e1 : FP.Core.fieldE FP.Core.b64 (FP.Core.assemble FP.Core.b64 s e t) = e := by
    unfold FP.Core.fieldE FP.Core.assemble
    rw [hT, hE]
    have : ((s.toNat * 2048 + e) * 4503599627370496 + t) / 4503599627370496 = s.toNat * 2048 + e := by omega
    rw [this]
    omega
  unfold FP.Core.decode
  rw [e1, hE, if_neg (by omega), if_neg (by omega)]
  exact ⟨_, _, _, rfl, by rw [hT, h52]; exact Nat.le_add_right _ _⟩
theorem fp_i2d (x : Int32) : ∃ s c q, FP.Core.decode FP.Core.b64 (FP.i2d x).toNat = .fin s c q ∧ (x ≠ 0 → c ≠ 0) := by
  have hT : FP.Core.b64.tails = 4503599627370496 := by decide
  have hE : FP.Core.b64.exps = 2048 := by decide
  by_cases hx : x = 0
  · subst hx
    exact ⟨_, _, _, (by decide +kernel : FP.Core.decode FP.Core.b64 (FP.i2d 0).toNat = .fin false 0 (-1074)), fun h => absurd rfl h⟩
  · have hA : x.toInt.natAbs ≠ 0 := fun h => hx (Int32.toInt_inj.mp (by rw [Int32.toInt_zero]; omega))
    have hb : x.toInt.natAbs < 2 ^ 32 := by
      have h1 := Int32.toInt_lt x
      have h2 := Int32.le_toInt x
      omega
    obtain ⟨c, q, hr, h1, h2, h3, h4⟩ := fp_round (s := decide (x.toInt < 0)) hA hb
    have hm : FP.Core.b64.qmin = -1074 := by decide
    have hv : (FP.i2d x).toNat = FP.Core.assemble FP.Core.b64 (decide (x.toInt < 0)) ((q + 1074).toNat + 1) (c - 4503599627370496) := by
      show (UInt64.ofNat (FP.Core.encode FP.Core.b64 (FP.Core.roundRatio FP.Core.b64 (decide (x.toInt < 0)) x.toInt.natAbs 1 0))).toNat = _
      rw [hr]
      unfold FP.Core.encode
      simp only []
      rw [if_neg (by rw [hT]; omega), hT, hm, UInt64.toNat_ofNat_of_lt']
      · rw [show q - -1074 = q + 1074 by omega]
      · unfold FP.Core.assemble
        rw [hT, hE]
        have hs : (decide (x.toInt < 0)).toNat ≤ 1 := by cases decide (x.toInt < 0) <;> decide
        have : UInt64.size = 18446744073709551616 := by decide
        rw [this]
        omega
    obtain ⟨s', c', q', hd, hc⟩ := @fp_dec (decide (x.toInt < 0)) ((q + 1074).toNat + 1) (c - 4503599627370496) (by omega) (by omega) (by omega)
    exact ⟨s', c', q', by rw [hv]; exact hd, fun _ => by omega⟩
theorem fp_enc {s : Bool} {c : Nat} {q : Int} (hc : c < 2 ^ 53) (hq : q ≤ 971) : FP.Core.encode FP.Core.b64 (.fin s c q) % 2 ^ 63 ≤ 9218868437227405312 ∧ FP.Core.encode FP.Core.b64 (.fin s c q) < 2 ^ 64 := by
  have hT : FP.Core.b64.tails = 4503599627370496 := by decide
  have hE : FP.Core.b64.exps = 2048 := by decide
  have hm : FP.Core.b64.qmin = -1074 := by decide
  have hs : s.toNat ≤ 1 := by cases s <;> decide
  unfold FP.Core.encode
  simp only []
  split
  · unfold FP.Core.assemble
    rw [hT, hE]
    rename_i h
    rw [hT] at h
    omega
  · unfold FP.Core.assemble
    rename_i h
    rw [hT] at h
    rw [hT, hE, hm]
    omega
theorem fp_inf (s : Bool) : FP.Core.encode FP.Core.b64 (.inf s) % 2 ^ 63 ≤ 9218868437227405312 ∧ FP.Core.encode FP.Core.b64 (.inf s) < 2 ^ 64 := by cases s <;> decide
theorem fp_rr (s : Bool) (A B : Nat) (e : Int) : FP.Core.encode FP.Core.b64 (FP.Core.roundRatio FP.Core.b64 s A B e) % 2 ^ 63 ≤ 9218868437227405312 ∧ FP.Core.encode FP.Core.b64 (FP.Core.roundRatio FP.Core.b64 s A B e) < 2 ^ 64 := by
  have hT : FP.Core.b64.tails = 4503599627370496 := by decide
  have hm : FP.Core.b64.qmin = -1074 := by decide
  have hM : FP.Core.b64.qmax = 971 := by decide
  unfold FP.Core.roundRatio
  split
  · exact fp_enc (by omega) (by omega)
  · unfold FP.Core.roundAt FP.Core.settle FP.Core.bound
    split
    · split
      · exact fp_enc (by assumption) (by omega)
      · exact fp_inf s
    · split
      · exact fp_enc (by omega) (by omega)
      · exact fp_inf s
theorem fp_n64 {n : Nat} (h : n % 2 ^ 63 ≤ 9218868437227405312 ∧ n < 2 ^ 64) : vf_n64 (UInt64.ofNat n) := by
  unfold vf_n64
  rw [UInt64.le_iff_toNat_le, UInt64.toNat_and, UInt64.toNat_ofNat_of_lt' (by have : UInt64.size = 18446744073709551616 := (by decide); omega)]
  have e1 : (9223372036854775807 : UInt64).toNat = 2 ^ 63 - 1 := by decide
  have e2 : (9218868437227405312 : UInt64).toNat = 9218868437227405312 := by decide
  rw [e1, e2, Nat.and_two_pow_sub_one_eq_mod]
  exact h.1
/-- the mean's quotient is a number -/
theorem fp_ddiv (x y : Int32) (hy : y ≠ 0) : vf_n64 (FP.ddiv (FP.i2d x) (FP.i2d y)) := by
  obtain ⟨s, c, q, h1, -⟩ := fp_i2d x
  obtain ⟨t, d, r, h2, h3⟩ := fp_i2d y
  show vf_n64 (UInt64.ofNat (FP.Core.encode FP.Core.b64 (FP.Core.quotient FP.Core.b64 (FP.Core.decode FP.Core.b64 (FP.i2d x).toNat) (FP.Core.decode FP.Core.b64 (FP.i2d y).toNat))))
  rw [h1, h2]
  unfold FP.Core.quotient
  simp only []
  rw [if_neg (h3 hy)]
  exact fp_n64 (fp_rr _ _ _ _)
theorem fp_fdiv : ∀ a b : Nat, a < 21 → b < 21 → 0 < b → vf_n32 (FP.fdiv (FP.i2f (nI a)) (FP.i2f (nI b))) ∧ vf_n64 (FP.f2d (FP.fdiv (FP.i2f (nI a)) (FP.i2f (nI b)))) := by
  have key : ∀ a : Fin 21, ∀ b : Fin 21, 0 < b.val → (FP.fdiv (FP.i2f (nI a.val)) (FP.i2f (nI b.val)) &&& 0x7fffffff ≤ 0x7f800000) ∧ (FP.f2d (FP.fdiv (FP.i2f (nI a.val)) (FP.i2f (nI b.val))) &&& 0x7fffffffffffffff ≤ 0x7ff0000000000000) := by decide +kernel
  intro a b ha hb h0
  exact key ⟨a, ha⟩ ⟨b, hb⟩ h0
