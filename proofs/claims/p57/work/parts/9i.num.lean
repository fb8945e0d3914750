/-! The law: rows of drawn numbers -/
theorem u_nI (u : UInt32) : u.toInt32 = nI u.toNat := by
  show _ = Int32.ofNat _
  rw [show Int32.ofNat u.toNat = (UInt32.ofNat u.toNat).toInt32 from rfl, UInt32.ofNat_toNat]
theorem u_shr (u : UInt32) {n : Nat} (h0 : 0 < n) (hn : n < 32) : (u >>> UInt32.ofNat n).toNat < 2 ^ 31 := by
  have e : (UInt32.ofNat n).toNat = n := by
    rw [UInt32.toNat_ofNat']
    exact Nat.mod_eq_of_lt (by omega)
  rw [UInt32.toNat_shiftRight, e, Nat.mod_eq_of_lt hn, Nat.shiftRight_eq_div_pow]
  have h2 : 2 ≤ 2 ^ n := by
    obtain ⟨k, rfl⟩ : ∃ k, n = k + 1 := ⟨n - 1, by omega⟩
    rw [Nat.pow_succ]
    have := Nat.one_le_two_pow (n := k)
    omega
  have hu : u.toNat < 2 ^ 32 := u.toNat_lt
  have : u.toNat / 2 ^ n ≤ u.toNat / 2 := Nat.div_le_div_left h2 (by decide)
  omega
section NUMROWS
variable {p : Program} {l : Launch} {e : Env} {R : Room} {s : State} {m : MethodId} {args : Array Value} {below : List Frame} {meth : Method} {c : Code} {H : Heap} {locs : List Loc} {cells slots : Nat} {Q : State → Prop}
variable {G : Gx} {own : String} {cc : ByteArray} {nL : Nat} {ret : Option FieldType} {pc : Nat} {ls : Array Slot} {rest st : List Value} {w : va_W}
theorem lx_ush (C : Cx l G own cc nL ret p s m meth c args) {x y : Int32} (n : Nat) (hy : y.toUInt32 &&& Int32.toUInt32 31 = UInt32.ofNat n) (h0 : 0 < n) (hn : n < 32) (hdg : decode cc pc = .ok (.iushr, 1))
    (kk : ∀ a : Nat, a < 2 ^ 31 → W p l e R s m args below meth c H locs cells slots Q (F0 m (pc + 1) ls (.int (nI a) :: rest))) : W p l e R s m args below meth c H locs cells slots Q (F0 m pc ls (.int y :: .int x :: rest)) := by
  refine lv_iushr (v := nI (x.toUInt32 >>> UInt32.ofNat n).toNat) C.1 C.2.1 hdg (by rw [hy]; exact u_nI _) ?_
  exact kk _ (u_shr _ h0 hn)
theorem lx_rem (C : Cx l G own cc nL ret p s m meth c args) {y : Int32} {a d : Nat} (hy : y = nI d) (ha : a < 2 ^ 31) (h0 : 0 < d) (hd : d < 2 ^ 31) (hdg : decode cc pc = .ok (.irem, 1))
    (kk : W p l e R s m args below meth c H locs cells slots Q (F0 m (pc + 1) ls (.int (nI (a % d)) :: rest))) : W p l e R s m args below meth c H locs cells slots Q (F0 m pc ls (.int y :: .int (nI a) :: rest)) := by
  subst hy
  refine lv_irem C.1 C.2.1 hdg (fun q => ?_) ?_
  · have q := congrArg Int32.toInt q
    rw [i_nI hd, i_0] at q
    omega
  · rw [pk_rem ha h0 hd]
    exact kk
end NUMROWS
/-- a number between two -/
theorem n_inR {a lo hi : Nat} (h : lo ≤ a ∧ a ≤ hi) (hh : hi < 2 ^ 31) : inR (nI a) (nI lo) (nI hi) = true := by
  rw [inR_i, i_nI (by omega), i_nI (by omega), i_nI hh]
  omega
