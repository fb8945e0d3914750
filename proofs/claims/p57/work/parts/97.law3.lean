/-! The law: the market's world in the order that a contract wants -/
theorem Sm.ok {c : Int} {D : CD} {U : MV_} (h : Sm c D U) : okS D.S := h.rl.ok h.iz.1.1
theorem Sm.okf {c : Int} {D : CD} {U : MV_} (h : Sm c D U) : okF (U.2 0) := h.iz.1.1
theorem Sm.b2 {c : Int} {D : CD} {U : MV_} (h : Sm c D U) : isB (D.S.1 2) := by rw [h.rl.1.2.2.1]; exact h.iz.2.1
theorem Sm.vb2 {c : Int} {D : CD} {U : MV_} (h : Sm c D U) : D.dp ≠ 0 → isB ((D.V D.nw).1 2) := fun e => by
  have p0 := h.ps 0 (by omega)
  rw [rgI_0 h.nw] at p0
  rw [p0.1.1.2.2.1]
  exact p0.2.2.1
theorem pw_E (S O H U B N T C L Z : va_W) : List.Perm (S ++ (O ++ (H ++ (U ++ (B ++ (N ++ (T ++ (C ++ (L ++ Z))))))))) (S ++ (O ++ (U ++ (H ++ (B ++ (N ++ (T ++ (C ++ (L ++ Z))))))))) :=
  (((List.perm_append_comm_assoc _ _ _).append_left _).append_left _)
theorem pw_F (S O H U B N T C L Z : va_W) : List.Perm (S ++ (O ++ (H ++ (U ++ (B ++ (N ++ (T ++ (C ++ (L ++ Z))))))))) (S ++ (O ++ (L ++ (H ++ (U ++ (B ++ (N ++ (T ++ (C ++ Z))))))))) :=
  (((((((((((((List.perm_append_comm_assoc _ _ _).append_left _).trans (List.perm_append_comm_assoc _ _ _)).append_left _).trans (List.perm_append_comm_assoc _ _ _)).append_left _).trans (List.perm_append_comm_assoc _ _ _)).append_left _).trans (List.perm_append_comm_assoc _ _ _)).append_left _).trans (List.perm_append_comm_assoc _ _ _)).append_left _).append_left _)
theorem pw_G (S O H U B N T C L Z : va_W) : List.Perm (S ++ (O ++ (H ++ (U ++ (B ++ (N ++ (T ++ (C ++ (L ++ Z))))))))) (T ++ (C ++ (O ++ (S ++ (H ++ (U ++ (B ++ (N ++ (L ++ Z))))))))) :=
  (((((((((((((List.perm_append_comm_assoc _ _ _).append_left _).trans (List.perm_append_comm_assoc _ _ _)).append_left _).trans (List.perm_append_comm_assoc _ _ _)).append_left _).trans (List.perm_append_comm_assoc _ _ _)).append_left _).trans (List.perm_append_comm_assoc _ _ _)).append_left _).trans (List.perm_append_comm_assoc _ _ _))).trans ((((((((((((List.perm_append_comm_assoc _ _ _).append_left _).trans (List.perm_append_comm_assoc _ _ _)).append_left _).trans (List.perm_append_comm_assoc _ _ _)).append_left _).trans (List.perm_append_comm_assoc _ _ _)).append_left _).trans (List.perm_append_comm_assoc _ _ _)).append_left _).trans (List.perm_append_comm_assoc _ _ _)).append_left _)).trans (((List.perm_append_comm_assoc _ _ _).append_left _).append_left _)
theorem pw_X (S O H U B N T C L Z : va_W) : List.Perm (S ++ (O ++ (H ++ (U ++ (B ++ (N ++ (T ++ (C ++ (L ++ Z))))))))) (T ++ (C ++ (S ++ (O ++ (B ++ (H ++ (U ++ (N ++ (L ++ Z))))))))) :=
  (((((((((((((List.perm_append_comm_assoc _ _ _).append_left _).trans (List.perm_append_comm_assoc _ _ _)).append_left _).trans (List.perm_append_comm_assoc _ _ _)).append_left _).trans (List.perm_append_comm_assoc _ _ _)).append_left _).trans (List.perm_append_comm_assoc _ _ _)).append_left _).trans (List.perm_append_comm_assoc _ _ _))).trans ((((((((((((List.perm_append_comm_assoc _ _ _).append_left _).trans (List.perm_append_comm_assoc _ _ _)).append_left _).trans (List.perm_append_comm_assoc _ _ _)).append_left _).trans (List.perm_append_comm_assoc _ _ _)).append_left _).trans (List.perm_append_comm_assoc _ _ _)).append_left _).trans (List.perm_append_comm_assoc _ _ _)).append_left _)).trans (((((((List.perm_append_comm_assoc _ _ _).append_left _).trans (List.perm_append_comm_assoc _ _ _)).append_left _).append_left _).append_left _).append_left _)
abbrev uwA (G : Gx) (K r : Nat → Nat → Nat) (D : CD) (X : va_W) : va_W := hiW G (K 3) r D.V (nI D.nw) (nI D.dp) ++ (suW G (K 4) D.f D.g ++ (stW G (K 1) D.B ++ (stW G (K 2) D.N ++ (sbY G (K 5 1) D.ut D.LT ++ (ctC G (K 5) D.vb (nI D.p0) D.gp ++ (sbY G (K 6 0) D.ul D.LL ++ X))))))
abbrev uwB (G : Gx) (K r : Nat → Nat → Nat) (D : CD) (X : va_W) : va_W := suW G (K 4) D.f D.g ++ (stW G (K 1) D.B ++ (stW G (K 2) D.N ++ (sbY G (K 5 1) D.ut D.LT ++ (ctC G (K 5) D.vb (nI D.p0) D.gp ++ (sbY G (K 6 0) D.ul D.LL ++ X)))))
abbrev uwE (G : Gx) (K r : Nat → Nat → Nat) (D : CD) (X : va_W) : va_W := hiW G (K 3) r D.V (nI D.nw) (nI D.dp) ++ (stW G (K 1) D.B ++ (stW G (K 2) D.N ++ (sbY G (K 5 1) D.ut D.LT ++ (ctC G (K 5) D.vb (nI D.p0) D.gp ++ (sbY G (K 6 0) D.ul D.LL ++ X)))))
abbrev uwF (G : Gx) (K r : Nat → Nat → Nat) (D : CD) (X : va_W) : va_W := hiW G (K 3) r D.V (nI D.nw) (nI D.dp) ++ (suW G (K 4) D.f D.g ++ (stW G (K 1) D.B ++ (stW G (K 2) D.N ++ (sbY G (K 5 1) D.ut D.LT ++ (ctC G (K 5) D.vb (nI D.p0) D.gp ++ X)))))
abbrev uwG (G : Gx) (K r : Nat → Nat → Nat) (D : CD) (X : va_W) : va_W := stW G (K 0) D.S ++ (hiW G (K 3) r D.V (nI D.nw) (nI D.dp) ++ (suW G (K 4) D.f D.g ++ (stW G (K 1) D.B ++ (stW G (K 2) D.N ++ (sbY G (K 6 0) D.ul D.LL ++ X)))))
abbrev uwX (G : Gx) (K r : Nat → Nat → Nat) (D : CD) (X : va_W) : va_W := suW G (K 4) D.f D.g ++ (stW G (K 2) D.N ++ (sbY G (K 6 0) D.ul D.LL ++ X))
/-- the sums gathered anew -/
abbrev CD.sg (D : CD) : CD := (cdm D.S D.B D.N D.V D.nw D.dp (guR D.S D.f D.g (nO D.S)).1 (guR D.S D.f D.g (nO D.S)).2 D.ut D.LT D.vb D.p0 D.gp D.ul D.LL D.F)
