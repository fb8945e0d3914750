/-! What each call of the law comes to, on both sides -/
theorem stF_v {S : SV} {x y : Int32} : stF S x y = 0 ∨ stF S x y = 2 ∨ stF S x y = 3 := by
  unfold stF
  split
  · split
    · exact Or.inr (Or.inr rfl)
    · exact Or.inl rfl
  · exact Or.inr (Or.inl rfl)
theorem ordF_v {S : SV} {b : Bool} {x pr q : Int32} {mf hi : Bool} : ordF S b x pr q mf hi ≤ 4 := by
  unfold ordF
  repeat' split
  all_goals decide
theorem pasF_v {S : SV} {x : Int32} : pasF S x = 0 ∨ pasF S x = 2 := by
  unfold pasF
  split
  · exact Or.inl rfl
  · exact Or.inr rfl
theorem opnF_v {S : SV} : opnF S = 0 ∨ opnF S = 3 := by
  unfold opnF
  split
  · exact Or.inl rfl
  · exact Or.inr rfl
theorem cloF_v {S : SV} : cloF S = 0 ∨ cloF S = 3 := by
  unfold cloF
  split
  · exact Or.inr rfl
  · exact Or.inl rfl
theorem pl_cast {d : Int} {U : MV_} {k : Nat} {code : Int32} {S' : SV} {v : Int32} {M : MV_ × Int32} (h : OpR (d - 1 + 1) U k code S' v M) : OpR d U k code S' v M := by
  rw [Int.sub_add_cancel] at h
  exact h
theorem mfR_ok (x : Int32) : (inR x 1 60 = true ∧ mfR x = x ∧ 0 ≤ (mfR x).toInt ∧ (mfR x).toInt ≤ 60) ∨ (inR x 1 60 = false ∧ mfR x = 61) := by
  unfold mfR
  by_cases e : inR x 1 60 = true
  · rw [if_pos e]
    have e1 := e
    rw [inR_i, show (1 : Int32).toInt = 1 by decide, show (60 : Int32).toInt = 60 by decide] at e1
    exact Or.inl ⟨e, rfl, by omega, by omega⟩
  · rw [if_neg e]
    exact Or.inr ⟨Bool.of_not_eq_true e, rfl⟩
theorem Sm.pb {c : Int} {D : CD} {U : MV_} (h : Sm c D U) : D.S.1 2 = bI (decide (D.S.1 2 = 1)) := by
  rcases h.b2 with e | e <;> rw [e] <;> decide
theorem la_ok {c : Int} {D : CD} {U : MV_} (h : Sm c D U) : (D.S.1 6 = 0 → laB (U.2 0) = false) ∧ (D.S.1 6 ≠ 0 → laB (U.2 0) = true) := by
  have f6 := h.iz.2.2.2.2.1.2.1
  rw [h.rl.1.2.2.2.2.2.2.1]
  unfold laB
  refine ⟨fun e => by rw [e]; rfl, fun e => ?_⟩
  have : ¬ U.2 0 6 ≤ 0 := fun a => by
    rw [i_le, i_0] at a
    exact e (i_ext (by rw [i_0]; omega))
  rw [decide_eq_false this]
  rfl
theorem pp_ok {c : Int} {D : CD} {U : MV_} (h : Sm c D U) : (clP (U.2 0) = -1 → ppB (U.2 0) = false) ∧ (clP (U.2 0) ≠ -1 → ppB (U.2 0) = true) := by
  unfold ppB
  refine ⟨fun e => by rw [e]; rfl, fun e => ?_⟩
  rcases clP_of h.iz.1 with ⟨a, -⟩ | ⟨q, a1, a2, a3, -⟩
  · exact absurd a e
  · rw [a3, decide_eq_false (nI_pos (by omega))]
    rfl
theorem fin_addStall {c d : Int} {D : CD} {U : MV_} (h : Sm c D U) (hd : c + 60 ≤ d) (hd4 : d ≤ 40000) (x0 : Int32) (x1 : Int32) : (∀ (r : Int32) (u : Unit), (fun r _ => stF D.S x0 x1 = 0 ∧ r = nI (nT D.S)) r u → ((endU (asM (kpU U) x0 x1).1 D.dp, endA (asM (kpU U) x0 x1).1 (asM (kpU U) x0 x1).2)).1.1 2 = 0 ∧ ((endU (asM (kpU U) x0 x1).1 D.dp, endA (asM (kpU U) x0 x1).1 (asM (kpU U) x0 x1).2)).2 = r ∧ Sm d (D.mod (opS D.S (nT D.S) x0 x1)) ((endU (asM (kpU U) x0 x1).1 D.dp, endA (asM (kpU U) x0 x1).1 (asM (kpU U) x0 x1).2)).1) ∧ (∀ k1 : Nat, (fun k => k = (stF D.S x0 x1) ∧ (stF D.S x0 x1) ≠ 0) k1 → (k1 = 2 ∨ k1 = 3) ∧ (if k1 = 2 then 1 else (if k1 = 3 then 2 else 0)) = ((endU (asM (kpU U) x0 x1).1 D.dp, endA (asM (kpU U) x0 x1).1 (asM (kpU U) x0 x1).2)).1.1 2 ∧ Sm d (D) ((endU (asM (kpU U) x0 x1).1 D.dp, endA (asM (kpU U) x0 x1).1 (asM (kpU U) x0 x1).2)).1) := by
  obtain ⟨s1, s2⟩ := sim_mod h (show c ≤ d by omega) hd4 (op_as (U := kpU U) h.rl (h.iz.mono (show c ≤ d by omega) hd4) x0 x1)
  refine ⟨fun r u hp => ?_, fun k1 hp => ?_⟩
  · obtain ⟨p1, p2⟩ := hp
    obtain ⟨t1, t2, t3⟩ := s1 p1
    exact ⟨t1, t2.trans p2.symm, t3⟩
  · obtain ⟨p1, p2⟩ := hp
    obtain ⟨t1, t2⟩ := s2 p2
    have hv := stF_v (S := D.S) (x := x0) (y := x1)
    rw [← p1] at hv p2
    try rw [← p1] at t1
    refine ⟨by omega, ?_, t2⟩
    rw [t1]
    rcases hv with e | e | e
    · exact absurd e p2
    · rw [e]; rfl
    · rw [e]; rfl
theorem fin_placeBuy {c d : Int} {D : CD} {U : MV_} (h : Sm c D U) (hd : c + 60 ≤ d) (hd4 : d ≤ 40000) (x0 : Int32) (x1 : Int32) (x2 : Int32) : (∀ (r : Int32) (u : Unit), (fun r _ => ordF D.S true x0 x1 x2 true (decide (20 ≤ nO D.S)) = 0 ∧ r = D.S.1 4) r u → ((endU (opM (kpU U) x0 true x1 x2 0).1 D.dp, endA (opM (kpU U) x0 true x1 x2 0).1 (opM (kpU U) x0 true x1 x2 0).2)).1.1 2 = 0 ∧ ((endU (opM (kpU U) x0 true x1 x2 0).1 D.dp, endA (opM (kpU U) x0 true x1 x2 0).1 (opM (kpU U) x0 true x1 x2 0).2)).2 = r ∧ Sm d (D.mod (plS D.S true x0 x1 x2 0)) ((endU (opM (kpU U) x0 true x1 x2 0).1 D.dp, endA (opM (kpU U) x0 true x1 x2 0).1 (opM (kpU U) x0 true x1 x2 0).2)).1) ∧ (∀ k1 : Nat, (fun k => k = (ordF D.S true x0 x1 x2 true (decide (20 ≤ nO D.S))) ∧ (ordF D.S true x0 x1 x2 true (decide (20 ≤ nO D.S))) ≠ 0) k1 → (k1 = 1 ∨ k1 = 2 ∨ k1 = 3 ∨ k1 = 4) ∧ (if k1 = 1 then 1 else (if k1 = 2 then 2 else (if k1 = 3 then 3 else (if k1 = 4 then 4 else 0)))) = ((endU (opM (kpU U) x0 true x1 x2 0).1 D.dp, endA (opM (kpU U) x0 true x1 x2 0).1 (opM (kpU U) x0 true x1 x2 0).2)).1.1 2 ∧ Sm d (D) ((endU (opM (kpU U) x0 true x1 x2 0).1 D.dp, endA (opM (kpU U) x0 true x1 x2 0).1 (opM (kpU U) x0 true x1 x2 0).2)).1) := by
  obtain ⟨s1, s2⟩ := sim_mod h (show c ≤ d by omega) hd4 (pl_cast (op_pl (U := kpU U) h.rl (h.iz.mono (show c ≤ d - 1 by omega) (show d - 1 ≤ 40000 by omega)) (show d - 1 + 1 ≤ 40000 by omega) true x0 x1 x2 0 (mf := true) (m := 0) (Or.inl ⟨rfl, rfl, by decide, by decide⟩)))
  refine ⟨fun r u hp => ?_, fun k1 hp => ?_⟩
  · obtain ⟨p1, p2⟩ := hp
    obtain ⟨t1, t2, t3⟩ := s1 p1
    exact ⟨t1, t2.trans p2.symm, t3⟩
  · obtain ⟨p1, p2⟩ := hp
    obtain ⟨t1, t2⟩ := s2 p2
    have hv := ordF_v (S := D.S) (b := true) (x := x0) (pr := x1) (q := x2) (mf := true) (hi := decide (20 ≤ nO D.S))
    rw [← p1] at hv p2
    try rw [← p1] at t1
    refine ⟨by omega, ?_, t2⟩
    rw [t1]
    rcases (show k1 = 1 ∨ k1 = 2 ∨ k1 = 3 ∨ k1 = 4 by omega) with e | e | e | e <;> rw [e] <;> rfl
theorem fin_placeSell {c d : Int} {D : CD} {U : MV_} (h : Sm c D U) (hd : c + 60 ≤ d) (hd4 : d ≤ 40000) (x0 : Int32) (x1 : Int32) (x2 : Int32) : (∀ (r : Int32) (u : Unit), (fun r _ => ordF D.S false x0 x1 x2 true (decide (20 ≤ nO D.S)) = 0 ∧ r = D.S.1 4) r u → ((endU (opM (kpU U) x0 false x1 x2 0).1 D.dp, endA (opM (kpU U) x0 false x1 x2 0).1 (opM (kpU U) x0 false x1 x2 0).2)).1.1 2 = 0 ∧ ((endU (opM (kpU U) x0 false x1 x2 0).1 D.dp, endA (opM (kpU U) x0 false x1 x2 0).1 (opM (kpU U) x0 false x1 x2 0).2)).2 = r ∧ Sm d (D.mod (plS D.S false x0 x1 x2 0)) ((endU (opM (kpU U) x0 false x1 x2 0).1 D.dp, endA (opM (kpU U) x0 false x1 x2 0).1 (opM (kpU U) x0 false x1 x2 0).2)).1) ∧ (∀ k1 : Nat, (fun k => k = (ordF D.S false x0 x1 x2 true (decide (20 ≤ nO D.S))) ∧ (ordF D.S false x0 x1 x2 true (decide (20 ≤ nO D.S))) ≠ 0) k1 → (k1 = 1 ∨ k1 = 2 ∨ k1 = 3 ∨ k1 = 4) ∧ (if k1 = 1 then 1 else (if k1 = 2 then 2 else (if k1 = 3 then 3 else (if k1 = 4 then 4 else 0)))) = ((endU (opM (kpU U) x0 false x1 x2 0).1 D.dp, endA (opM (kpU U) x0 false x1 x2 0).1 (opM (kpU U) x0 false x1 x2 0).2)).1.1 2 ∧ Sm d (D) ((endU (opM (kpU U) x0 false x1 x2 0).1 D.dp, endA (opM (kpU U) x0 false x1 x2 0).1 (opM (kpU U) x0 false x1 x2 0).2)).1) := by
  obtain ⟨s1, s2⟩ := sim_mod h (show c ≤ d by omega) hd4 (pl_cast (op_pl (U := kpU U) h.rl (h.iz.mono (show c ≤ d - 1 by omega) (show d - 1 ≤ 40000 by omega)) (show d - 1 + 1 ≤ 40000 by omega) false x0 x1 x2 0 (mf := true) (m := 0) (Or.inl ⟨rfl, rfl, by decide, by decide⟩)))
  refine ⟨fun r u hp => ?_, fun k1 hp => ?_⟩
  · obtain ⟨p1, p2⟩ := hp
    obtain ⟨t1, t2, t3⟩ := s1 p1
    exact ⟨t1, t2.trans p2.symm, t3⟩
  · obtain ⟨p1, p2⟩ := hp
    obtain ⟨t1, t2⟩ := s2 p2
    have hv := ordF_v (S := D.S) (b := false) (x := x0) (pr := x1) (q := x2) (mf := true) (hi := decide (20 ≤ nO D.S))
    rw [← p1] at hv p2
    try rw [← p1] at t1
    refine ⟨by omega, ?_, t2⟩
    rw [t1]
    rcases (show k1 = 1 ∨ k1 = 2 ∨ k1 = 3 ∨ k1 = 4 by omega) with e | e | e | e <;> rw [e] <;> rfl
theorem fin_placeBuyFor {c d : Int} {D : CD} {U : MV_} (h : Sm c D U) (hd : c + 60 ≤ d) (hd4 : d ≤ 40000) (x0 : Int32) (x1 : Int32) (x2 : Int32) (x3 : Int32) : (∀ (r : Int32) (u : Unit), (fun r _ => ordF D.S true x0 x1 x2 (inR x3 1 60) (decide (20 ≤ nO D.S)) = 0 ∧ r = D.S.1 4) r u → ((endU (opM (kpU U) x0 true x1 x2 (mfR x3)).1 D.dp, endA (opM (kpU U) x0 true x1 x2 (mfR x3)).1 (opM (kpU U) x0 true x1 x2 (mfR x3)).2)).1.1 2 = 0 ∧ ((endU (opM (kpU U) x0 true x1 x2 (mfR x3)).1 D.dp, endA (opM (kpU U) x0 true x1 x2 (mfR x3)).1 (opM (kpU U) x0 true x1 x2 (mfR x3)).2)).2 = r ∧ Sm d (D.mod (plS D.S true x0 x1 x2 x3)) ((endU (opM (kpU U) x0 true x1 x2 (mfR x3)).1 D.dp, endA (opM (kpU U) x0 true x1 x2 (mfR x3)).1 (opM (kpU U) x0 true x1 x2 (mfR x3)).2)).1) ∧ (∀ k1 : Nat, (fun k => k = (ordF D.S true x0 x1 x2 (inR x3 1 60) (decide (20 ≤ nO D.S))) ∧ (ordF D.S true x0 x1 x2 (inR x3 1 60) (decide (20 ≤ nO D.S))) ≠ 0) k1 → (k1 = 1 ∨ k1 = 2 ∨ k1 = 3 ∨ k1 = 4) ∧ (if k1 = 1 then 1 else (if k1 = 2 then 2 else (if k1 = 3 then 3 else (if k1 = 4 then 4 else 0)))) = ((endU (opM (kpU U) x0 true x1 x2 (mfR x3)).1 D.dp, endA (opM (kpU U) x0 true x1 x2 (mfR x3)).1 (opM (kpU U) x0 true x1 x2 (mfR x3)).2)).1.1 2 ∧ Sm d (D) ((endU (opM (kpU U) x0 true x1 x2 (mfR x3)).1 D.dp, endA (opM (kpU U) x0 true x1 x2 (mfR x3)).1 (opM (kpU U) x0 true x1 x2 (mfR x3)).2)).1) := by
  obtain ⟨s1, s2⟩ := sim_mod h (show c ≤ d by omega) hd4 (pl_cast (op_pl (U := kpU U) h.rl (h.iz.mono (show c ≤ d - 1 by omega) (show d - 1 ≤ 40000 by omega)) (show d - 1 + 1 ≤ 40000 by omega) true x0 x1 x2 (mfR x3) (mf := inR x3 1 60) (m := x3) (mfR_ok x3)))
  refine ⟨fun r u hp => ?_, fun k1 hp => ?_⟩
  · obtain ⟨p1, p2⟩ := hp
    obtain ⟨t1, t2, t3⟩ := s1 p1
    exact ⟨t1, t2.trans p2.symm, t3⟩
  · obtain ⟨p1, p2⟩ := hp
    obtain ⟨t1, t2⟩ := s2 p2
    have hv := ordF_v (S := D.S) (b := true) (x := x0) (pr := x1) (q := x2) (mf := inR x3 1 60) (hi := decide (20 ≤ nO D.S))
    rw [← p1] at hv p2
    try rw [← p1] at t1
    refine ⟨by omega, ?_, t2⟩
    rw [t1]
    rcases (show k1 = 1 ∨ k1 = 2 ∨ k1 = 3 ∨ k1 = 4 by omega) with e | e | e | e <;> rw [e] <;> rfl
theorem fin_placeSellFor {c d : Int} {D : CD} {U : MV_} (h : Sm c D U) (hd : c + 60 ≤ d) (hd4 : d ≤ 40000) (x0 : Int32) (x1 : Int32) (x2 : Int32) (x3 : Int32) : (∀ (r : Int32) (u : Unit), (fun r _ => ordF D.S false x0 x1 x2 (inR x3 1 60) (decide (20 ≤ nO D.S)) = 0 ∧ r = D.S.1 4) r u → ((endU (opM (kpU U) x0 false x1 x2 (mfR x3)).1 D.dp, endA (opM (kpU U) x0 false x1 x2 (mfR x3)).1 (opM (kpU U) x0 false x1 x2 (mfR x3)).2)).1.1 2 = 0 ∧ ((endU (opM (kpU U) x0 false x1 x2 (mfR x3)).1 D.dp, endA (opM (kpU U) x0 false x1 x2 (mfR x3)).1 (opM (kpU U) x0 false x1 x2 (mfR x3)).2)).2 = r ∧ Sm d (D.mod (plS D.S false x0 x1 x2 x3)) ((endU (opM (kpU U) x0 false x1 x2 (mfR x3)).1 D.dp, endA (opM (kpU U) x0 false x1 x2 (mfR x3)).1 (opM (kpU U) x0 false x1 x2 (mfR x3)).2)).1) ∧ (∀ k1 : Nat, (fun k => k = (ordF D.S false x0 x1 x2 (inR x3 1 60) (decide (20 ≤ nO D.S))) ∧ (ordF D.S false x0 x1 x2 (inR x3 1 60) (decide (20 ≤ nO D.S))) ≠ 0) k1 → (k1 = 1 ∨ k1 = 2 ∨ k1 = 3 ∨ k1 = 4) ∧ (if k1 = 1 then 1 else (if k1 = 2 then 2 else (if k1 = 3 then 3 else (if k1 = 4 then 4 else 0)))) = ((endU (opM (kpU U) x0 false x1 x2 (mfR x3)).1 D.dp, endA (opM (kpU U) x0 false x1 x2 (mfR x3)).1 (opM (kpU U) x0 false x1 x2 (mfR x3)).2)).1.1 2 ∧ Sm d (D) ((endU (opM (kpU U) x0 false x1 x2 (mfR x3)).1 D.dp, endA (opM (kpU U) x0 false x1 x2 (mfR x3)).1 (opM (kpU U) x0 false x1 x2 (mfR x3)).2)).1) := by
  obtain ⟨s1, s2⟩ := sim_mod h (show c ≤ d by omega) hd4 (pl_cast (op_pl (U := kpU U) h.rl (h.iz.mono (show c ≤ d - 1 by omega) (show d - 1 ≤ 40000 by omega)) (show d - 1 + 1 ≤ 40000 by omega) false x0 x1 x2 (mfR x3) (mf := inR x3 1 60) (m := x3) (mfR_ok x3)))
  refine ⟨fun r u hp => ?_, fun k1 hp => ?_⟩
  · obtain ⟨p1, p2⟩ := hp
    obtain ⟨t1, t2, t3⟩ := s1 p1
    exact ⟨t1, t2.trans p2.symm, t3⟩
  · obtain ⟨p1, p2⟩ := hp
    obtain ⟨t1, t2⟩ := s2 p2
    have hv := ordF_v (S := D.S) (b := false) (x := x0) (pr := x1) (q := x2) (mf := inR x3 1 60) (hi := decide (20 ≤ nO D.S))
    rw [← p1] at hv p2
    try rw [← p1] at t1
    refine ⟨by omega, ?_, t2⟩
    rw [t1]
    rcases (show k1 = 1 ∨ k1 = 2 ∨ k1 = 3 ∨ k1 = 4 by omega) with e | e | e | e <;> rw [e] <;> rfl
theorem fin_takeBuy {c d : Int} {D : CD} {U : MV_} (h : Sm c D U) (hd : c + 60 ≤ d) (hd4 : d ≤ 40000) (x0 : Int32) (x1 : Int32) (x2 : Int32) : (∀ (r : Int32) (u : Unit), (fun r _ => ordF D.S true x0 x1 x2 true (decide (D.S.1 2 = 1)) = 0 ∧ r = x2 - (tkS D.S true x0 x1 x2).2) r u → ((endU (opM (kpU U) x0 true x1 x2 (-1)).1 D.dp, endA (opM (kpU U) x0 true x1 x2 (-1)).1 (opM (kpU U) x0 true x1 x2 (-1)).2)).1.1 2 = 0 ∧ ((endU (opM (kpU U) x0 true x1 x2 (-1)).1 D.dp, endA (opM (kpU U) x0 true x1 x2 (-1)).1 (opM (kpU U) x0 true x1 x2 (-1)).2)).2 = r ∧ Sm d (D.mod ((tkS D.S true x0 x1 x2).1)) ((endU (opM (kpU U) x0 true x1 x2 (-1)).1 D.dp, endA (opM (kpU U) x0 true x1 x2 (-1)).1 (opM (kpU U) x0 true x1 x2 (-1)).2)).1) ∧ (∀ k1 : Nat, (fun k => k = (ordF D.S true x0 x1 x2 true (decide (D.S.1 2 = 1))) ∧ (ordF D.S true x0 x1 x2 true (decide (D.S.1 2 = 1))) ≠ 0) k1 → (k1 = 1 ∨ k1 = 2 ∨ k1 = 3 ∨ k1 = 4) ∧ (if k1 = 1 then 1 else (if k1 = 2 then 2 else (if k1 = 3 then 3 else (if k1 = 4 then 4 else 0)))) = ((endU (opM (kpU U) x0 true x1 x2 (-1)).1 D.dp, endA (opM (kpU U) x0 true x1 x2 (-1)).1 (opM (kpU U) x0 true x1 x2 (-1)).2)).1.1 2 ∧ Sm d (D) ((endU (opM (kpU U) x0 true x1 x2 (-1)).1 D.dp, endA (opM (kpU U) x0 true x1 x2 (-1)).1 (opM (kpU U) x0 true x1 x2 (-1)).2)).1) := by
  obtain ⟨s1, s2⟩ := sim_mod h (show c ≤ d by omega) hd4 (pl_cast (op_tk (U := kpU U) h.rl (h.iz.mono (show c ≤ d - 1 by omega) (show d - 1 ≤ 40000 by omega)) (show d - 1 + 1 ≤ 40000 by omega) true x0 x1 x2 h.pb))
  refine ⟨fun r u hp => ?_, fun k1 hp => ?_⟩
  · obtain ⟨p1, p2⟩ := hp
    obtain ⟨t1, t2, t3⟩ := s1 p1
    exact ⟨t1, t2.trans p2.symm, t3⟩
  · obtain ⟨p1, p2⟩ := hp
    obtain ⟨t1, t2⟩ := s2 p2
    have hv := ordF_v (S := D.S) (b := true) (x := x0) (pr := x1) (q := x2) (mf := true) (hi := decide (D.S.1 2 = 1))
    rw [← p1] at hv p2
    try rw [← p1] at t1
    refine ⟨by omega, ?_, t2⟩
    rw [t1]
    rcases (show k1 = 1 ∨ k1 = 2 ∨ k1 = 3 ∨ k1 = 4 by omega) with e | e | e | e <;> rw [e] <;> rfl
theorem fin_takeSell {c d : Int} {D : CD} {U : MV_} (h : Sm c D U) (hd : c + 60 ≤ d) (hd4 : d ≤ 40000) (x0 : Int32) (x1 : Int32) (x2 : Int32) : (∀ (r : Int32) (u : Unit), (fun r _ => ordF D.S false x0 x1 x2 true (decide (D.S.1 2 = 1)) = 0 ∧ r = x2 - (tkS D.S false x0 x1 x2).2) r u → ((endU (opM (kpU U) x0 false x1 x2 (-1)).1 D.dp, endA (opM (kpU U) x0 false x1 x2 (-1)).1 (opM (kpU U) x0 false x1 x2 (-1)).2)).1.1 2 = 0 ∧ ((endU (opM (kpU U) x0 false x1 x2 (-1)).1 D.dp, endA (opM (kpU U) x0 false x1 x2 (-1)).1 (opM (kpU U) x0 false x1 x2 (-1)).2)).2 = r ∧ Sm d (D.mod ((tkS D.S false x0 x1 x2).1)) ((endU (opM (kpU U) x0 false x1 x2 (-1)).1 D.dp, endA (opM (kpU U) x0 false x1 x2 (-1)).1 (opM (kpU U) x0 false x1 x2 (-1)).2)).1) ∧ (∀ k1 : Nat, (fun k => k = (ordF D.S false x0 x1 x2 true (decide (D.S.1 2 = 1))) ∧ (ordF D.S false x0 x1 x2 true (decide (D.S.1 2 = 1))) ≠ 0) k1 → (k1 = 1 ∨ k1 = 2 ∨ k1 = 3 ∨ k1 = 4) ∧ (if k1 = 1 then 1 else (if k1 = 2 then 2 else (if k1 = 3 then 3 else (if k1 = 4 then 4 else 0)))) = ((endU (opM (kpU U) x0 false x1 x2 (-1)).1 D.dp, endA (opM (kpU U) x0 false x1 x2 (-1)).1 (opM (kpU U) x0 false x1 x2 (-1)).2)).1.1 2 ∧ Sm d (D) ((endU (opM (kpU U) x0 false x1 x2 (-1)).1 D.dp, endA (opM (kpU U) x0 false x1 x2 (-1)).1 (opM (kpU U) x0 false x1 x2 (-1)).2)).1) := by
  obtain ⟨s1, s2⟩ := sim_mod h (show c ≤ d by omega) hd4 (pl_cast (op_tk (U := kpU U) h.rl (h.iz.mono (show c ≤ d - 1 by omega) (show d - 1 ≤ 40000 by omega)) (show d - 1 + 1 ≤ 40000 by omega) false x0 x1 x2 h.pb))
  refine ⟨fun r u hp => ?_, fun k1 hp => ?_⟩
  · obtain ⟨p1, p2⟩ := hp
    obtain ⟨t1, t2, t3⟩ := s1 p1
    exact ⟨t1, t2.trans p2.symm, t3⟩
  · obtain ⟨p1, p2⟩ := hp
    obtain ⟨t1, t2⟩ := s2 p2
    have hv := ordF_v (S := D.S) (b := false) (x := x0) (pr := x1) (q := x2) (mf := true) (hi := decide (D.S.1 2 = 1))
    rw [← p1] at hv p2
    try rw [← p1] at t1
    refine ⟨by omega, ?_, t2⟩
    rw [t1]
    rcases (show k1 = 1 ∨ k1 = 2 ∨ k1 = 3 ∨ k1 = 4 by omega) with e | e | e | e <;> rw [e] <;> rfl
theorem fin_cancel {c d : Int} {D : CD} {U : MV_} (h : Sm c D U) (hd : c + 60 ≤ d) (hd4 : d ≤ 40000) (x0 : Int32) : (∀ (r : Int32) (u : Nat), (fun r j => slotF D.S x0 (nO D.S) = some j ∧ r = D.S.2.1 6 j) r u → ((endU (caM (kpU U) x0).1 D.dp, endA (caM (kpU U) x0).1 (caM (kpU U) x0).2)).1.1 2 = 0 ∧ ((endU (caM (kpU U) x0).1 D.dp, endA (caM (kpU U) x0).1 (caM (kpU U) x0).2)).2 = r ∧ Sm d (D.mod (rmS D.S (nO D.S) u)) ((endU (caM (kpU U) x0).1 D.dp, endA (caM (kpU U) x0).1 (caM (kpU U) x0).2)).1) ∧ (∀ k1 : Nat, (fun k => k = (canF D.S x0) ∧ (canF D.S x0) ≠ 0) k1 → (k1 = 5) ∧ (if k1 = 5 then 1 else 0) = ((endU (caM (kpU U) x0).1 D.dp, endA (caM (kpU U) x0).1 (caM (kpU U) x0).2)).1.1 2 ∧ Sm d (D) ((endU (caM (kpU U) x0).1 D.dp, endA (caM (kpU U) x0).1 (caM (kpU U) x0).2)).1) := by
  obtain ⟨q1, q2⟩ := op_ca (U := kpU U) h.rl (h.iz.mono (show c ≤ d by omega) hd4) x0
  refine ⟨fun r u hp => ?_, fun k1 hp => ?_⟩
  · obtain ⟨p1, p2⟩ := hp
    obtain ⟨z1, z2⟩ := q1 u p1
    obtain ⟨t1, t2, t3⟩ := (sim_mod h (show c ≤ d by omega) hd4 z2).1 z1
    exact ⟨t1, t2.trans p2.symm, t3⟩
  · obtain ⟨p1, p2⟩ := hp
    cases hs : slotF D.S x0 (nO D.S) with
    | some j => exact absurd (q1 j hs).1 p2
    | none =>
      obtain ⟨z1, z2⟩ := q2 hs
      have hO : OpR d (kpU U) 5 1 D.S 0 (caM (kpU U) x0) := ⟨fun e => absurd e (by decide), fun _ => ⟨z2, by decide⟩⟩
      obtain ⟨t1, t2⟩ := (sim_mod h (show c ≤ d by omega) hd4 hO).2 (by decide)
      rw [p1, z1]
      exact ⟨rfl, t1.symm, t2⟩
theorem fin_pass {c d : Int} {D : CD} {U : MV_} (h : Sm c D U) (hd : c + 60 ≤ d) (hd4 : d ≤ 40000) (x0 : Int32) : (∀ (r : Int32) (u : Unit), (fun r _ => pasF D.S x0 = 0 ∧ r = (lpS D.S x0).2) r u → ((endU (psM (kpU U) x0).1 D.dp, endA (psM (kpU U) x0).1 (psM (kpU U) x0).2)).1.1 2 = 0 ∧ ((endU (psM (kpU U) x0).1 D.dp, endA (psM (kpU U) x0).1 (psM (kpU U) x0).2)).2 = r ∧ Sm d (D.mod ((lpS D.S x0).1)) ((endU (psM (kpU U) x0).1 D.dp, endA (psM (kpU U) x0).1 (psM (kpU U) x0).2)).1) ∧ (∀ k1 : Nat, (fun k => k = (pasF D.S x0) ∧ (pasF D.S x0) ≠ 0) k1 → (k1 = 2) ∧ (if k1 = 2 then 1 else 0) = ((endU (psM (kpU U) x0).1 D.dp, endA (psM (kpU U) x0).1 (psM (kpU U) x0).2)).1.1 2 ∧ Sm d (D) ((endU (psM (kpU U) x0).1 D.dp, endA (psM (kpU U) x0).1 (psM (kpU U) x0).2)).1) := by
  obtain ⟨s1, s2⟩ := sim_mod h (show c ≤ d by omega) hd4 (op_ps (U := kpU U) h.rl (h.iz.mono (show c ≤ d by omega) hd4) x0)
  refine ⟨fun r u hp => ?_, fun k1 hp => ?_⟩
  · obtain ⟨p1, p2⟩ := hp
    obtain ⟨t1, t2, t3⟩ := s1 p1
    exact ⟨t1, t2.trans p2.symm, t3⟩
  · obtain ⟨p1, p2⟩ := hp
    obtain ⟨t1, t2⟩ := s2 p2
    have hv := pasF_v (S := D.S) (x := x0)
    rw [← p1] at hv p2
    try rw [← p1] at t1
    refine ⟨by omega, ?_, t2⟩
    rw [t1]
    rcases hv with e | e
    · exact absurd e p2
    · rw [e]; rfl
theorem fin_openPool {c d : Int} {D : CD} {U : MV_} (h : Sm c D U) (hd : c + 60 ≤ d) (hd4 : d ≤ 40000) : (∀ (r : Int32) (u : Unit), (fun r _ => opnF D.S = 0 ∧ r = D.S.1 1) r u → ((endU (opnM (kpU U)).1 D.dp, endA (opnM (kpU U)).1 (opnM (kpU U)).2)).1.1 2 = 0 ∧ ((endU (opnM (kpU U)).1 D.dp, endA (opnM (kpU U)).1 (opnM (kpU U)).2)).2 = r ∧ Sm d (D.mod (sI D.S 2 1)) ((endU (opnM (kpU U)).1 D.dp, endA (opnM (kpU U)).1 (opnM (kpU U)).2)).1) ∧ (∀ k1 : Nat, (fun k => k = (opnF D.S) ∧ (opnF D.S) ≠ 0) k1 → (k1 = 3) ∧ (if k1 = 3 then 1 else 0) = ((endU (opnM (kpU U)).1 D.dp, endA (opnM (kpU U)).1 (opnM (kpU U)).2)).1.1 2 ∧ Sm d (D) ((endU (opnM (kpU U)).1 D.dp, endA (opnM (kpU U)).1 (opnM (kpU U)).2)).1) := by
  obtain ⟨s1, s2⟩ := sim_mod h (show c ≤ d by omega) hd4 (op_on (U := kpU U) h.rl (h.iz.mono (show c ≤ d by omega) hd4))
  refine ⟨fun r u hp => ?_, fun k1 hp => ?_⟩
  · obtain ⟨p1, p2⟩ := hp
    obtain ⟨t1, t2, t3⟩ := s1 p1
    exact ⟨t1, t2.trans p2.symm, t3⟩
  · obtain ⟨p1, p2⟩ := hp
    obtain ⟨t1, t2⟩ := s2 p2
    have hv := opnF_v (S := D.S)
    rw [← p1] at hv p2
    try rw [← p1] at t1
    refine ⟨by omega, ?_, t2⟩
    rw [t1]
    rcases hv with e | e
    · exact absurd e p2
    · rw [e]; rfl
theorem fin_closePool {c d : Int} {D : CD} {U : MV_} (h : Sm c D U) (hd : c + 60 ≤ d) (hd4 : d ≤ 40000) : (∀ (r : Int32) (u : Unit), (fun r _ => cloF D.S = 0 ∧ r = (poolS D.S (nO D.S)).2.1) r u → ((endU (clM (kpU U)).1 D.dp, endA (clM (kpU U)).1 (clM (kpU U)).2)).1.1 2 = 0 ∧ ((endU (clM (kpU U)).1 D.dp, endA (clM (kpU U)).1 (clM (kpU U)).2)).2 = r ∧ Sm d (D.mod (epS D.S)) ((endU (clM (kpU U)).1 D.dp, endA (clM (kpU U)).1 (clM (kpU U)).2)).1) ∧ (∀ k1 : Nat, (fun k => k = (cloF D.S) ∧ (cloF D.S) ≠ 0) k1 → (k1 = 3) ∧ (if k1 = 3 then 1 else 0) = ((endU (clM (kpU U)).1 D.dp, endA (clM (kpU U)).1 (clM (kpU U)).2)).1.1 2 ∧ Sm d (D) ((endU (clM (kpU U)).1 D.dp, endA (clM (kpU U)).1 (clM (kpU U)).2)).1) := by
  obtain ⟨s1, s2⟩ := sim_mod h (show c ≤ d by omega) hd4 ((op_cl (U := kpU U) h.rl (h.iz.mono (show c ≤ d by omega) hd4)).1)
  refine ⟨fun r u hp => ?_, fun k1 hp => ?_⟩
  · obtain ⟨p1, p2⟩ := hp
    obtain ⟨t1, t2, t3⟩ := s1 p1
    exact ⟨t1, t2.trans p2.symm, t3⟩
  · obtain ⟨p1, p2⟩ := hp
    obtain ⟨t1, t2⟩ := s2 p2
    have hv := cloF_v (S := D.S)
    rw [← p1] at hv p2
    try rw [← p1] at t1
    refine ⟨by omega, ?_, t2⟩
    rw [t1]
    rcases hv with e | e
    · exact absurd e p2
    · rw [e]; rfl
theorem v_moneyOf {c : Int} {D : CD} {U : MV_} (h : Sm c D U) (x0 : Int32) : (∀ (r : Int32) (u : Unit), (fun r _ => hasN x0 (nT D.S) = true ∧ r = rget 6 (D.S.2.1 0) x0) r u → isF (U.2 0) x0 = true ∧ (if isF (U.2 0) x0 = true then sF (U.2 0) x0.toNatClampNeg 0 else 0) = r) ∧ (∀ k1 : Nat, (fun k => k = 1 ∧ hasN x0 (nT D.S) = false) k1 → isF (U.2 0) x0 = false ∧ k1 = 1) := by
  refine ⟨fun r u hp => ?_, fun k1 hp => ?_⟩
  · obtain ⟨p1, p2⟩ := hp
    rw [h.rl.t, isF_has h.okf] at p1
    refine ⟨p1, ?_⟩
    obtain ⟨e1, e2⟩ := isF_i h.okf p1
    have h6 := h.okf.2.2.2.1
    rw [if_pos p1, p2]
    generalize x0.toNatClampNeg = i at e1 e2
    rw [e1]
    rw [rget_nI (show i < 6 by omega) (by decide), (h.rl.2.2.1 i (by omega)).1, if_pos e2]
  · obtain ⟨p1, p2⟩ := hp
    rw [h.rl.t, isF_has h.okf] at p2
    exact ⟨p2, p1⟩
theorem v_dropsOf {c : Int} {D : CD} {U : MV_} (h : Sm c D U) (x0 : Int32) : (∀ (r : Int32) (u : Unit), (fun r _ => hasN x0 (nT D.S) = true ∧ r = rget 6 (D.S.2.1 1) x0) r u → isF (U.2 0) x0 = true ∧ (if isF (U.2 0) x0 = true then sF (U.2 0) x0.toNatClampNeg 1 else 0) = r) ∧ (∀ k1 : Nat, (fun k => k = 1 ∧ hasN x0 (nT D.S) = false) k1 → isF (U.2 0) x0 = false ∧ k1 = 1) := by
  refine ⟨fun r u hp => ?_, fun k1 hp => ?_⟩
  · obtain ⟨p1, p2⟩ := hp
    rw [h.rl.t, isF_has h.okf] at p1
    refine ⟨p1, ?_⟩
    obtain ⟨e1, e2⟩ := isF_i h.okf p1
    have h6 := h.okf.2.2.2.1
    rw [if_pos p1, p2]
    generalize x0.toNatClampNeg = i at e1 e2
    rw [e1]
    rw [rget_nI (show i < 6 by omega) (by decide), (h.rl.2.2.1 i (by omega)).2, if_pos e2]
  · obtain ⟨p1, p2⟩ := hp
    rw [h.rl.t, isF_has h.okf] at p2
    exact ⟨p2, p1⟩
theorem v_freeMoneyOf {c : Int} {D : CD} {U : MV_} (h : Sm c D U) (x0 : Int32) : (∀ (r : Int32) (u : Unit), (fun r _ => hasN x0 (nT D.S) = true ∧ r = frM D.S x0) r u → isF (U.2 0) x0 = true ∧ (if isF (U.2 0) x0 = true then fqR (U.2 0) x0.toNatClampNeg true (nF (U.2 0)) else 0) = r) ∧ (∀ k1 : Nat, (fun k => k = 1 ∧ hasN x0 (nT D.S) = false) k1 → isF (U.2 0) x0 = false ∧ k1 = 1) := by
  refine ⟨fun r u hp => ?_, fun k1 hp => ?_⟩
  · obtain ⟨p1, p2⟩ := hp
    rw [h.rl.t, isF_has h.okf] at p1
    refine ⟨p1, ?_⟩
    obtain ⟨e1, e2⟩ := isF_i h.okf p1
    have h6 := h.okf.2.2.2.1
    rw [if_pos p1, p2]
    generalize x0.toNatClampNeg = i at e1 e2
    rw [e1]
    rw [h.rl.frM h.okf e2]
  · obtain ⟨p1, p2⟩ := hp
    rw [h.rl.t, isF_has h.okf] at p2
    exact ⟨p2, p1⟩
theorem v_freeDropsOf {c : Int} {D : CD} {U : MV_} (h : Sm c D U) (x0 : Int32) : (∀ (r : Int32) (u : Unit), (fun r _ => hasN x0 (nT D.S) = true ∧ r = frD D.S x0) r u → isF (U.2 0) x0 = true ∧ (if isF (U.2 0) x0 = true then fqR (U.2 0) x0.toNatClampNeg false (nF (U.2 0)) else 0) = r) ∧ (∀ k1 : Nat, (fun k => k = 1 ∧ hasN x0 (nT D.S) = false) k1 → isF (U.2 0) x0 = false ∧ k1 = 1) := by
  refine ⟨fun r u hp => ?_, fun k1 hp => ?_⟩
  · obtain ⟨p1, p2⟩ := hp
    rw [h.rl.t, isF_has h.okf] at p1
    refine ⟨p1, ?_⟩
    obtain ⟨e1, e2⟩ := isF_i h.okf p1
    have h6 := h.okf.2.2.2.1
    rw [if_pos p1, p2]
    generalize x0.toNatClampNeg = i at e1 e2
    rw [e1]
    rw [h.rl.frD h.okf e2]
  · obtain ⟨p1, p2⟩ := hp
    rw [h.rl.t, isF_has h.okf] at p2
    exact ⟨p2, p1⟩
theorem v_stallByMoney {c : Int} {D : CD} {U : MV_} (h : Sm c D U) (x0 : Int32) : (∀ (r : Int32) (u : Unit), (fun r _ => ∃ j, j < nT D.S ∧ rkF D.S (nT D.S) x0 = some j ∧ r = nI j) r u → isF (U.2 0) x0 = true ∧ sbV (U.2 0) x0 = r) ∧ (∀ k1 : Nat, (fun k => k = 5 ∧ rkF D.S (nT D.S) x0 = none) k1 → isF (U.2 0) x0 = false ∧ k1 = 5) := by
  refine ⟨fun r u hp => ?_, fun k1 hp => ?_⟩
  · obtain ⟨j, p1, p2, p3⟩ := hp
    rcases rk_ok h.rl h.iz x0 with ⟨a, i, a1, a2, a3⟩ | ⟨a, a1⟩
    · rw [p2] at a2
      injection a2 with a2
      exact ⟨a, by rw [a3, p3, a2]⟩
    · rw [p2] at a1
      cases a1
  · obtain ⟨p1, p2⟩ := hp
    rcases rk_ok h.rl h.iz x0 with ⟨a, i, a1, a2, a3⟩ | ⟨a, a1⟩
    · rw [p2] at a2
      cases a2
    · exact ⟨a, p1⟩
theorem v_orderAt {c : Int} {D : CD} {U : MV_} (h : Sm c D U) (x0 : Int32) : (∀ (r : Int32) (u : Unit), (fun r _ => (¬ x0 < 0 ∧ x0 < D.S.1 1) ∧ r = rget 20 (D.S.2.1 2) x0) r u → inR x0 0 (nI (nF (U.2 0)) - 1) = true ∧ (if inR x0 0 (nI (nF (U.2 0)) - 1) = true then oF (U.2 0) x0.toNatClampNeg 0 else 0) = r) ∧ (∀ k1 : Nat, (fun k => k = 1 ∧ (x0 < 0 ∨ ¬ x0 < D.S.1 1)) k1 → inR x0 0 (nI (nF (U.2 0)) - 1) = false ∧ k1 = 1) := by
  refine ⟨fun r u hp => ?_, fun k1 hp => ?_⟩
  · obtain ⟨⟨p1, p2⟩, p3⟩ := hp
    rcases at_ok h.rl h.okf x0 with ⟨a1, a2, a3, a4⟩ | ⟨a1, a2⟩
    · exact ⟨a1, by rw [if_pos a1, p3, a4]⟩
    · exact absurd p2 (a2.resolve_left p1)
  · obtain ⟨p1, p2⟩ := hp
    rcases at_ok h.rl h.okf x0 with ⟨a1, a2, a3, a4⟩ | ⟨a1, a2⟩
    · exact absurd a3 (p2.resolve_left a2)
    · exact ⟨a1, p1⟩
theorem v_stallOf {c : Int} {D : CD} {U : MV_} (h : Sm c D U) (x0 : Int32) : (∀ (r : Int32) (u : Unit), (fun r _ => ∃ j, j < nO D.S ∧ slotF D.S x0 (nO D.S) = some j ∧ r = D.S.2.1 3 j) r u → teB (U.2 0) x0 = true ∧ teV (U.2 0) x0 1 = r) ∧ (∀ k1 : Nat, (fun k => k = 5 ∧ slotF D.S x0 (nO D.S) = none) k1 → teB (U.2 0) x0 = false ∧ k1 = 5) := by
  refine ⟨fun r u hp => ?_, fun k1 hp => ?_⟩
  · obtain ⟨j, p1, p2, p3⟩ := hp
    rw [h.rl.find h.iz] at p2
    have l := (lst_lt p2).1
    unfold teB teV
    rw [p2]
    exact ⟨rfl, by rw [p3, h.rl.sta l]⟩
  · obtain ⟨p1, p2⟩ := hp
    rw [h.rl.find h.iz] at p2
    unfold teB
    rw [p2]
    exact ⟨rfl, p1⟩
theorem v_priceOf {c : Int} {D : CD} {U : MV_} (h : Sm c D U) (x0 : Int32) : (∀ (r : Int32) (u : Unit), (fun r _ => ∃ j, j < nO D.S ∧ slotF D.S x0 (nO D.S) = some j ∧ r = D.S.2.1 5 j) r u → teB (U.2 0) x0 = true ∧ teV (U.2 0) x0 3 = r) ∧ (∀ k1 : Nat, (fun k => k = 5 ∧ slotF D.S x0 (nO D.S) = none) k1 → teB (U.2 0) x0 = false ∧ k1 = 5) := by
  refine ⟨fun r u hp => ?_, fun k1 hp => ?_⟩
  · obtain ⟨j, p1, p2, p3⟩ := hp
    rw [h.rl.find h.iz] at p2
    have l := (lst_lt p2).1
    unfold teB teV
    rw [p2]
    exact ⟨rfl, by rw [p3, h.rl.pri l]⟩
  · obtain ⟨p1, p2⟩ := hp
    rw [h.rl.find h.iz] at p2
    unfold teB
    rw [p2]
    exact ⟨rfl, p1⟩
theorem v_quantityOf {c : Int} {D : CD} {U : MV_} (h : Sm c D U) (x0 : Int32) : (∀ (r : Int32) (u : Unit), (fun r _ => ∃ j, j < nO D.S ∧ slotF D.S x0 (nO D.S) = some j ∧ r = D.S.2.1 6 j) r u → teB (U.2 0) x0 = true ∧ teV (U.2 0) x0 4 = r) ∧ (∀ k1 : Nat, (fun k => k = 5 ∧ slotF D.S x0 (nO D.S) = none) k1 → teB (U.2 0) x0 = false ∧ k1 = 5) := by
  refine ⟨fun r u hp => ?_, fun k1 hp => ?_⟩
  · obtain ⟨j, p1, p2, p3⟩ := hp
    rw [h.rl.find h.iz] at p2
    have l := (lst_lt p2).1
    unfold teB teV
    rw [p2]
    exact ⟨rfl, by rw [p3, h.rl.qua l]⟩
  · obtain ⟨p1, p2⟩ := hp
    rw [h.rl.find h.iz] at p2
    unfold teB
    rw [p2]
    exact ⟨rfl, p1⟩
theorem v_isBuying {c : Int} {D : CD} {U : MV_} (h : Sm c D U) (x0 : Int32) : (∀ (r : Int32) (u : Unit), (fun r _ => ∃ j, j < nO D.S ∧ slotF D.S x0 (nO D.S) = some j ∧ r = bI (buyS D.S j)) r u → teB (U.2 0) x0 = true ∧ bI (decide (teV (U.2 0) x0 2 = 1)) = r) ∧ (∀ k1 : Nat, (fun k => k = 5 ∧ slotF D.S x0 (nO D.S) = none) k1 → teB (U.2 0) x0 = false ∧ k1 = 5) := by
  refine ⟨fun r u hp => ?_, fun k1 hp => ?_⟩
  · obtain ⟨j, p1, p2, p3⟩ := hp
    rw [h.rl.find h.iz] at p2
    have l := (lst_lt p2).1
    unfold teB teV
    rw [p2]
    exact ⟨rfl, by rw [p3, h.rl.buy l]; rfl⟩
  · obtain ⟨p1, p2⟩ := hp
    rw [h.rl.find h.iz] at p2
    unfold teB
    rw [p2]
    exact ⟨rfl, p1⟩
theorem fin_minutesLeft {c d : Int} {D : CD} {U : MV_} (h : Sm c D U) (hd : c + 60 ≤ d) (hd4 : d ≤ 40000) (x0 : Int32) : (∀ (r : Int32) (u : Unit), (fun r _ => ∃ j, j < nO D.S ∧ slotF D.S x0 (nO D.S) = some j ∧ r = D.S.2.1 7 j ∧ r ≠ 0) r u → ((mI U 2 (miT (U.2 0) x0), teV (U.2 0) x0 5)).1.1 2 = 0 ∧ ((mI U 2 (miT (U.2 0) x0), teV (U.2 0) x0 5)).2 = r ∧ Sm d (D) ((mI U 2 (miT (U.2 0) x0), teV (U.2 0) x0 5)).1) ∧ (∀ k1 : Nat, (fun k => (k = 5 ∧ slotF D.S x0 (nO D.S) = none) ∨ (k = 3 ∧ ∃ j, slotF D.S x0 (nO D.S) = some j ∧ D.S.2.1 7 j = 0)) k1 → (k1 = 5 ∨ k1 = 3) ∧ (if k1 = 5 then 1 else (if k1 = 3 then 2 else 0)) = ((mI U 2 (miT (U.2 0) x0), teV (U.2 0) x0 5)).1.1 2 ∧ Sm d (D) ((mI U 2 (miT (U.2 0) x0), teV (U.2 0) x0 5)).1) := by
  refine ⟨fun r u hp => ?_, fun k1 hp => ?_⟩
  · obtain ⟨j, p1, p2, p3, p4⟩ := hp
    rw [h.rl.find h.iz] at p2
    have l := (lst_lt p2).1
    rw [h.rl.mnt l] at p3
    have e1 : teB (U.2 0) x0 = true := by unfold teB; rw [p2]; rfl
    have e2 : teV (U.2 0) x0 5 = r := by unfold teV; rw [p2]; exact p3.symm
    refine ⟨?_, e2, (h.mono (show c ≤ d by omega) hd4).thr _⟩
    show miT (U.2 0) x0 = 0
    unfold miT
    rw [e1, e2, if_pos (by decide), if_neg p4]
  · rcases hp with ⟨p1, p2⟩ | ⟨p1, j, p2, p3⟩
    · rw [h.rl.find h.iz] at p2
      have e1 : teB (U.2 0) x0 = false := by unfold teB; rw [p2]; rfl
      rw [p1]
      refine ⟨Or.inl rfl, ?_, (h.mono (show c ≤ d by omega) hd4).thr _⟩
      have e3 : miT (U.2 0) x0 = 1 := by unfold miT; rw [e1, if_neg (by decide)]
      show _ = miT (U.2 0) x0
      rw [e3]
      rfl
    · rw [h.rl.find h.iz] at p2
      have l := (lst_lt p2).1
      rw [h.rl.mnt l] at p3
      have e1 : teB (U.2 0) x0 = true := by unfold teB; rw [p2]; rfl
      have e2 : teV (U.2 0) x0 5 = 0 := by unfold teV; rw [p2]; exact p3
      rw [p1]
      refine ⟨Or.inr rfl, ?_, (h.mono (show c ≤ d by omega) hd4).thr _⟩
      have e3 : miT (U.2 0) x0 = 2 := by unfold miT; rw [e1, e2, if_pos (by decide), if_pos rfl]
      show _ = miT (U.2 0) x0
      rw [e3]
      rfl
theorem v_bestBuy {c : Int} {D : CD} {U : MV_} (h : Sm c D U) : (∀ (r : Int32) (u : Unit), (fun r _ => ∃ j, j < nO D.S ∧ best D.S true (nO D.S) = some j ∧ r = D.S.2.1 2 j) r u → beB (U.2 0) true = true ∧ beV (U.2 0) true 0 = r) ∧ (∀ k1 : Nat, (fun k => k = 5 ∧ best D.S true (nO D.S) = none) k1 → beB (U.2 0) true = false ∧ k1 = 5) := by
  refine ⟨fun r u hp => ?_, fun k1 hp => ?_⟩
  · obtain ⟨j, p1, p2, p3⟩ := hp
    rw [h.rl.n, h.rl.best h.iz.1 true (Nat.le_refl _)] at p2
    have l := mb_lt p2
    unfold beB beV
    rw [p2]
    exact ⟨rfl, by rw [p3, h.rl.num l]⟩
  · obtain ⟨p1, p2⟩ := hp
    rw [h.rl.n, h.rl.best h.iz.1 true (Nat.le_refl _)] at p2
    unfold beB
    rw [p2]
    exact ⟨rfl, p1⟩
theorem v_bestSell {c : Int} {D : CD} {U : MV_} (h : Sm c D U) : (∀ (r : Int32) (u : Unit), (fun r _ => ∃ j, j < nO D.S ∧ best D.S false (nO D.S) = some j ∧ r = D.S.2.1 2 j) r u → beB (U.2 0) false = true ∧ beV (U.2 0) false 0 = r) ∧ (∀ k1 : Nat, (fun k => k = 5 ∧ best D.S false (nO D.S) = none) k1 → beB (U.2 0) false = false ∧ k1 = 5) := by
  refine ⟨fun r u hp => ?_, fun k1 hp => ?_⟩
  · obtain ⟨j, p1, p2, p3⟩ := hp
    rw [h.rl.n, h.rl.best h.iz.1 false (Nat.le_refl _)] at p2
    have l := mb_lt p2
    unfold beB beV
    rw [p2]
    exact ⟨rfl, by rw [p3, h.rl.num l]⟩
  · obtain ⟨p1, p2⟩ := hp
    rw [h.rl.n, h.rl.best h.iz.1 false (Nat.le_refl _)] at p2
    unfold beB
    rw [p2]
    exact ⟨rfl, p1⟩
theorem v_spread {c : Int} {D : CD} {U : MV_} (h : Sm c D U) : (∀ (r : Int32) (u : Unit), (fun r _ => r = sprS D.S (nO D.S) ∧ r ≠ 1000) r u → spB (U.2 0) = true ∧ spV (U.2 0) = r) ∧ (∀ k1 : Nat, (fun k => k = 5 ∧ sprS D.S (nO D.S) = 1000) k1 → spB (U.2 0) = false ∧ k1 = 5) := by
  refine ⟨fun r u hp => ?_, fun k1 hp => ?_⟩
  · obtain ⟨p1, p2⟩ := hp
    obtain ⟨-, s2, s3⟩ := su_ss h.rl h.iz.1 (gu_su h.rl h.iz.1 D.f D.g)
    rw [s2] at p1
    by_cases e : spB (U.2 0) = true
    · rw [if_pos e] at p1
      exact ⟨e, p1.symm⟩
    · rw [if_neg e] at p1
      exact absurd p1 p2
  · obtain ⟨p1, p2⟩ := hp
    obtain ⟨-, s2, s3⟩ := su_ss h.rl h.iz.1 (gu_su h.rl h.iz.1 D.f D.g)
    rw [s2] at p2
    by_cases e : spB (U.2 0) = true
    · rw [if_pos e] at p2
      exact absurd p2 (s3 e)
    · exact ⟨Bool.of_not_eq_true e, p1⟩
theorem v_spreadBySums {c : Int} {D : CD} {U : MV_} (h : Sm c D U) : (∀ (r : Int32) (u : Unit), (fun x _ => x = ssR (guR D.S D.f D.g (nO D.S)).1 (guR D.S D.f D.g (nO D.S)).2 ∧ x ≠ 1000) r u → spB (U.2 0) = true ∧ spV (U.2 0) = r) ∧ (∀ k1 : Nat, (fun k => k = 5 ∧ ssR (guR D.S D.f D.g (nO D.S)).1 (guR D.S D.f D.g (nO D.S)).2 = 1000) k1 → spB (U.2 0) = false ∧ k1 = 5) := by
  refine ⟨fun r u hp => ?_, fun k1 hp => ?_⟩
  · obtain ⟨p1, p2⟩ := hp
    obtain ⟨-, s2, s3⟩ := su_ss h.rl h.iz.1 (gu_su h.rl h.iz.1 D.f D.g)
    rw [(su_ss h.rl h.iz.1 (gu_su h.rl h.iz.1 D.f D.g)).1] at p1
    rw [s2] at p1
    by_cases e : spB (U.2 0) = true
    · rw [if_pos e] at p1
      exact ⟨e, p1.symm⟩
    · rw [if_neg e] at p1
      exact absurd p1 p2
  · obtain ⟨p1, p2⟩ := hp
    obtain ⟨-, s2, s3⟩ := su_ss h.rl h.iz.1 (gu_su h.rl h.iz.1 D.f D.g)
    rw [(su_ss h.rl h.iz.1 (gu_su h.rl h.iz.1 D.f D.g)).1] at p2
    rw [s2] at p2
    by_cases e : spB (U.2 0) = true
    · rw [if_pos e] at p2
      exact absurd p2 (s3 e)
    · exact ⟨Bool.of_not_eq_true e, p1⟩
theorem v_buyingAt {c : Int} {D : CD} {U : MV_} (h : Sm c D U) (x0 : Int32) : (∀ (r : Int32) (u : Unit), (fun r _ => inR x0 1 99 = true ∧ r = qAt D.S true x0 (nO D.S)) r u → inR x0 1 99 = true ∧ (if inR x0 1 99 = true then smF (U.2 0) true x0 x0 (nF (U.2 0)) else 0) = r) ∧ (∀ k1 : Nat, (fun k => k = 2 ∧ inR x0 1 99 = false) k1 → inR x0 1 99 = false ∧ k1 = 2) := by
  refine ⟨fun r u hp => ?_, fun k1 hp => ?_⟩
  · obtain ⟨p1, p2⟩ := hp
    exact ⟨p1, by rw [if_pos p1, p2, h.rl.qAt]⟩
  · obtain ⟨p1, p2⟩ := hp
    exact ⟨p2, p1⟩
theorem v_sellingAt {c : Int} {D : CD} {U : MV_} (h : Sm c D U) (x0 : Int32) : (∀ (r : Int32) (u : Unit), (fun r _ => inR x0 1 99 = true ∧ r = qAt D.S false x0 (nO D.S)) r u → inR x0 1 99 = true ∧ (if inR x0 1 99 = true then smF (U.2 0) false x0 x0 (nF (U.2 0)) else 0) = r) ∧ (∀ k1 : Nat, (fun k => k = 2 ∧ inR x0 1 99 = false) k1 → inR x0 1 99 = false ∧ k1 = 2) := by
  refine ⟨fun r u hp => ?_, fun k1 hp => ?_⟩
  · obtain ⟨p1, p2⟩ := hp
    exact ⟨p1, by rw [if_pos p1, p2, h.rl.qAt]⟩
  · obtain ⟨p1, p2⟩ := hp
    exact ⟨p2, p1⟩
theorem v_volumeAt {c : Int} {D : CD} {U : MV_} (h : Sm c D U) (x0 : Int32) : (∀ (r : Int32) (u : Unit), (fun r _ => inR x0 1 99 = true ∧ r = mmin (dmd D.S x0 (nO D.S)) (sup D.S x0 (nO D.S))) r u → inR x0 1 99 = true ∧ (if inR x0 1 99 = true then voF (U.2 0) (nF (U.2 0)) x0 else 0) = r) ∧ (∀ k1 : Nat, (fun k => k = 2 ∧ inR x0 1 99 = false) k1 → inR x0 1 99 = false ∧ k1 = 2) := by
  refine ⟨fun r u hp => ?_, fun k1 hp => ?_⟩
  · obtain ⟨p1, p2⟩ := hp
    exact ⟨p1, by rw [if_pos p1, p2, vol_ok h.rl h.iz.1]⟩
  · obtain ⟨p1, p2⟩ := hp
    exact ⟨p2, p1⟩
theorem v_lastPrice {c : Int} {D : CD} {U : MV_} (h : Sm c D U) : (∀ (r : Int32) (u : Unit), (fun r _ => r = D.S.1 5 ∧ D.S.1 6 ≠ 0) r u → laB (U.2 0) = true ∧ (if laB (U.2 0) = true then (U.2 0) 5 else 0) = r) ∧ (∀ k1 : Nat, (fun k => k = 5 ∧ D.S.1 6 = 0) k1 → laB (U.2 0) = false ∧ k1 = 5) := by
  refine ⟨fun r u hp => ?_, fun k1 hp => ?_⟩
  · obtain ⟨p1, p2⟩ := hp
    have e : laB (U.2 0) = true := (la_ok h).2 p2
    exact ⟨e, by rw [if_pos e, p1, h.rl.1.2.2.2.2.2.1]⟩
  · obtain ⟨p1, p2⟩ := hp
    exact ⟨(la_ok h).1 p2, p1⟩
theorem v_poolPrice {c : Int} {D : CD} {U : MV_} (h : Sm c D U) : (∀ (r : Int32) (u : Unit), (fun x0 _ => x0 = (poolS D.S (nO D.S)).1 ∧ (poolS D.S (nO D.S)).1 ≠ -1) r u → ppB (U.2 0) = true ∧ (if ppB (U.2 0) = true then clP (U.2 0) else 0) = r) ∧ (∀ k1 : Nat, (fun k => k = 5 ∧ (poolS D.S (nO D.S)).1 = -1) k1 → ppB (U.2 0) = false ∧ k1 = 5) := by
  refine ⟨fun r u hp => ?_, fun k1 hp => ?_⟩
  · obtain ⟨p1, p2⟩ := hp
    rw [pool_rl h.rl h.iz.1, clP_e] at p1 p2
    have e := pp_ok h
    by_cases q : clP (U.2 0) = -1
    · exact absurd q p2
    · have e1 := e.2 q
      exact ⟨e1, by rw [if_pos e1, p1]⟩
  · obtain ⟨p1, p2⟩ := hp
    rw [pool_rl h.rl h.iz.1, clP_e] at p2
    exact ⟨(pp_ok h).1 p2, p1⟩
theorem v_poolPriceBySums {c : Int} {D : CD} {U : MV_} (h : Sm c D U) : (∀ (r : Int32) (u : Unit), (fun x _ => x = (psR (guR D.S D.f D.g (nO D.S)).1 (guR D.S D.f D.g (nO D.S)).2 99).1 ∧ (psR (guR D.S D.f D.g (nO D.S)).1 (guR D.S D.f D.g (nO D.S)).2 99).1 ≠ -1) r u → ppB (U.2 0) = true ∧ (if ppB (U.2 0) = true then clP (U.2 0) else 0) = r) ∧ (∀ k1 : Nat, (fun k => k = 5 ∧ (psR (guR D.S D.f D.g (nO D.S)).1 (guR D.S D.f D.g (nO D.S)).2 99).1 = -1) k1 → ppB (U.2 0) = false ∧ k1 = 5) := by
  refine ⟨fun r u hp => ?_, fun k1 hp => ?_⟩
  · obtain ⟨p1, p2⟩ := hp
    rw [su_pool h.iz.1 (gu_su h.rl h.iz.1 D.f D.g), clP_e] at p1 p2
    have e := pp_ok h
    by_cases q : clP (U.2 0) = -1
    · exact absurd q p2
    · have e1 := e.2 q
      exact ⟨e1, by rw [if_pos e1, p1]⟩
  · obtain ⟨p1, p2⟩ := hp
    rw [su_pool h.iz.1 (gu_su h.rl h.iz.1 D.f D.g), clP_e] at p2
    exact ⟨(pp_ok h).1 p2, p1⟩
theorem fin_undo {c d : Int} {D : CD} {U : MV_} (h : Sm c D U) (hd : c + 60 ≤ d) (hd4 : d ≤ 40000) : (∀ (r : Int32) (u : Unit), (fun r _ => D.dp ≠ 0 ∧ r = nI (D.dp - 1)) r u → ((unM U D.dp)).1.1 2 = 0 ∧ ((unM U D.dp)).2 = r ∧ Sm d (cdm (D.V D.nw) D.B D.N D.V (rgP D.nw) (D.dp - 1) D.f D.g D.ut D.LT D.vb D.p0 D.gp D.ul D.LL D.F) ((unM U D.dp)).1) ∧ (∀ k1 : Nat, (fun k => k = 3 ∧ D.dp = 0) k1 → (k1 = 3) ∧ (if k1 = 3 then 1 else 0) = ((unM U D.dp)).1.1 2 ∧ Sm d (D) ((unM U D.dp)).1) := by
  refine ⟨fun r u hp => ?_, fun k1 hp => ?_⟩
  · obtain ⟨p1, p2⟩ := hp
    obtain ⟨t1, t2, t3⟩ := (sim_undo (h.mono (show c ≤ d by omega) hd4)).2 p1
    exact ⟨t1, t2.trans p2.symm, t3⟩
  · obtain ⟨p1, p2⟩ := hp
    obtain ⟨t1, t2⟩ := (sim_undo (h.mono (show c ≤ d by omega) hd4)).1 p2
    rw [p1]
    exact ⟨rfl, t1.symm, t2⟩
theorem fin_type {c d : Int} {D : CD} {U : MV_} (h : Sm c D U) (hd : c + 60 ≤ d) (hd4 : d ≤ 40000) (x0 : Int32) : (∀ (r : Int32) (u : Nat × Nat × (Nat → Int32) × Int32), (fun r z => inR x0 32 126 = true ∧ D.LT.length < 60 ∧ r = nI (D.LT.length + 1) ∧ sbT z (D.LT ++ [x0])) r u → ((tyM U x0 D.LT.length)).1.1 2 = 0 ∧ ((tyM U x0 D.LT.length)).2 = r ∧ Sm d (cdm D.S D.B D.N D.V D.nw D.dp D.f D.g u (D.LT ++ [x0]) D.vb D.p0 D.gp D.ul D.LL D.F) ((tyM U x0 D.LT.length)).1) ∧ (∀ k1 : Nat, (fun k => (k = 2 ∧ inR x0 32 126 = false) ∨ (k = 3 ∧ inR x0 32 126 = true ∧ 60 ≤ D.LT.length)) k1 → (k1 = 2 ∨ k1 = 3) ∧ (if k1 = 2 then 1 else (if k1 = 3 then 2 else 0)) = ((tyM U x0 D.LT.length)).1.1 2 ∧ Sm d (D) ((tyM U x0 D.LT.length)).1) := by
  refine ⟨fun r u hp => ?_, fun k1 hp => ?_⟩
  · obtain ⟨p1, p2, p3, p4⟩ := hp
    obtain ⟨t1, t2, t3⟩ := (sim_type (h.mono (show c ≤ d by omega) hd4) x0).2.2 p1 p2
    exact ⟨t1, t2.trans p3.symm, t3 u p4⟩
  · rcases hp with ⟨p1, p2⟩ | ⟨p1, p2, p3⟩
    · obtain ⟨t1, t2⟩ := (sim_type (h.mono (show c ≤ d by omega) hd4) x0).1 p2
      rw [p1]
      exact ⟨Or.inl rfl, t1.symm, t2⟩
    · obtain ⟨t1, t2⟩ := (sim_type (h.mono (show c ≤ d by omega) hd4) x0).2.1 p2 p3
      rw [p1]
      exact ⟨Or.inr rfl, t1.symm, t2⟩
theorem fin_writeOrder {c d : Int} {D : CD} {U : MV_} (h : Sm c D U) (hd : c + 60 ≤ d) (hd4 : d ≤ 40000) (x0 : Int32) : (∀ (r : Int32) (u : Nat × (Nat × Nat × (Nat → Int32) × Int32)), (fun r z => slotF D.S x0 (nO D.S) = some z.1 ∧ r = nI (((((dgN x0 ++ [if buyS D.S z.1 = true then nI 98 else nI 115]) ++ dgN (D.S.2.1 6 z.1)) ++ [nI 120]) ++ dgN (D.S.2.1 5 z.1))).length ∧ sbT z.2 ((((dgN x0 ++ [if buyS D.S z.1 = true then nI 98 else nI 115]) ++ dgN (D.S.2.1 6 z.1)) ++ [nI 120]) ++ dgN (D.S.2.1 5 z.1))) r u → ((woM U x0)).1.1 2 = 0 ∧ ((woM U x0)).2 = r ∧ Sm d (cdm D.S D.B D.N D.V D.nw D.dp D.f D.g D.ut D.LT D.vb D.p0 D.gp u.2 ((((dgN x0 ++ [if buyS D.S u.1 = true then nI 98 else nI 115]) ++ dgN (D.S.2.1 6 u.1)) ++ [nI 120]) ++ dgN (D.S.2.1 5 u.1)) D.F) ((woM U x0)).1) ∧ (∀ k1 : Nat, (fun k => k = 5 ∧ slotF D.S x0 (nO D.S) = none) k1 → (k1 = 5) ∧ (if k1 = 5 then 1 else 0) = ((woM U x0)).1.1 2 ∧ Sm d (D) ((woM U x0)).1) := by
  refine ⟨fun r u hp => ?_, fun k1 hp => ?_⟩
  · obtain ⟨p1, p2, p3⟩ := hp
    obtain ⟨t1, t2, t3⟩ := (sim_wo (h.mono (show c ≤ d by omega) hd4) x0).2 u.1 p1
    exact ⟨t1, t2.trans p2.symm, t3 u.2 p3⟩
  · obtain ⟨p1, p2⟩ := hp
    obtain ⟨t1, t2⟩ := (sim_wo (h.mono (show c ≤ d by omega) hd4) x0).1 p2
    rw [p1]
    exact ⟨rfl, t1.symm, t2⟩
theorem fin_lineAt {c d : Int} {D : CD} {U : MV_} (h : Sm c D U) (hd : c + 60 ≤ d) (hd4 : d ≤ 40000) (x0 : Int32) : (∀ (r : Int32) (u : Nat), (fun r i => i < D.LL.length ∧ x0 = nI i ∧ r = D.LL.getD i 0) r u → ((mI U 2 (bI (!inR x0 0 (nI D.LL.length - 1))), (if inR x0 0 (nI D.LL.length - 1) = true then U.2 4 x0.toNatClampNeg else 32))).1.1 2 = 0 ∧ ((mI U 2 (bI (!inR x0 0 (nI D.LL.length - 1))), (if inR x0 0 (nI D.LL.length - 1) = true then U.2 4 x0.toNatClampNeg else 32))).2 = r ∧ Sm d (D) ((mI U 2 (bI (!inR x0 0 (nI D.LL.length - 1))), (if inR x0 0 (nI D.LL.length - 1) = true then U.2 4 x0.toNatClampNeg else 32))).1) ∧ (∀ k1 : Nat, (fun k => k = 1 ∧ (x0 < 0 ∨ ¬ x0 < nI D.LL.length)) k1 → (k1 = 1) ∧ (if k1 = 1 then 1 else 0) = ((mI U 2 (bI (!inR x0 0 (nI D.LL.length - 1))), (if inR x0 0 (nI D.LL.length - 1) = true then U.2 4 x0.toNatClampNeg else 32))).1.1 2 ∧ Sm d (D) ((mI U 2 (bI (!inR x0 0 (nI D.LL.length - 1))), (if inR x0 0 (nI D.LL.length - 1) = true then U.2 4 x0.toNatClampNeg else 32))).1) := by
  refine ⟨fun r u hp => ?_, fun k1 hp => ?_⟩
  · obtain ⟨p1, p2, p3⟩ := hp
    obtain ⟨t1, t2⟩ := (sim_la h x0).1 u p1 p2
    exact ⟨by show bI (!_) = 0; rw [t1]; rfl, by show (if _ then _ else _) = r; rw [if_pos t1, t2, p3], (h.mono (show c ≤ d by omega) hd4).thr _⟩
  · obtain ⟨p1, p2⟩ := hp
    have t1 := (sim_la h x0).2 p2
    rw [p1]
    exact ⟨rfl, by show _ = bI (!_); rw [t1]; rfl, (h.mono (show c ≤ d by omega) hd4).thr _⟩
