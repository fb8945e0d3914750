/-! The law's start -/
theorem arr_K {args : Array Value} {s : State} {ty : FieldType} (h : (Cond.arrayClass ty).before args s = true) : ∃ cA, ArrOfT s cA ty ∧ s.vm.findClass ("[" ++ ty.toString) = some cA := by
  simp only [Cond.before, Cond.holds, Cond.value] at h
  cases hf : s.vm.findClass ("[" ++ ty.toString) with
  | none => rw [hf] at h; simp at h
  | some cA =>
    rw [hf] at h
    simp only [Option.bind_some] at h
    cases hc : s.vm.classes[cA]? with
    | none => rw [hc] at h; simp at h
    | some kA =>
      rw [hc] at h
      simp only [Option.map_some] at h
      cases hk : kA.kind with
      | array comp t =>
        rw [hk] at h
        simp at h
        subst h
        exact ⟨cA, fun n z => ⟨fun k h => (by cases h), kA, hc, comp, hk⟩, rfl⟩
      | _ => rw [hk] at h; simp at h
theorem arr_Q {args : Array Value} {s : State} {C : String} (h : (Cond.arrayOver (.object C)).before args s = true) : ∃ cA, ArrOfT s cA (.object C) ∧ va_RA s cA (.object C) := by
  simp only [Cond.before, Cond.holds, Cond.value] at h
  simp only [beq_iff_eq, Option.bind_eq_some_iff, Option.map_eq_some_iff] at h
  obtain ⟨comp, hf, cA, hi, kA, hc, h⟩ := h
  cases hk : kA.kind with
  | array comp2 t =>
    rw [hk] at h
    simp at h
    obtain ⟨h1, h2⟩ := h
    subst h1
    have e : comp2 = comp := by
      obtain ⟨hlt, hp, -⟩ := Array.findIdx?_eq_some_iff_getElem.mp hi
      have e2 : s.vm.classes[cA] = kA := by
        rw [Array.getElem?_eq_getElem hlt] at hc
        exact Option.some.inj hc
      rw [e2, hk] at hp
      simpa using hp
    subst e
    exact ⟨cA, fun n z => ⟨fun k h => (by cases h), kA, hc, comp2, hk⟩, kA, comp2, hc, hk, hf, h2⟩
  | _ => rw [hk] at h; simp at h
set_option maxHeartbeats 4000000 in
set_option maxRecDepth 100000 in
theorem en_F {args : Array Value} {s : State} {A : Nat → Prop} (hts : ∀ w ∈ lw_tbl, w.before args s = true) (hgv : (Jvm.Cond.and given_1 narrow_1).before args s = true) (hA : ∀ a : Nat, a < s.heap.size → ¬ A a) : ∃ ad : Nat → Nat, va_En "DropMarket$Fault" "LDropMarket$Fault;" nmF [] ad A s s.heap := by
  have hs := flat_of_before _ hgv
  refine va_Enof (fun i hi => ?_) (hts _ (tb1 _ (List.mem_of_getElem? (i := 16) rfl))) (fun i hi => ?_) (fun q hq i hi => ?_) (fun i j hi hj hne => ?_) hA
  · have hi : i < 6 := hi
    rcases (show i = 0 ∨ i = 1 ∨ i = 2 ∨ i = 3 ∨ i = 4 ∨ i = 5 by omega) with rfl | rfl | rfl | rfl | rfl | rfl
    · exact hts _ (tb2 _ (List.mem_of_getElem? (i := 86) rfl))
    · exact hts _ (tb2 _ (List.mem_of_getElem? (i := 91) rfl))
    · exact hts _ (tb2 _ (List.mem_of_getElem? (i := 78) rfl))
    · exact hts _ (tb2 _ (List.mem_of_getElem? (i := 84) rfl))
    · exact hts _ (tb2 _ (List.mem_of_getElem? (i := 199) rfl))
    · exact hts _ (tb2 _ (List.mem_of_getElem? (i := 217) rfl))
  · have hi : i < 6 := hi
    rcases (show i = 0 ∨ i = 1 ∨ i = 2 ∨ i = 3 ∨ i = 4 ∨ i = 5 by omega) with rfl | rfl | rfl | rfl | rfl | rfl
    · exact hs _ (List.mem_of_getElem? (i := 17) rfl)
    · exact hs _ (List.mem_of_getElem? (i := 22) rfl)
    · exact hs _ (List.mem_of_getElem? (i := 10) rfl)
    · exact hs _ (List.mem_of_getElem? (i := 13) rfl)
    · exact hs _ (List.mem_of_getElem? (i := 30) rfl)
    · exact hs _ (List.mem_of_getElem? (i := 37) rfl)
  · exact absurd hq (by simp)
  · have hi : i < 6 := hi
    have hj : j < 6 := hj
    rcases (show i = 0 ∨ i = 1 ∨ i = 2 ∨ i = 3 ∨ i = 4 ∨ i = 5 by omega) with rfl | rfl | rfl | rfl | rfl | rfl
    · rcases (show j = 0 ∨ j = 1 ∨ j = 2 ∨ j = 3 ∨ j = 4 ∨ j = 5 by omega) with rfl | rfl | rfl | rfl | rfl | rfl
      · exact absurd rfl hne
      · exact Or.inl (hs _ (List.mem_of_getElem? (i := 27) rfl))
      · exact Or.inr (hs _ (List.mem_of_getElem? (i := 20) rfl))
      · exact Or.inr (hs _ (List.mem_of_getElem? (i := 21) rfl))
      · exact Or.inl (hs _ (List.mem_of_getElem? (i := 35) rfl))
      · exact Or.inl (hs _ (List.mem_of_getElem? (i := 42) rfl))
    · rcases (show j = 0 ∨ j = 1 ∨ j = 2 ∨ j = 3 ∨ j = 4 ∨ j = 5 by omega) with rfl | rfl | rfl | rfl | rfl | rfl
      · exact Or.inr (hs _ (List.mem_of_getElem? (i := 27) rfl))
      · exact absurd rfl hne
      · exact Or.inr (hs _ (List.mem_of_getElem? (i := 25) rfl))
      · exact Or.inr (hs _ (List.mem_of_getElem? (i := 26) rfl))
      · exact Or.inl (hs _ (List.mem_of_getElem? (i := 36) rfl))
      · exact Or.inl (hs _ (List.mem_of_getElem? (i := 43) rfl))
    · rcases (show j = 0 ∨ j = 1 ∨ j = 2 ∨ j = 3 ∨ j = 4 ∨ j = 5 by omega) with rfl | rfl | rfl | rfl | rfl | rfl
      · exact Or.inl (hs _ (List.mem_of_getElem? (i := 20) rfl))
      · exact Or.inl (hs _ (List.mem_of_getElem? (i := 25) rfl))
      · exact absurd rfl hne
      · exact Or.inl (hs _ (List.mem_of_getElem? (i := 16) rfl))
      · exact Or.inl (hs _ (List.mem_of_getElem? (i := 33) rfl))
      · exact Or.inl (hs _ (List.mem_of_getElem? (i := 40) rfl))
    · rcases (show j = 0 ∨ j = 1 ∨ j = 2 ∨ j = 3 ∨ j = 4 ∨ j = 5 by omega) with rfl | rfl | rfl | rfl | rfl | rfl
      · exact Or.inl (hs _ (List.mem_of_getElem? (i := 21) rfl))
      · exact Or.inl (hs _ (List.mem_of_getElem? (i := 26) rfl))
      · exact Or.inr (hs _ (List.mem_of_getElem? (i := 16) rfl))
      · exact absurd rfl hne
      · exact Or.inl (hs _ (List.mem_of_getElem? (i := 34) rfl))
      · exact Or.inl (hs _ (List.mem_of_getElem? (i := 41) rfl))
    · rcases (show j = 0 ∨ j = 1 ∨ j = 2 ∨ j = 3 ∨ j = 4 ∨ j = 5 by omega) with rfl | rfl | rfl | rfl | rfl | rfl
      · exact Or.inr (hs _ (List.mem_of_getElem? (i := 35) rfl))
      · exact Or.inr (hs _ (List.mem_of_getElem? (i := 36) rfl))
      · exact Or.inr (hs _ (List.mem_of_getElem? (i := 33) rfl))
      · exact Or.inr (hs _ (List.mem_of_getElem? (i := 34) rfl))
      · exact absurd rfl hne
      · exact Or.inl (hs _ (List.mem_of_getElem? (i := 44) rfl))
    · rcases (show j = 0 ∨ j = 1 ∨ j = 2 ∨ j = 3 ∨ j = 4 ∨ j = 5 by omega) with rfl | rfl | rfl | rfl | rfl | rfl
      · exact Or.inr (hs _ (List.mem_of_getElem? (i := 42) rfl))
      · exact Or.inr (hs _ (List.mem_of_getElem? (i := 43) rfl))
      · exact Or.inr (hs _ (List.mem_of_getElem? (i := 40) rfl))
      · exact Or.inr (hs _ (List.mem_of_getElem? (i := 41) rfl))
      · exact Or.inr (hs _ (List.mem_of_getElem? (i := 44) rfl))
      · exact absurd rfl hne
set_option maxHeartbeats 4000000 in
set_option maxRecDepth 100000 in
theorem en_V {args : Array Value} {s : State} {A : Nat → Prop} (hts : ∀ w ∈ lw_tbl, w.before args s = true) (hgv : (Jvm.Cond.and given_1 narrow_1).before args s = true) (hA : ∀ a : Nat, a < s.heap.size → ¬ A a) : ∃ ad : Nat → Nat, va_En "DropMarket$Verb" "LDropMarket$Verb;" nmV flV ad A s s.heap := by
  have hs := flat_of_before _ hgv
  refine va_Enof (fun i hi => ?_) (hts _ (tb1 _ (List.mem_of_getElem? (i := 15) rfl))) (fun i hi => ?_) (fun q hq i hi => ?_) (fun i j hi hj hne => ?_) hA
  · have hi : i < 7 := hi
    rcases (show i = 0 ∨ i = 1 ∨ i = 2 ∨ i = 3 ∨ i = 4 ∨ i = 5 ∨ i = 6 by omega) with rfl | rfl | rfl | rfl | rfl | rfl | rfl
    · exact hts _ (tb7 _ (List.mem_of_getElem? (i := 178) rfl))
    · exact hts _ (tb7 _ (List.mem_of_getElem? (i := 179) rfl))
    · exact hts _ (tb7 _ (List.mem_of_getElem? (i := 180) rfl))
    · exact hts _ (tb7 _ (List.mem_of_getElem? (i := 181) rfl))
    · exact hts _ (tb7 _ (List.mem_of_getElem? (i := 182) rfl))
    · exact hts _ (tb2 _ (List.mem_of_getElem? (i := 7) rfl))
    · exact hts _ (tb7 _ (List.mem_of_getElem? (i := 183) rfl))
  · have hi : i < 7 := hi
    rcases (show i = 0 ∨ i = 1 ∨ i = 2 ∨ i = 3 ∨ i = 4 ∨ i = 5 ∨ i = 6 by omega) with rfl | rfl | rfl | rfl | rfl | rfl | rfl
    · exact hs _ (List.mem_of_getElem? (i := 277) rfl)
    · exact hs _ (List.mem_of_getElem? (i := 289) rfl)
    · exact hs _ (List.mem_of_getElem? (i := 302) rfl)
    · exact hs _ (List.mem_of_getElem? (i := 316) rfl)
    · exact hs _ (List.mem_of_getElem? (i := 331) rfl)
    · exact hs _ (List.mem_of_getElem? (i := 5) rfl)
    · exact hs _ (List.mem_of_getElem? (i := 347) rfl)
  · have hi : i < 7 := hi
    simp only [List.mem_cons, List.not_mem_nil, or_false] at hq
    rcases hq with rfl | rfl | rfl
    · rcases (show i = 0 ∨ i = 1 ∨ i = 2 ∨ i = 3 ∨ i = 4 ∨ i = 5 ∨ i = 6 by omega) with rfl | rfl | rfl | rfl | rfl | rfl | rfl
      · exact hs _ (List.mem_of_getElem? (i := 278) rfl)
      · exact hs _ (List.mem_of_getElem? (i := 290) rfl)
      · exact hs _ (List.mem_of_getElem? (i := 303) rfl)
      · exact hs _ (List.mem_of_getElem? (i := 317) rfl)
      · exact hs _ (List.mem_of_getElem? (i := 332) rfl)
      · exact hs _ (List.mem_of_getElem? (i := 6) rfl)
      · exact hs _ (List.mem_of_getElem? (i := 348) rfl)
    · rcases (show i = 0 ∨ i = 1 ∨ i = 2 ∨ i = 3 ∨ i = 4 ∨ i = 5 ∨ i = 6 by omega) with rfl | rfl | rfl | rfl | rfl | rfl | rfl
      · exact hs _ (List.mem_of_getElem? (i := 280) rfl)
      · exact hs _ (List.mem_of_getElem? (i := 292) rfl)
      · exact hs _ (List.mem_of_getElem? (i := 305) rfl)
      · exact hs _ (List.mem_of_getElem? (i := 319) rfl)
      · exact hs _ (List.mem_of_getElem? (i := 334) rfl)
      · exact hs _ (List.mem_of_getElem? (i := 8) rfl)
      · exact hs _ (List.mem_of_getElem? (i := 350) rfl)
    · rcases (show i = 0 ∨ i = 1 ∨ i = 2 ∨ i = 3 ∨ i = 4 ∨ i = 5 ∨ i = 6 by omega) with rfl | rfl | rfl | rfl | rfl | rfl | rfl
      · exact hs _ (List.mem_of_getElem? (i := 281) rfl)
      · exact hs _ (List.mem_of_getElem? (i := 293) rfl)
      · exact hs _ (List.mem_of_getElem? (i := 306) rfl)
      · exact hs _ (List.mem_of_getElem? (i := 320) rfl)
      · exact hs _ (List.mem_of_getElem? (i := 335) rfl)
      · exact hs _ (List.mem_of_getElem? (i := 9) rfl)
      · exact hs _ (List.mem_of_getElem? (i := 351) rfl)
  · have hi : i < 7 := hi
    have hj : j < 7 := hj
    rcases (show i = 0 ∨ i = 1 ∨ i = 2 ∨ i = 3 ∨ i = 4 ∨ i = 5 ∨ i = 6 by omega) with rfl | rfl | rfl | rfl | rfl | rfl | rfl
    · rcases (show j = 0 ∨ j = 1 ∨ j = 2 ∨ j = 3 ∨ j = 4 ∨ j = 5 ∨ j = 6 by omega) with rfl | rfl | rfl | rfl | rfl | rfl | rfl
      · exact absurd rfl hne
      · exact Or.inl (hs _ (List.mem_of_getElem? (i := 301) rfl))
      · exact Or.inl (hs _ (List.mem_of_getElem? (i := 314) rfl))
      · exact Or.inl (hs _ (List.mem_of_getElem? (i := 328) rfl))
      · exact Or.inl (hs _ (List.mem_of_getElem? (i := 343) rfl))
      · exact Or.inr (hs _ (List.mem_of_getElem? (i := 282) rfl))
      · exact Or.inl (hs _ (List.mem_of_getElem? (i := 359) rfl))
    · rcases (show j = 0 ∨ j = 1 ∨ j = 2 ∨ j = 3 ∨ j = 4 ∨ j = 5 ∨ j = 6 by omega) with rfl | rfl | rfl | rfl | rfl | rfl | rfl
      · exact Or.inr (hs _ (List.mem_of_getElem? (i := 301) rfl))
      · exact absurd rfl hne
      · exact Or.inl (hs _ (List.mem_of_getElem? (i := 315) rfl))
      · exact Or.inl (hs _ (List.mem_of_getElem? (i := 329) rfl))
      · exact Or.inl (hs _ (List.mem_of_getElem? (i := 344) rfl))
      · exact Or.inr (hs _ (List.mem_of_getElem? (i := 294) rfl))
      · exact Or.inl (hs _ (List.mem_of_getElem? (i := 360) rfl))
    · rcases (show j = 0 ∨ j = 1 ∨ j = 2 ∨ j = 3 ∨ j = 4 ∨ j = 5 ∨ j = 6 by omega) with rfl | rfl | rfl | rfl | rfl | rfl | rfl
      · exact Or.inr (hs _ (List.mem_of_getElem? (i := 314) rfl))
      · exact Or.inr (hs _ (List.mem_of_getElem? (i := 315) rfl))
      · exact absurd rfl hne
      · exact Or.inl (hs _ (List.mem_of_getElem? (i := 330) rfl))
      · exact Or.inl (hs _ (List.mem_of_getElem? (i := 345) rfl))
      · exact Or.inr (hs _ (List.mem_of_getElem? (i := 307) rfl))
      · exact Or.inl (hs _ (List.mem_of_getElem? (i := 361) rfl))
    · rcases (show j = 0 ∨ j = 1 ∨ j = 2 ∨ j = 3 ∨ j = 4 ∨ j = 5 ∨ j = 6 by omega) with rfl | rfl | rfl | rfl | rfl | rfl | rfl
      · exact Or.inr (hs _ (List.mem_of_getElem? (i := 328) rfl))
      · exact Or.inr (hs _ (List.mem_of_getElem? (i := 329) rfl))
      · exact Or.inr (hs _ (List.mem_of_getElem? (i := 330) rfl))
      · exact absurd rfl hne
      · exact Or.inl (hs _ (List.mem_of_getElem? (i := 346) rfl))
      · exact Or.inr (hs _ (List.mem_of_getElem? (i := 321) rfl))
      · exact Or.inl (hs _ (List.mem_of_getElem? (i := 362) rfl))
    · rcases (show j = 0 ∨ j = 1 ∨ j = 2 ∨ j = 3 ∨ j = 4 ∨ j = 5 ∨ j = 6 by omega) with rfl | rfl | rfl | rfl | rfl | rfl | rfl
      · exact Or.inr (hs _ (List.mem_of_getElem? (i := 343) rfl))
      · exact Or.inr (hs _ (List.mem_of_getElem? (i := 344) rfl))
      · exact Or.inr (hs _ (List.mem_of_getElem? (i := 345) rfl))
      · exact Or.inr (hs _ (List.mem_of_getElem? (i := 346) rfl))
      · exact absurd rfl hne
      · exact Or.inr (hs _ (List.mem_of_getElem? (i := 336) rfl))
      · exact Or.inl (hs _ (List.mem_of_getElem? (i := 363) rfl))
    · rcases (show j = 0 ∨ j = 1 ∨ j = 2 ∨ j = 3 ∨ j = 4 ∨ j = 5 ∨ j = 6 by omega) with rfl | rfl | rfl | rfl | rfl | rfl | rfl
      · exact Or.inl (hs _ (List.mem_of_getElem? (i := 282) rfl))
      · exact Or.inl (hs _ (List.mem_of_getElem? (i := 294) rfl))
      · exact Or.inl (hs _ (List.mem_of_getElem? (i := 307) rfl))
      · exact Or.inl (hs _ (List.mem_of_getElem? (i := 321) rfl))
      · exact Or.inl (hs _ (List.mem_of_getElem? (i := 336) rfl))
      · exact absurd rfl hne
      · exact Or.inl (hs _ (List.mem_of_getElem? (i := 352) rfl))
    · rcases (show j = 0 ∨ j = 1 ∨ j = 2 ∨ j = 3 ∨ j = 4 ∨ j = 5 ∨ j = 6 by omega) with rfl | rfl | rfl | rfl | rfl | rfl | rfl
      · exact Or.inr (hs _ (List.mem_of_getElem? (i := 359) rfl))
      · exact Or.inr (hs _ (List.mem_of_getElem? (i := 360) rfl))
      · exact Or.inr (hs _ (List.mem_of_getElem? (i := 361) rfl))
      · exact Or.inr (hs _ (List.mem_of_getElem? (i := 362) rfl))
      · exact Or.inr (hs _ (List.mem_of_getElem? (i := 363) rfl))
      · exact Or.inr (hs _ (List.mem_of_getElem? (i := 352) rfl))
      · exact absurd rfl hne
set_option maxHeartbeats 4000000 in
set_option maxRecDepth 100000 in
theorem start_SF {l : Launch} (hflags : l.flags = flags0) {s : State} {b : Nat} (hts : ∀ w ∈ lw_tbl, w.before #[Value.ref b] s = true) (hgv : (Jvm.Cond.and given_1 narrow_1).before #[Value.ref b] s = true) : ∃ G : Gx, G.2.1 = s ∧ SF l G := by
  have hL : ∀ w ∈ LW, w.before #[Value.ref b] s = true := fun w hw => hts w (LW_in w hw)
  have hA : ∀ a : Nat, a < s.heap.size → ¬ (fun q : Nat => s.heap.size ≤ q) a := fun a h => Nat.not_le.mpr h
  obtain ⟨adF, hE1⟩ := en_F hts hgv hA
  obtain ⟨adV, hE2⟩ := en_V hts hgv hA
  obtain ⟨c0, i0, h0⟩ := u_known hL in_J0 (hL _ isb_J0)
  obtain ⟨c1, i1, h1⟩ := u_known hL in_J4 (hL _ isb_J4)
  obtain ⟨c2, i2, h2⟩ := u_known hL in_Jx00060 (hL _ isb_Jx00060)
  obtain ⟨c3, i3, h3⟩ := u_known hL in_Jx7c733 (hL _ isb_Jx7c733)
  obtain ⟨c4, i4, h4⟩ := u_known hL in_X1 (hL _ isb_X1)
  obtain ⟨c5, i5, h5⟩ := u_known hL in_X2 (hL _ isb_X2)
  obtain ⟨c6, i6, h6⟩ := u_known hL in_X4 (hL _ isb_X4)
  obtain ⟨c7, i7, h7⟩ := u_known hL in_X5 (hL _ isb_X5)
  obtain ⟨c8, i8, h8⟩ := u_known hL in_X6 (hL _ isb_X6)
  obtain ⟨c9, i9, h9⟩ := u_known hL in_X7 (hL _ isb_X7)
  obtain ⟨c10, i10, h10⟩ := u_known hL in_X8 (hL _ isb_X8)
  obtain ⟨c11, i11, h11⟩ := u_known hL in_X9 (hL _ isb_X9)
  obtain ⟨c12, i12, h12⟩ := u_known hL in_X11 (hL _ isb_X11)
  obtain ⟨a0, p0, q0⟩ := arr_K (hL _ ac_int)
  obtain ⟨a1, p1, q1⟩ := arr_K (hL _ ac_byte)
  obtain ⟨a2, p2, q2⟩ := arr_K (hL _ ac_int)
  obtain ⟨a3, p3, q3⟩ := arr_Q (hts _ (tb1 _ (List.mem_of_getElem? (i := 177) rfl)))
  obtain ⟨a4, p4, q4⟩ := arr_K (hL _ ac_long)
  refine ⟨((fun k => ([c0, c1, c2, c3, c4, c5, c6, c7, c8, c9, c10, c11, c12] : List ClassId).getD k c0, fun k => ([i0, i1, i2, i3, i4, i5, i6, i7, i8, i9, i10, i11, i12] : List (Nat → Nat)).getD k i0), s, fun k => ([a0, a1, a2, a3, a4] : List ClassId).getD k a0, adF, adV), rfl, ?_, ⟨fun k q hq => ?_, fun k q hq => ?_⟩, hE1, hE2, b, hts, hgv⟩
  · unfold Launch.stackTraces
    rw [hflags]
    decide
  · match k, hq with
    | 0, hq => cases hq; exact h0
    | 1, hq => cases hq; exact h1
    | 2, hq => cases hq; exact h2
    | 3, hq => cases hq; exact h3
    | 4, hq => cases hq; exact h4
    | 5, hq => cases hq; exact h5
    | 6, hq => cases hq; exact h6
    | 7, hq => cases hq; exact h7
    | 8, hq => cases hq; exact h8
    | 9, hq => cases hq; exact h9
    | 10, hq => cases hq; exact h10
    | 11, hq => cases hq; exact h11
    | 12, hq => cases hq; exact h12
    | k + 13, hq => exact absurd hq (by simp)
  · match k, hq with
    | 0, hq => cases hq; exact ⟨p0, q0⟩
    | 1, hq => cases hq; exact ⟨p1, q1⟩
    | 2, hq => cases hq; exact ⟨p2, q2⟩
    | 3, hq => cases hq; exact ⟨p3, q3⟩
    | 4, hq => cases hq; exact ⟨p4, q4⟩
    | k + 5, hq => exact absurd hq (by simp)
