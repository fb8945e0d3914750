/-! Rows of the law: arrays behind the market's world, questions with known answers -/
theorem cw_app (G : Gx) (K r : Nat → Nat → Nat) (D : CD) (X : va_W) : cW G K r D X = cW G K r D [] ++ X := by
  unfold cW
  simp only [List.append_assoc, List.append_nil]
theorem cw_in (G : Gx) (K r : Nat → Nat → Nat) (D : CD) (c : Nat × va_E) (X : va_W) : List.Perm (cW G K r D (c :: X)) (c :: cW G K r D X) := by
  rw [cw_app G K r D (c :: X), cw_app G K r D X]
  exact List.perm_middle
theorem q_pr {x : Nat} (h : 1 ≤ x ∧ x < 100) : inR (nI x) 1 99 = true := by
  rw [inR_i, show (1 : Int32).toInt = 1 by decide, show (99 : Int32).toInt = 99 by decide, i_nI (by omega)]
  omega
section LXROWS
variable {p : Program} {l : Launch} {e : Env} {R : Room} {s : State} {m : MethodId} {args : Array Value} {below : List Frame} {meth : Method} {c : Code} {H : Heap} {locs : List Loc} {cells slots : Nat} {Q : State → Prop}
variable {G : Gx} {own : String} {cc : ByteArray} {nL : Nat} {ret : Option FieldType} {pc : Nat} {ls : Array Slot} {rest st : List Value} {w : va_W}
variable {c9 : Int} {D : CD} {U : MV_} {K r : Nat → Nat → Nat} {X : va_W}
theorem lx_iald (C : Cx l G own cc nL ret p s m meth c args) {a n : Nat} {f : Nat → Int32} (hw : WH G s (cW G K r D ((a, .inl (G.2.2.1 0, n, .inl f)) :: X)) H locs) {i : Nat} (hi : i < n) (hn : n < 2 ^ 31) (hdg : decode cc pc = .ok (.iaload, 1))
    (kk : W p l e R s m args below meth c H locs cells slots Q (F0 m (pc + 1) ls (.int (f i) :: rest))) : W p l e R s m args below meth c H locs cells slots Q (F0 m pc ls (.int (nI i) :: .ref a :: rest)) := by
  refine r_iald C (hw.perm (cw_in G K r D _ X)) 0 rfl (vp_in_nI hi hn) hdg ?_
  rw [nI_clamp (by omega)]
  exact kk
theorem lx_iast (C : Cx l G own cc nL ret p s m meth c args) {a n : Nat} {f : Nat → Int32} (hw : WH G s (cW G K r D ((a, .inl (G.2.2.1 0, n, .inl f)) :: X)) H locs) {i : Nat} {x : Int32} (hi : i < n) (hn : n < 2 ^ 31) (hdg : decode cc pc = .ok (.iastore, 1))
    (kk : ∀ (H : Heap) (locs : List Loc), WH G s (cW G K r D ((a, .inl (G.2.2.1 0, n, .inl (upd f i x))) :: X)) H locs → W p l e R s m args below meth c H locs cells slots Q (F0 m (pc + 1) ls rest)) : W p l e R s m args below meth c H locs cells slots Q (F0 m pc ls (.int x :: .int (nI i) :: .ref a :: rest)) :=
  r_iast C (hw.perm (cw_in G K r D _ X)) 0 rfl (vp_in_nI hi hn) (w' := (a, .inl (G.2.2.1 0, n, .inl (upd f i x))) :: cW G K r D X) (by rw [nI_clamp (by omega)]; rfl) hdg (fun H locs hw => kk H locs (hw.perm (cw_in G K r D _ X).symm))
theorem lx_lald (C : Cx l G own cc nL ret p s m meth c args) {a n : Nat} {f : Nat → Int64} (hw : WH G s (cW G K r D ((a, .inl (G.2.2.1 4, n, .inr (.inl f))) :: X)) H locs) {i : Nat} (hi : i < n) (hn : n < 2 ^ 31) (hdg : decode cc pc = .ok (.laload, 1))
    (kk : W p l e R s m args below meth c H locs cells slots Q (F0 m (pc + 1) ls (.long (f i) :: rest))) : W p l e R s m args below meth c H locs cells slots Q (F0 m pc ls (.int (nI i) :: .ref a :: rest)) := by
  refine r_lald C (hw.perm (cw_in G K r D _ X)) 0 rfl (vp_in_nI hi hn) hdg ?_
  rw [nI_clamp (by omega)]
  exact kk
theorem lx_last (C : Cx l G own cc nL ret p s m meth c args) {a n : Nat} {f : Nat → Int64} (hw : WH G s (cW G K r D ((a, .inl (G.2.2.1 4, n, .inr (.inl f))) :: X)) H locs) {i : Nat} {x : Int64} (hi : i < n) (hn : n < 2 ^ 31) (hdg : decode cc pc = .ok (.lastore, 1))
    (kk : ∀ (H : Heap) (locs : List Loc), WH G s (cW G K r D ((a, .inl (G.2.2.1 4, n, .inr (.inl (vp_updL f i x)))) :: X)) H locs → W p l e R s m args below meth c H locs cells slots Q (F0 m (pc + 1) ls rest)) : W p l e R s m args below meth c H locs cells slots Q (F0 m pc ls (.long x :: .int (nI i) :: .ref a :: rest)) :=
  r_last C (hw.perm (cw_in G K r D _ X)) 0 rfl (vp_in_nI hi hn) (w' := (a, .inl (G.2.2.1 4, n, .inr (.inl (vp_updL f i x)))) :: cW G K r D X) (by rw [nI_clamp (by omega)]; rfl) hdg (fun H locs hw => kk H locs (hw.perm (cw_in G K r D _ X).symm))
theorem lx_newi (C : Cx l G own cc nL ret p s m meth c args) (hw : WH G s (cW G K r D X) H locs) {n : Nat} {x : Int32} (hx : x = nI n) (hn : n < 1000) (hf : cells + 1 ≤ R.cells ∧ slots + n ≤ R.slots) (hdg : decode cc pc = .ok (.newarray .int, 2))
    (kk : ∀ (q : Nat) (H : Heap) (locs : List Loc), WH G s (cW G K r D ((q, .inl (G.2.2.1 0, n, .inl (fun _ => 0))) :: X)) H locs → W p l e R s m args below meth c H locs (cells + 1) (slots + n) Q (F0 m (pc + 2) ls (.ref q :: rest))) : W p l e R s m args below meth c H locs cells slots Q (F0 m pc ls (.int x :: rest)) := by
  subst hx
  exact r_newa C hw (atype := .int) 0 rfl rfl ac_int (n := n) rfl (by omega) (w' := fun z => cW G K r D ((z, .inl (G.2.2.1 0, n, .inl (fun _ => 0))) :: X)) (fun z => (List.perm_append_singleton _ _).trans (cw_in G K r D _ X).symm) (show n * 4 ≤ _ by omega) hf.1 hf.2 hdg kk
theorem lx_newl (C : Cx l G own cc nL ret p s m meth c args) (hw : WH G s (cW G K r D X) H locs) {n : Nat} {x : Int32} (hx : x = nI n) (hn : n < 1000) (hf : cells + 1 ≤ R.cells ∧ slots + n ≤ R.slots) (hdg : decode cc pc = .ok (.newarray .long, 2))
    (kk : ∀ (q : Nat) (H : Heap) (locs : List Loc), WH G s (cW G K r D ((q, .inl (G.2.2.1 4, n, .inr (.inl (fun _ => 0)))) :: X)) H locs → W p l e R s m args below meth c H locs (cells + 1) (slots + n) Q (F0 m (pc + 2) ls (.ref q :: rest))) : W p l e R s m args below meth c H locs cells slots Q (F0 m pc ls (.int x :: rest)) := by
  subst hx
  obtain ⟨hx, hb, hr, hml, hown, hts, -, -, -⟩ := id C
  refine va_newa (D := G.1) (atype := .long) (a0 := (n, .inr (.inl (fun _ => 0)))) hx hb (hts _ ac_long) rfl C.K hw.2.2.1 hw.2.2.2 hw.2.1 (fun q h => Nat.le_trans hw.1.1 h) (fun cA => rfl) (nI_pos (by omega)) (nI_clamp (by omega)) (show n * 8 ≤ _ by omega) hf.1 hf.2 hdg (fun q cA H1 hK hP hD hS => ?_)
  have e1 : va_RA s (G.2.2.1 4) .long := ((C.K).2 4 _ rfl).2
  have e2 : va_RA s cA .long := (hK.2 (gT G).length (cA, .long) (by rw [List.getElem?_append_right (Nat.le_refl _), Nat.sub_self]; rfl)).2
  rw [ra_eq e1 e2] at hP hD
  exact kk q H1 _ (WH.perm ⟨hw.1, hS, hP, hD⟩ ((List.perm_append_singleton _ _).trans (cw_in G K r D _ X).symm))
theorem e_orderAt (C : Cx l G RL cc nL ret p s m meth c args) (hw : WH G s (cW G K r D X) H locs) (h : Sm c9 D U) {k : Nat} (hk : k < nF (U.2 0)) {index : Nat} (ml : Cond.methodLink RL index yX11_orderAt ∈ LW) (hR : 7 ≤ R.frames ∧ 405 ≤ R.locals) (hf : cells + 1 ≤ R.cells ∧ slots + 6 ≤ R.slots) (hsz : ls.size = nL) (hrest : (rest.map fun v => v.category).sum ≤ 8) (hdg : decode cc pc = .ok (.invokevirtual index, 3))
    (kk : ∀ (H : Heap) (locs : List Loc), WH G s (cW G K r D X) H locs → W p l e R s m args below meth c H locs (cells + 1) (slots + 6) Q (F0 m (pc + 3) ls (.int (oF (U.2 0) k 0) :: rest))) : W p l e R s m args below meth c H locs cells slots Q (F0 m pc ls (.int (nI k) :: .ref (K 7 0) :: rest)) :=
  d_orderAt C hw h (x0 := (nI k)) (q_at h.okf hk).1 ml hR hf hsz hrest hdg (fun H locs hw => by rw [(q_at h.okf hk).2]; exact kk H locs hw)
theorem e_stallOf (C : Cx l G RL cc nL ret p s m meth c args) (hw : WH G s (cW G K r D X) H locs) (h : Sm c9 D U) {k : Nat} (hk : k < nF (U.2 0)) {index : Nat} (ml : Cond.methodLink RL index yX11_stallOf ∈ LW) (hR : 8 ≤ R.frames ∧ 469 ≤ R.locals) (hf : cells + 1 ≤ R.cells ∧ slots + 6 ≤ R.slots) (hsz : ls.size = nL) (hrest : (rest.map fun v => v.category).sum ≤ 8) (hdg : decode cc pc = .ok (.invokevirtual index, 3))
    (kk : ∀ (H : Heap) (locs : List Loc), WH G s (cW G K r D X) H locs → W p l e R s m args below meth c H locs (cells + 1) (slots + 6) Q (F0 m (pc + 3) ls (.int (oF (U.2 0) k 1) :: rest))) : W p l e R s m args below meth c H locs cells slots Q (F0 m pc ls (.int (oF (U.2 0) k 0) :: .ref (K 7 0) :: rest)) :=
  d_stallOf C hw h (x0 := (oF (U.2 0) k 0)) (q_te h.iz.1 hk).1 ml hR hf hsz hrest hdg (fun H locs hw => by rw [(q_te h.iz.1 hk).2 1]; exact kk H locs hw)
theorem e_priceOf (C : Cx l G RL cc nL ret p s m meth c args) (hw : WH G s (cW G K r D X) H locs) (h : Sm c9 D U) {k : Nat} (hk : k < nF (U.2 0)) {index : Nat} (ml : Cond.methodLink RL index yX11_priceOf ∈ LW) (hR : 8 ≤ R.frames ∧ 469 ≤ R.locals) (hf : cells + 1 ≤ R.cells ∧ slots + 6 ≤ R.slots) (hsz : ls.size = nL) (hrest : (rest.map fun v => v.category).sum ≤ 8) (hdg : decode cc pc = .ok (.invokevirtual index, 3))
    (kk : ∀ (H : Heap) (locs : List Loc), WH G s (cW G K r D X) H locs → W p l e R s m args below meth c H locs (cells + 1) (slots + 6) Q (F0 m (pc + 3) ls (.int (oF (U.2 0) k 3) :: rest))) : W p l e R s m args below meth c H locs cells slots Q (F0 m pc ls (.int (oF (U.2 0) k 0) :: .ref (K 7 0) :: rest)) :=
  d_priceOf C hw h (x0 := (oF (U.2 0) k 0)) (q_te h.iz.1 hk).1 ml hR hf hsz hrest hdg (fun H locs hw => by rw [(q_te h.iz.1 hk).2 3]; exact kk H locs hw)
theorem e_quantityOf (C : Cx l G RL cc nL ret p s m meth c args) (hw : WH G s (cW G K r D X) H locs) (h : Sm c9 D U) {k : Nat} (hk : k < nF (U.2 0)) {index : Nat} (ml : Cond.methodLink RL index yX11_quantityOf ∈ LW) (hR : 8 ≤ R.frames ∧ 469 ≤ R.locals) (hf : cells + 1 ≤ R.cells ∧ slots + 6 ≤ R.slots) (hsz : ls.size = nL) (hrest : (rest.map fun v => v.category).sum ≤ 8) (hdg : decode cc pc = .ok (.invokevirtual index, 3))
    (kk : ∀ (H : Heap) (locs : List Loc), WH G s (cW G K r D X) H locs → W p l e R s m args below meth c H locs (cells + 1) (slots + 6) Q (F0 m (pc + 3) ls (.int (oF (U.2 0) k 4) :: rest))) : W p l e R s m args below meth c H locs cells slots Q (F0 m pc ls (.int (oF (U.2 0) k 0) :: .ref (K 7 0) :: rest)) :=
  d_quantityOf C hw h (x0 := (oF (U.2 0) k 0)) (q_te h.iz.1 hk).1 ml hR hf hsz hrest hdg (fun H locs hw => by rw [(q_te h.iz.1 hk).2 4]; exact kk H locs hw)
theorem e_isBuying (C : Cx l G RL cc nL ret p s m meth c args) (hw : WH G s (cW G K r D X) H locs) (h : Sm c9 D U) {k : Nat} (hk : k < nF (U.2 0)) {index : Nat} (ml : Cond.methodLink RL index yX11_isBuying ∈ LW) (hR : 8 ≤ R.frames ∧ 469 ≤ R.locals) (hf : cells + 1 ≤ R.cells ∧ slots + 6 ≤ R.slots) (hsz : ls.size = nL) (hrest : (rest.map fun v => v.category).sum ≤ 8) (hdg : decode cc pc = .ok (.invokevirtual index, 3))
    (kk : ∀ (H : Heap) (locs : List Loc), WH G s (cW G K r D X) H locs → W p l e R s m args below meth c H locs (cells + 1) (slots + 6) Q (F0 m (pc + 3) ls (.int (bI (byF (U.2 0) k)) :: rest))) : W p l e R s m args below meth c H locs cells slots Q (F0 m pc ls (.int (oF (U.2 0) k 0) :: .ref (K 7 0) :: rest)) :=
  d_isBuying C hw h (x0 := (oF (U.2 0) k 0)) (q_te h.iz.1 hk).1 ml hR hf hsz hrest hdg (fun H locs hw => by rw [(q_te h.iz.1 hk).2 2]; exact kk H locs hw)
theorem e_moneyOf (C : Cx l G RL cc nL ret p s m meth c args) (hw : WH G s (cW G K r D X) H locs) (h : Sm c9 D U) {k : Nat} (hk : k < tF (U.2 0)) {index : Nat} (ml : Cond.methodLink RL index yX11_moneyOf ∈ LW) (hR : 8 ≤ R.frames ∧ 469 ≤ R.locals) (hf : cells + 1 ≤ R.cells ∧ slots + 6 ≤ R.slots) (hsz : ls.size = nL) (hrest : (rest.map fun v => v.category).sum ≤ 8) (hdg : decode cc pc = .ok (.invokevirtual index, 3))
    (kk : ∀ (H : Heap) (locs : List Loc), WH G s (cW G K r D X) H locs → W p l e R s m args below meth c H locs (cells + 1) (slots + 6) Q (F0 m (pc + 3) ls (.int (sF (U.2 0) k 0) :: rest))) : W p l e R s m args below meth c H locs cells slots Q (F0 m pc ls (.int (nI k) :: .ref (K 7 0) :: rest)) :=
  d_moneyOf C hw h (x0 := (nI k)) (q_isF h.okf hk) ml hR hf hsz hrest hdg (fun H locs hw => by rw [nI_clamp (show k < 2 ^ 31 by have := h.okf.2.2.2.1; omega)]; exact kk H locs hw)
theorem e_dropsOf (C : Cx l G RL cc nL ret p s m meth c args) (hw : WH G s (cW G K r D X) H locs) (h : Sm c9 D U) {k : Nat} (hk : k < tF (U.2 0)) {index : Nat} (ml : Cond.methodLink RL index yX11_dropsOf ∈ LW) (hR : 8 ≤ R.frames ∧ 469 ≤ R.locals) (hf : cells + 1 ≤ R.cells ∧ slots + 6 ≤ R.slots) (hsz : ls.size = nL) (hrest : (rest.map fun v => v.category).sum ≤ 8) (hdg : decode cc pc = .ok (.invokevirtual index, 3))
    (kk : ∀ (H : Heap) (locs : List Loc), WH G s (cW G K r D X) H locs → W p l e R s m args below meth c H locs (cells + 1) (slots + 6) Q (F0 m (pc + 3) ls (.int (sF (U.2 0) k 1) :: rest))) : W p l e R s m args below meth c H locs cells slots Q (F0 m pc ls (.int (nI k) :: .ref (K 7 0) :: rest)) :=
  d_dropsOf C hw h (x0 := (nI k)) (q_isF h.okf hk) ml hR hf hsz hrest hdg (fun H locs hw => by rw [nI_clamp (show k < 2 ^ 31 by have := h.okf.2.2.2.1; omega)]; exact kk H locs hw)
theorem e_buyingAt (C : Cx l G RL cc nL ret p s m meth c args) (hw : WH G s (cW G K r D X) H locs) (h : Sm c9 D U) {k : Nat} (hk : 1 ≤ k ∧ k < 100) {index : Nat} (ml : Cond.methodLink RL index yX11_buyingAt ∈ LW) (hR : 8 ≤ R.frames ∧ 469 ≤ R.locals) (hf : cells + 1 ≤ R.cells ∧ slots + 6 ≤ R.slots) (hsz : ls.size = nL) (hrest : (rest.map fun v => v.category).sum ≤ 8) (hdg : decode cc pc = .ok (.invokevirtual index, 3))
    (kk : ∀ (H : Heap) (locs : List Loc), WH G s (cW G K r D X) H locs → W p l e R s m args below meth c H locs (cells + 1) (slots + 6) Q (F0 m (pc + 3) ls (.int (smF (U.2 0) true (nI k) (nI k) (nF (U.2 0))) :: rest))) : W p l e R s m args below meth c H locs cells slots Q (F0 m pc ls (.int (nI k) :: .ref (K 7 0) :: rest)) :=
  d_buyingAt C hw h (x0 := nI k) (q_pr hk) ml hR hf hsz hrest hdg kk
theorem e_sellingAt (C : Cx l G RL cc nL ret p s m meth c args) (hw : WH G s (cW G K r D X) H locs) (h : Sm c9 D U) {k : Nat} (hk : 1 ≤ k ∧ k < 100) {index : Nat} (ml : Cond.methodLink RL index yX11_sellingAt ∈ LW) (hR : 8 ≤ R.frames ∧ 469 ≤ R.locals) (hf : cells + 1 ≤ R.cells ∧ slots + 6 ≤ R.slots) (hsz : ls.size = nL) (hrest : (rest.map fun v => v.category).sum ≤ 8) (hdg : decode cc pc = .ok (.invokevirtual index, 3))
    (kk : ∀ (H : Heap) (locs : List Loc), WH G s (cW G K r D X) H locs → W p l e R s m args below meth c H locs (cells + 1) (slots + 6) Q (F0 m (pc + 3) ls (.int (smF (U.2 0) false (nI k) (nI k) (nF (U.2 0))) :: rest))) : W p l e R s m args below meth c H locs cells slots Q (F0 m pc ls (.int (nI k) :: .ref (K 7 0) :: rest)) :=
  d_sellingAt C hw h (x0 := nI k) (q_pr hk) ml hR hf hsz hrest hdg kk
end LXROWS
