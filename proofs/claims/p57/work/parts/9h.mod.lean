/-! The law: contracts of modifications -/
def MoP (d : Int) (D : CD) (k : Nat) (code VAL : Int32) (S' : SV) (v : Int32) (D2 : CD) : Prop := (∃ U2, Sm d D2 U2) ∧ ((k ≠ 0 ∧ v = code ∧ D2 = D) ∨ (k = 0 ∧ v = VAL ∧ D2 = D.mod S'))
/-- as the undoing sees it -/
def MuP (d : Int) (D : CD) (v : Int32) (D2 : CD) : Prop := (∃ U2, Sm d D2 U2) ∧ ((v.toInt < 0 ∧ D2.S = D.S ∧ D2.V = D.V ∧ D2.nw = D.nw ∧ D2.dp = D.dp) ∨ (0 ≤ v.toInt ∧ D2.V = va_up D.V (rgN D.nw) D.S ∧ D2.nw = rgN D.nw ∧ D2.dp = min (D.dp + 1) 8))
theorem MoP.mu {d : Int} {D : CD} {k : Nat} {code VAL : Int32} {S' : SV} {v : Int32} {D2 : CD} (h : MoP d D k code VAL S' v D2) (hc : k ≠ 0 → code.toInt < 0) (hv : k = 0 → 0 ≤ VAL.toInt) : MuP d D v D2 := by
  obtain ⟨u, hh⟩ := h
  refine ⟨u, ?_⟩
  rcases hh with ⟨a, b, rfl⟩ | ⟨a, b, rfl⟩
  · exact Or.inl ⟨by rw [b]; exact hc a, rfl, rfl, rfl, rfl⟩
  · exact Or.inr ⟨by rw [b]; exact hv a, rfl, rfl, rfl⟩
/-- as the drawing sees it -/
def MdP (d : Int) (D : CD) (v : Int32) (D2 : CD) : Prop := (∃ U2, Sm d D2 U2) ∧ v ≠ -1 ∧ v ≠ -2 ∧ D2.S.1 0 = D.S.1 0 ∧ (NcS D.S → NcS D2.S)
theorem MoP.md {d : Int} {D : CD} {k : Nat} {code VAL : Int32} {S' : SV} {v : Int32} {D2 : CD} (h : MoP d D k code VAL S' v D2) (hc : k ≠ 0 → code ≠ -1 ∧ code ≠ -2) (hv : k = 0 → 0 ≤ VAL.toInt) (h0 : k = 0 → S'.1 0 = D.S.1 0) (hn : k = 0 → NcS D.S → NcS S') : MdP d D v D2 := by
  obtain ⟨u, hh⟩ := h
  rcases hh with ⟨a, b, rfl⟩ | ⟨a, b, rfl⟩
  · exact ⟨u, by rw [b]; exact (hc a).1, by rw [b]; exact (hc a).2, rfl, id⟩
  · have q := hv a
    rw [← b] at q
    exact ⟨u, fun e => by rw [e] at q; exact absurd q (by decide), fun e => by rw [e] at q; exact absurd q (by decide), h0 a, hn a⟩
theorem cd_4 {k : Nat} (h : k ≤ 4) (h0 : k ≠ 0) : (if k = 1 then (-1 : Int32) else (if k = 2 then (-2) else (if k = 3 then (-3) else (if k = 4 then (-4) else 0)))).toInt < 0 := by
  rcases (show k = 1 ∨ k = 2 ∨ k = 3 ∨ k = 4 by omega) with rfl | rfl | rfl | rfl <;> decide
theorem cd_34 {k : Nat} (h : k ≤ 4) (h1 : k ≠ 1) (h2 : k ≠ 2) (h0 : k ≠ 0) : (if k = 1 then (-1 : Int32) else (if k = 2 then (-2) else (if k = 3 then (-3) else (if k = 4 then (-4) else 0)))) ≠ -1 ∧ (if k = 1 then (-1 : Int32) else (if k = 2 then (-2) else (if k = 3 then (-3) else (if k = 4 then (-4) else 0)))) ≠ -2 := by
  rcases (show k = 3 ∨ k = 4 by omega) with rfl | rfl <;> decide
/-! the count of stalls -/
theorem n0_rd (S : SV) (n j : Nat) (t : Int32) : (rdS S n j t).1 0 = S.1 0 := by
  unfold rdS
  split <;> rfl
theorem n0_tn (b : Bool) (st pr : Int32) (S : SV) (x : Int32) (j : Nat) : (tnS b st pr S x j).1 0 = S.1 0 := n0_rd _ _ _ _
theorem n0_tnR (b : Bool) (st pr : Int32) : ∀ (v : Nat) (S : SV) (x : Int32), (tnR b st pr v S x).1.1 0 = S.1 0
  | 0, S, x => rfl
  | v + 1, S, x => by
    by_cases hx : x ≤ 0
    · rw [tnR_x hx]
    · cases ho : best S (!b) (nO S) with
      | none => rw [tnR_n ho]
      | some j =>
        cases hb : tnB b pr (S.2.1 5 j) with
        | false => rw [tnR_s ho hb]
        | true =>
          rw [tnR_g hx ho hb]
          exact (n0_tnR b st pr v _ _).trans (n0_tn b st pr S x j)
theorem n0_tk (S : SV) (b : Bool) (st pr q : Int32) : (tkS S b st pr q).1.1 0 = S.1 0 := n0_tnR b st pr 20 (sI S 4 (S.1 4 + 1)) q
theorem n0_pl (S : SV) (b : Bool) (st pr q mi : Int32) : (plS S b st pr q mi).1 0 = S.1 0 := by
  have e : (plL S b st pr q).1.1 0 = S.1 0 := by
    unfold plL
    split
    · exact n0_tnR b st pr 20 (sI S 4 (S.1 4 + 1)) q
    · rfl
  unfold plS
  split
  · exact e
  · exact e
theorem n0_lpR (mi : Int32) : ∀ (k : Nat) (S : SV) (x : Int32), (lpR mi k S x).1.1 0 = S.1 0
  | 0, S, x => rfl
  | k + 1, S, x => by
    have e : lpR mi (k + 1) S x = if mi < S.2.1 7 k then lpR mi k (sR S 7 (upd (S.2.1 7) k (S.2.1 7 k - mi))) x else if S.2.1 7 k = 0 then lpR mi k S x else lpR mi k (rmS S (nO S) k) (x + 1) := rfl
    rw [e]
    split
    · exact n0_lpR mi k _ x
    · split
      · exact n0_lpR mi k S x
      · exact n0_lpR mi k (rmS S (nO S) k) (x + 1)
theorem n0_lp (S : SV) (mi : Int32) : (lpS S mi).1.1 0 = S.1 0 := n0_lpR mi (nO S) (sI S 3 (S.1 3 + mi)) 0
theorem n0_tpS (pr : Int32) (S : SV) (x : Int32) (i j : Nat) : (tpS pr S x i j).1 0 = S.1 0 := (n0_rd _ _ _ _).trans (n0_rd _ _ _ _)
theorem n0_tpR (pr : Int32) : ∀ (v : Nat) (S : SV) (x : Int32), (tpR pr v S x).1.1 0 = S.1 0
  | 0, S, x => rfl
  | v + 1, S, x => by
    rw [tpR]
    split
    · rfl
    · split
      · exact (n0_tpR pr v _ _).trans (n0_tpS pr S x _ _)
      · rfl
theorem n0_ep (S : SV) : (epS S).1 0 = S.1 0 := n0_tpR (poolS S (nO S)).1 20 S (poolS S (nO S)).2.1
/-- an order that is well asked for is not refused for its numbers -/
theorem ord_12 {S : SV} {b : Bool} {x pr q : Int32} {mf hi : Bool} (h1 : hasN x (nT S) = true) (h2 : inR pr 1 99 = true) (h3 : inR q 1 50 = true) (h4 : mf = true) : ordF S b x pr q mf hi ≠ 1 ∧ ordF S b x pr q mf hi ≠ 2 := by
  unfold ordF
  rw [h1, h2, h3, h4]
  rw [if_neg (by decide), if_neg (by decide)]
  constructor
  · split
    · decide
    · split
      · split <;> decide
      · split <;> decide
  · split
    · decide
    · split
      · split <;> decide
      · split <;> decide
set_option maxHeartbeats 4000000 in
set_option maxRecDepth 100000 in
theorem m_addStall {l : Launch} {G : Gx} (hF : SF l G) {c d : Int} {D : CD} {U : MV_} (h : Sm c D U) (hd : c + 60 ≤ d) (hd4 : d ≤ 40000) {K r : Nat → Nat → Nat} {X : va_W} (x0 : Int32) (x1 : Int32) : HI l G yL_addStall cL_addStall 4 [(0, 6, 7, 14), (0, 6, 10, 16)] 8 1 6 [.ref (K 7 0), .int x0, .int x1] (cW G K r D X) (fun v (D2 : CD) => MoP d D (stF D.S x0 x1) (if (stF D.S x0 x1) = 2 then (-1) else (if (stF D.S x0 x1) = 3 then (-2) else 0)) (nI (nT D.S)) (opS D.S (nT D.S) x0 x1) v D2) (fun D2 => cW G K r D2 X) :=
  w_addStall hF (x11_addStall hF (K := K) (S := D.S) (r := r) (V := D.V) (nw := D.nw) (dp := D.dp) (F := D.F) (X := uwB G K r D X) h.ok h.nw h.dp h.b2 x0 x1) (List.Perm.refl _) 19 rfl (fun r9 u9 hp => ⟨D.mod (opS D.S (nT D.S) x0 x1), ⟨⟨_, ((fin_addStall h hd hd4 x0 x1).1 r9 u9 hp).2.2⟩, Or.inr ⟨hp.1, hp.2, rfl⟩⟩, List.Perm.refl _⟩) (fun k1 hp => ⟨((fin_addStall h hd hd4 x0 x1).2 k1 hp).1, D, ⟨⟨_, ((fin_addStall h hd hd4 x0 x1).2 k1 hp).2.2⟩, Or.inl ⟨hp.2, by rw [show k1 = stF D.S x0 x1 from hp.1], rfl⟩⟩, List.Perm.refl _⟩)
theorem mu_addStall {c d : Int} {D : CD} {U : MV_} (h : Sm c D U) (hd : c + 60 ≤ d) (hd4 : d ≤ 40000) {x0 : Int32} {x1 : Int32} {v : Int32} {D2 : CD} (hp : MoP d D (stF D.S x0 x1) (if (stF D.S x0 x1) = 2 then (-1) else (if (stF D.S x0 x1) = 3 then (-2) else 0)) (nI (nT D.S)) (opS D.S (nT D.S) x0 x1) v D2) : MuP d D v D2 :=
  hp.mu (fun e => by rcases stF_v (S := D.S) (x := x0) (y := x1) with q | q | q <;> rw [q] at e ⊢ <;> first | exact absurd rfl e | decide) (fun _ => gv_as h)
set_option maxHeartbeats 4000000 in
set_option maxRecDepth 100000 in
theorem m_buy {l : Launch} {G : Gx} (hF : SF l G) {c d : Int} {D : CD} {U : MV_} (h : Sm c D U) (hd : c + 60 ≤ d) (hd4 : d ≤ 40000) {K r : Nat → Nat → Nat} {X : va_W} (x0 : Int32) (x1 : Int32) (x2 : Int32) : HI l G yL_buy cL_buy 5 [(0, 7, 8, 22), (0, 7, 12, 14), (0, 7, 17, 16), (0, 7, 22, 24)] 9 1 6 [.ref (K 7 0), .int x0, .int x1, .int x2] (cW G K r D X) (fun v (D2 : CD) => MoP d D (ordF D.S true x0 x1 x2 true (decide (20 ≤ nO D.S))) (if (ordF D.S true x0 x1 x2 true (decide (20 ≤ nO D.S))) = 1 then (-1) else (if (ordF D.S true x0 x1 x2 true (decide (20 ≤ nO D.S))) = 2 then (-2) else (if (ordF D.S true x0 x1 x2 true (decide (20 ≤ nO D.S))) = 3 then (-3) else (if (ordF D.S true x0 x1 x2 true (decide (20 ≤ nO D.S))) = 4 then (-4) else 0)))) (D.S.1 4) (plS D.S true x0 x1 x2 0) v D2) (fun D2 => cW G K r D2 X) :=
  w_buy hF (x11_placeBuy hF (K := K) (S := D.S) (r := r) (V := D.V) (nw := D.nw) (dp := D.dp) (F := D.F) (X := uwB G K r D X) h.ok h.nw h.dp h.b2 x0 x1 x2) (List.Perm.refl _) 19 rfl (fun r9 u9 hp => ⟨D.mod (plS D.S true x0 x1 x2 0), ⟨⟨_, ((fin_placeBuy h hd hd4 x0 x1 x2).1 r9 u9 hp).2.2⟩, Or.inr ⟨hp.1, hp.2, rfl⟩⟩, List.Perm.refl _⟩) (fun k1 hp => ⟨((fin_placeBuy h hd hd4 x0 x1 x2).2 k1 hp).1, D, ⟨⟨_, ((fin_placeBuy h hd hd4 x0 x1 x2).2 k1 hp).2.2⟩, Or.inl ⟨hp.2, by rw [show k1 = ordF D.S true x0 x1 x2 true (decide (20 ≤ nO D.S)) from hp.1], rfl⟩⟩, List.Perm.refl _⟩)
theorem mu_buy {c d : Int} {D : CD} {U : MV_} (h : Sm c D U) (hd : c + 60 ≤ d) (hd4 : d ≤ 40000) {x0 : Int32} {x1 : Int32} {x2 : Int32} {v : Int32} {D2 : CD} (hp : MoP d D (ordF D.S true x0 x1 x2 true (decide (20 ≤ nO D.S))) (if (ordF D.S true x0 x1 x2 true (decide (20 ≤ nO D.S))) = 1 then (-1) else (if (ordF D.S true x0 x1 x2 true (decide (20 ≤ nO D.S))) = 2 then (-2) else (if (ordF D.S true x0 x1 x2 true (decide (20 ≤ nO D.S))) = 3 then (-3) else (if (ordF D.S true x0 x1 x2 true (decide (20 ≤ nO D.S))) = 4 then (-4) else 0)))) (D.S.1 4) (plS D.S true x0 x1 x2 0) v D2) : MuP d D v D2 :=
  hp.mu (fun e => cd_4 ordF_v e) (fun _ => gv_pl h)
theorem md_buy {c d : Int} {D : CD} {U : MV_} (h : Sm c D U) (hd : c + 60 ≤ d) (hd4 : d ≤ 40000) {x0 : Int32} {x1 : Int32} {x2 : Int32} (h1 : hasN x0 (nT D.S) = true) (h2 : inR x1 1 99 = true) (h3 : inR x2 1 50 = true) {v : Int32} {D2 : CD} (hp : MoP d D (ordF D.S true x0 x1 x2 true (decide (20 ≤ nO D.S))) (if (ordF D.S true x0 x1 x2 true (decide (20 ≤ nO D.S))) = 1 then (-1) else (if (ordF D.S true x0 x1 x2 true (decide (20 ≤ nO D.S))) = 2 then (-2) else (if (ordF D.S true x0 x1 x2 true (decide (20 ≤ nO D.S))) = 3 then (-3) else (if (ordF D.S true x0 x1 x2 true (decide (20 ≤ nO D.S))) = 4 then (-4) else 0)))) (D.S.1 4) (plS D.S true x0 x1 x2 0) v D2) : MdP d D v D2 :=
  hp.md (fun e => cd_34 ordF_v (ord_12 h1 h2 h3 rfl).1 (ord_12 h1 h2 h3 rfl).2 e) (fun _ => gv_pl h) (fun _ => n0_pl _ _ _ _ _ _) (fun e => nc_pl h.rl h.iz (by omega) true x0 x1 x2 0 (ordC h.rl h.iz true x0 x1 x2 0 (m := 0) (Or.inl ⟨rfl, rfl, by decide, by decide⟩) e))
set_option maxHeartbeats 4000000 in
set_option maxRecDepth 100000 in
theorem m_sell {l : Launch} {G : Gx} (hF : SF l G) {c d : Int} {D : CD} {U : MV_} (h : Sm c D U) (hd : c + 60 ≤ d) (hd4 : d ≤ 40000) {K r : Nat → Nat → Nat} {X : va_W} (x0 : Int32) (x1 : Int32) (x2 : Int32) : HI l G yL_sell cL_sell 5 [(0, 7, 8, 22), (0, 7, 12, 14), (0, 7, 17, 16), (0, 7, 22, 24)] 9 1 6 [.ref (K 7 0), .int x0, .int x1, .int x2] (cW G K r D X) (fun v (D2 : CD) => MoP d D (ordF D.S false x0 x1 x2 true (decide (20 ≤ nO D.S))) (if (ordF D.S false x0 x1 x2 true (decide (20 ≤ nO D.S))) = 1 then (-1) else (if (ordF D.S false x0 x1 x2 true (decide (20 ≤ nO D.S))) = 2 then (-2) else (if (ordF D.S false x0 x1 x2 true (decide (20 ≤ nO D.S))) = 3 then (-3) else (if (ordF D.S false x0 x1 x2 true (decide (20 ≤ nO D.S))) = 4 then (-4) else 0)))) (D.S.1 4) (plS D.S false x0 x1 x2 0) v D2) (fun D2 => cW G K r D2 X) :=
  w_sell hF (x11_placeSell hF (K := K) (S := D.S) (r := r) (V := D.V) (nw := D.nw) (dp := D.dp) (F := D.F) (X := uwB G K r D X) h.ok h.nw h.dp h.b2 x0 x1 x2) (List.Perm.refl _) 19 rfl (fun r9 u9 hp => ⟨D.mod (plS D.S false x0 x1 x2 0), ⟨⟨_, ((fin_placeSell h hd hd4 x0 x1 x2).1 r9 u9 hp).2.2⟩, Or.inr ⟨hp.1, hp.2, rfl⟩⟩, List.Perm.refl _⟩) (fun k1 hp => ⟨((fin_placeSell h hd hd4 x0 x1 x2).2 k1 hp).1, D, ⟨⟨_, ((fin_placeSell h hd hd4 x0 x1 x2).2 k1 hp).2.2⟩, Or.inl ⟨hp.2, by rw [show k1 = ordF D.S false x0 x1 x2 true (decide (20 ≤ nO D.S)) from hp.1], rfl⟩⟩, List.Perm.refl _⟩)
theorem mu_sell {c d : Int} {D : CD} {U : MV_} (h : Sm c D U) (hd : c + 60 ≤ d) (hd4 : d ≤ 40000) {x0 : Int32} {x1 : Int32} {x2 : Int32} {v : Int32} {D2 : CD} (hp : MoP d D (ordF D.S false x0 x1 x2 true (decide (20 ≤ nO D.S))) (if (ordF D.S false x0 x1 x2 true (decide (20 ≤ nO D.S))) = 1 then (-1) else (if (ordF D.S false x0 x1 x2 true (decide (20 ≤ nO D.S))) = 2 then (-2) else (if (ordF D.S false x0 x1 x2 true (decide (20 ≤ nO D.S))) = 3 then (-3) else (if (ordF D.S false x0 x1 x2 true (decide (20 ≤ nO D.S))) = 4 then (-4) else 0)))) (D.S.1 4) (plS D.S false x0 x1 x2 0) v D2) : MuP d D v D2 :=
  hp.mu (fun e => cd_4 ordF_v e) (fun _ => gv_pl h)
theorem md_sell {c d : Int} {D : CD} {U : MV_} (h : Sm c D U) (hd : c + 60 ≤ d) (hd4 : d ≤ 40000) {x0 : Int32} {x1 : Int32} {x2 : Int32} (h1 : hasN x0 (nT D.S) = true) (h2 : inR x1 1 99 = true) (h3 : inR x2 1 50 = true) {v : Int32} {D2 : CD} (hp : MoP d D (ordF D.S false x0 x1 x2 true (decide (20 ≤ nO D.S))) (if (ordF D.S false x0 x1 x2 true (decide (20 ≤ nO D.S))) = 1 then (-1) else (if (ordF D.S false x0 x1 x2 true (decide (20 ≤ nO D.S))) = 2 then (-2) else (if (ordF D.S false x0 x1 x2 true (decide (20 ≤ nO D.S))) = 3 then (-3) else (if (ordF D.S false x0 x1 x2 true (decide (20 ≤ nO D.S))) = 4 then (-4) else 0)))) (D.S.1 4) (plS D.S false x0 x1 x2 0) v D2) : MdP d D v D2 :=
  hp.md (fun e => cd_34 ordF_v (ord_12 h1 h2 h3 rfl).1 (ord_12 h1 h2 h3 rfl).2 e) (fun _ => gv_pl h) (fun _ => n0_pl _ _ _ _ _ _) (fun e => nc_pl h.rl h.iz (by omega) false x0 x1 x2 0 (ordC h.rl h.iz false x0 x1 x2 0 (m := 0) (Or.inl ⟨rfl, rfl, by decide, by decide⟩) e))
set_option maxHeartbeats 4000000 in
set_option maxRecDepth 100000 in
theorem m_buyFor {l : Launch} {G : Gx} (hF : SF l G) {c d : Int} {D : CD} {U : MV_} (h : Sm c D U) (hd : c + 60 ≤ d) (hd4 : d ≤ 40000) {K r : Nat → Nat → Nat} {X : va_W} (x0 : Int32) (x1 : Int32) (x2 : Int32) (x3 : Int32) : HI l G yL_buyFor cL_buyFor 6 [(0, 9, 10, 22), (0, 9, 14, 14), (0, 9, 19, 16), (0, 9, 24, 24)] 9 1 6 [.ref (K 7 0), .int x0, .int x1, .int x2, .int x3] (cW G K r D X) (fun v (D2 : CD) => MoP d D (ordF D.S true x0 x1 x2 (inR x3 1 60) (decide (20 ≤ nO D.S))) (if (ordF D.S true x0 x1 x2 (inR x3 1 60) (decide (20 ≤ nO D.S))) = 1 then (-1) else (if (ordF D.S true x0 x1 x2 (inR x3 1 60) (decide (20 ≤ nO D.S))) = 2 then (-2) else (if (ordF D.S true x0 x1 x2 (inR x3 1 60) (decide (20 ≤ nO D.S))) = 3 then (-3) else (if (ordF D.S true x0 x1 x2 (inR x3 1 60) (decide (20 ≤ nO D.S))) = 4 then (-4) else 0)))) (D.S.1 4) (plS D.S true x0 x1 x2 x3) v D2) (fun D2 => cW G K r D2 X) :=
  w_buyFor hF (x11_placeBuyFor hF (K := K) (S := D.S) (r := r) (V := D.V) (nw := D.nw) (dp := D.dp) (F := D.F) (X := uwB G K r D X) h.ok h.nw h.dp h.b2 x0 x1 x2 x3) (List.Perm.refl _) 19 rfl (fun r9 u9 hp => ⟨D.mod (plS D.S true x0 x1 x2 x3), ⟨⟨_, ((fin_placeBuyFor h hd hd4 x0 x1 x2 x3).1 r9 u9 hp).2.2⟩, Or.inr ⟨hp.1, hp.2, rfl⟩⟩, List.Perm.refl _⟩) (fun k1 hp => ⟨((fin_placeBuyFor h hd hd4 x0 x1 x2 x3).2 k1 hp).1, D, ⟨⟨_, ((fin_placeBuyFor h hd hd4 x0 x1 x2 x3).2 k1 hp).2.2⟩, Or.inl ⟨hp.2, by rw [show k1 = ordF D.S true x0 x1 x2 (inR x3 1 60) (decide (20 ≤ nO D.S)) from hp.1], rfl⟩⟩, List.Perm.refl _⟩)
theorem mu_buyFor {c d : Int} {D : CD} {U : MV_} (h : Sm c D U) (hd : c + 60 ≤ d) (hd4 : d ≤ 40000) {x0 : Int32} {x1 : Int32} {x2 : Int32} {x3 : Int32} {v : Int32} {D2 : CD} (hp : MoP d D (ordF D.S true x0 x1 x2 (inR x3 1 60) (decide (20 ≤ nO D.S))) (if (ordF D.S true x0 x1 x2 (inR x3 1 60) (decide (20 ≤ nO D.S))) = 1 then (-1) else (if (ordF D.S true x0 x1 x2 (inR x3 1 60) (decide (20 ≤ nO D.S))) = 2 then (-2) else (if (ordF D.S true x0 x1 x2 (inR x3 1 60) (decide (20 ≤ nO D.S))) = 3 then (-3) else (if (ordF D.S true x0 x1 x2 (inR x3 1 60) (decide (20 ≤ nO D.S))) = 4 then (-4) else 0)))) (D.S.1 4) (plS D.S true x0 x1 x2 x3) v D2) : MuP d D v D2 :=
  hp.mu (fun e => cd_4 ordF_v e) (fun _ => gv_pl h)
theorem md_buyFor {c d : Int} {D : CD} {U : MV_} (h : Sm c D U) (hd : c + 60 ≤ d) (hd4 : d ≤ 40000) {x0 : Int32} {x1 : Int32} {x2 : Int32} {x3 : Int32} (h1 : hasN x0 (nT D.S) = true) (h2 : inR x1 1 99 = true) (h3 : inR x2 1 50 = true) (h4 : inR x3 1 60 = true) {v : Int32} {D2 : CD} (hp : MoP d D (ordF D.S true x0 x1 x2 (inR x3 1 60) (decide (20 ≤ nO D.S))) (if (ordF D.S true x0 x1 x2 (inR x3 1 60) (decide (20 ≤ nO D.S))) = 1 then (-1) else (if (ordF D.S true x0 x1 x2 (inR x3 1 60) (decide (20 ≤ nO D.S))) = 2 then (-2) else (if (ordF D.S true x0 x1 x2 (inR x3 1 60) (decide (20 ≤ nO D.S))) = 3 then (-3) else (if (ordF D.S true x0 x1 x2 (inR x3 1 60) (decide (20 ≤ nO D.S))) = 4 then (-4) else 0)))) (D.S.1 4) (plS D.S true x0 x1 x2 x3) v D2) : MdP d D v D2 :=
  hp.md (fun e => cd_34 ordF_v (ord_12 h1 h2 h3 h4).1 (ord_12 h1 h2 h3 h4).2 e) (fun _ => gv_pl h) (fun _ => n0_pl _ _ _ _ _ _) (fun e => nc_pl h.rl h.iz (by omega) true x0 x1 x2 x3 (ordC h.rl h.iz true x0 x1 x2 (mfR x3) (m := x3) (mfR_ok x3) e))
set_option maxHeartbeats 4000000 in
set_option maxRecDepth 100000 in
theorem m_sellFor {l : Launch} {G : Gx} (hF : SF l G) {c d : Int} {D : CD} {U : MV_} (h : Sm c D U) (hd : c + 60 ≤ d) (hd4 : d ≤ 40000) {K r : Nat → Nat → Nat} {X : va_W} (x0 : Int32) (x1 : Int32) (x2 : Int32) (x3 : Int32) : HI l G yL_sellFor cL_sellFor 6 [(0, 9, 10, 22), (0, 9, 14, 14), (0, 9, 19, 16), (0, 9, 24, 24)] 9 1 6 [.ref (K 7 0), .int x0, .int x1, .int x2, .int x3] (cW G K r D X) (fun v (D2 : CD) => MoP d D (ordF D.S false x0 x1 x2 (inR x3 1 60) (decide (20 ≤ nO D.S))) (if (ordF D.S false x0 x1 x2 (inR x3 1 60) (decide (20 ≤ nO D.S))) = 1 then (-1) else (if (ordF D.S false x0 x1 x2 (inR x3 1 60) (decide (20 ≤ nO D.S))) = 2 then (-2) else (if (ordF D.S false x0 x1 x2 (inR x3 1 60) (decide (20 ≤ nO D.S))) = 3 then (-3) else (if (ordF D.S false x0 x1 x2 (inR x3 1 60) (decide (20 ≤ nO D.S))) = 4 then (-4) else 0)))) (D.S.1 4) (plS D.S false x0 x1 x2 x3) v D2) (fun D2 => cW G K r D2 X) :=
  w_sellFor hF (x11_placeSellFor hF (K := K) (S := D.S) (r := r) (V := D.V) (nw := D.nw) (dp := D.dp) (F := D.F) (X := uwB G K r D X) h.ok h.nw h.dp h.b2 x0 x1 x2 x3) (List.Perm.refl _) 19 rfl (fun r9 u9 hp => ⟨D.mod (plS D.S false x0 x1 x2 x3), ⟨⟨_, ((fin_placeSellFor h hd hd4 x0 x1 x2 x3).1 r9 u9 hp).2.2⟩, Or.inr ⟨hp.1, hp.2, rfl⟩⟩, List.Perm.refl _⟩) (fun k1 hp => ⟨((fin_placeSellFor h hd hd4 x0 x1 x2 x3).2 k1 hp).1, D, ⟨⟨_, ((fin_placeSellFor h hd hd4 x0 x1 x2 x3).2 k1 hp).2.2⟩, Or.inl ⟨hp.2, by rw [show k1 = ordF D.S false x0 x1 x2 (inR x3 1 60) (decide (20 ≤ nO D.S)) from hp.1], rfl⟩⟩, List.Perm.refl _⟩)
theorem mu_sellFor {c d : Int} {D : CD} {U : MV_} (h : Sm c D U) (hd : c + 60 ≤ d) (hd4 : d ≤ 40000) {x0 : Int32} {x1 : Int32} {x2 : Int32} {x3 : Int32} {v : Int32} {D2 : CD} (hp : MoP d D (ordF D.S false x0 x1 x2 (inR x3 1 60) (decide (20 ≤ nO D.S))) (if (ordF D.S false x0 x1 x2 (inR x3 1 60) (decide (20 ≤ nO D.S))) = 1 then (-1) else (if (ordF D.S false x0 x1 x2 (inR x3 1 60) (decide (20 ≤ nO D.S))) = 2 then (-2) else (if (ordF D.S false x0 x1 x2 (inR x3 1 60) (decide (20 ≤ nO D.S))) = 3 then (-3) else (if (ordF D.S false x0 x1 x2 (inR x3 1 60) (decide (20 ≤ nO D.S))) = 4 then (-4) else 0)))) (D.S.1 4) (plS D.S false x0 x1 x2 x3) v D2) : MuP d D v D2 :=
  hp.mu (fun e => cd_4 ordF_v e) (fun _ => gv_pl h)
theorem md_sellFor {c d : Int} {D : CD} {U : MV_} (h : Sm c D U) (hd : c + 60 ≤ d) (hd4 : d ≤ 40000) {x0 : Int32} {x1 : Int32} {x2 : Int32} {x3 : Int32} (h1 : hasN x0 (nT D.S) = true) (h2 : inR x1 1 99 = true) (h3 : inR x2 1 50 = true) (h4 : inR x3 1 60 = true) {v : Int32} {D2 : CD} (hp : MoP d D (ordF D.S false x0 x1 x2 (inR x3 1 60) (decide (20 ≤ nO D.S))) (if (ordF D.S false x0 x1 x2 (inR x3 1 60) (decide (20 ≤ nO D.S))) = 1 then (-1) else (if (ordF D.S false x0 x1 x2 (inR x3 1 60) (decide (20 ≤ nO D.S))) = 2 then (-2) else (if (ordF D.S false x0 x1 x2 (inR x3 1 60) (decide (20 ≤ nO D.S))) = 3 then (-3) else (if (ordF D.S false x0 x1 x2 (inR x3 1 60) (decide (20 ≤ nO D.S))) = 4 then (-4) else 0)))) (D.S.1 4) (plS D.S false x0 x1 x2 x3) v D2) : MdP d D v D2 :=
  hp.md (fun e => cd_34 ordF_v (ord_12 h1 h2 h3 h4).1 (ord_12 h1 h2 h3 h4).2 e) (fun _ => gv_pl h) (fun _ => n0_pl _ _ _ _ _ _) (fun e => nc_pl h.rl h.iz (by omega) false x0 x1 x2 x3 (ordC h.rl h.iz false x0 x1 x2 (mfR x3) (m := x3) (mfR_ok x3) e))
set_option maxHeartbeats 4000000 in
set_option maxRecDepth 100000 in
theorem m_takeBuy {l : Launch} {G : Gx} (hF : SF l G) {c d : Int} {D : CD} {U : MV_} (h : Sm c D U) (hd : c + 60 ≤ d) (hd4 : d ≤ 40000) {K r : Nat → Nat → Nat} {X : va_W} (x0 : Int32) (x1 : Int32) (x2 : Int32) : HI l G yL_takeBuy cL_takeBuy 5 [(0, 7, 8, 22), (0, 7, 12, 14), (0, 7, 17, 16), (0, 7, 22, 24)] 9 1 6 [.ref (K 7 0), .int x0, .int x1, .int x2] (cW G K r D X) (fun v (D2 : CD) => MoP d D (ordF D.S true x0 x1 x2 true (decide (D.S.1 2 = 1))) (if (ordF D.S true x0 x1 x2 true (decide (D.S.1 2 = 1))) = 1 then (-1) else (if (ordF D.S true x0 x1 x2 true (decide (D.S.1 2 = 1))) = 2 then (-2) else (if (ordF D.S true x0 x1 x2 true (decide (D.S.1 2 = 1))) = 3 then (-3) else (if (ordF D.S true x0 x1 x2 true (decide (D.S.1 2 = 1))) = 4 then (-4) else 0)))) (x2 - (tkS D.S true x0 x1 x2).2) ((tkS D.S true x0 x1 x2).1) v D2) (fun D2 => cW G K r D2 X) :=
  w_takeBuy hF (x11_takeBuy hF (K := K) (S := D.S) (r := r) (V := D.V) (nw := D.nw) (dp := D.dp) (F := D.F) (X := uwB G K r D X) h.ok h.nw h.dp h.pb x0 x1 x2) (List.Perm.refl _) 19 rfl (fun r9 u9 hp => ⟨D.mod ((tkS D.S true x0 x1 x2).1), ⟨⟨_, ((fin_takeBuy h hd hd4 x0 x1 x2).1 r9 u9 hp).2.2⟩, Or.inr ⟨hp.1, hp.2, rfl⟩⟩, List.Perm.refl _⟩) (fun k1 hp => ⟨((fin_takeBuy h hd hd4 x0 x1 x2).2 k1 hp).1, D, ⟨⟨_, ((fin_takeBuy h hd hd4 x0 x1 x2).2 k1 hp).2.2⟩, Or.inl ⟨hp.2, by rw [show k1 = ordF D.S true x0 x1 x2 true (decide (D.S.1 2 = 1)) from hp.1], rfl⟩⟩, List.Perm.refl _⟩)
theorem mu_takeBuy {c d : Int} {D : CD} {U : MV_} (h : Sm c D U) (hd : c + 60 ≤ d) (hd4 : d ≤ 40000) {x0 : Int32} {x1 : Int32} {x2 : Int32} {v : Int32} {D2 : CD} (hp : MoP d D (ordF D.S true x0 x1 x2 true (decide (D.S.1 2 = 1))) (if (ordF D.S true x0 x1 x2 true (decide (D.S.1 2 = 1))) = 1 then (-1) else (if (ordF D.S true x0 x1 x2 true (decide (D.S.1 2 = 1))) = 2 then (-2) else (if (ordF D.S true x0 x1 x2 true (decide (D.S.1 2 = 1))) = 3 then (-3) else (if (ordF D.S true x0 x1 x2 true (decide (D.S.1 2 = 1))) = 4 then (-4) else 0)))) (x2 - (tkS D.S true x0 x1 x2).2) ((tkS D.S true x0 x1 x2).1) v D2) : MuP d D v D2 :=
  hp.mu (fun e => cd_4 ordF_v e) (gv_tk h (by omega))
theorem md_takeBuy {c d : Int} {D : CD} {U : MV_} (h : Sm c D U) (hd : c + 60 ≤ d) (hd4 : d ≤ 40000) {x0 : Int32} {x1 : Int32} {x2 : Int32} (h1 : hasN x0 (nT D.S) = true) (h2 : inR x1 1 99 = true) (h3 : inR x2 1 50 = true) {v : Int32} {D2 : CD} (hp : MoP d D (ordF D.S true x0 x1 x2 true (decide (D.S.1 2 = 1))) (if (ordF D.S true x0 x1 x2 true (decide (D.S.1 2 = 1))) = 1 then (-1) else (if (ordF D.S true x0 x1 x2 true (decide (D.S.1 2 = 1))) = 2 then (-2) else (if (ordF D.S true x0 x1 x2 true (decide (D.S.1 2 = 1))) = 3 then (-3) else (if (ordF D.S true x0 x1 x2 true (decide (D.S.1 2 = 1))) = 4 then (-4) else 0)))) (x2 - (tkS D.S true x0 x1 x2).2) ((tkS D.S true x0 x1 x2).1) v D2) : MdP d D v D2 :=
  hp.md (fun e => cd_34 ordF_v (ord_12 h1 h2 h3 rfl).1 (ord_12 h1 h2 h3 rfl).2 e) (gv_tk h (by omega)) (fun _ => n0_tk _ _ _ _ _) (fun _ => nc_tk h.ok true x0 x1 x2)
set_option maxHeartbeats 4000000 in
set_option maxRecDepth 100000 in
theorem m_takeSell {l : Launch} {G : Gx} (hF : SF l G) {c d : Int} {D : CD} {U : MV_} (h : Sm c D U) (hd : c + 60 ≤ d) (hd4 : d ≤ 40000) {K r : Nat → Nat → Nat} {X : va_W} (x0 : Int32) (x1 : Int32) (x2 : Int32) : HI l G yL_takeSell cL_takeSell 5 [(0, 7, 8, 22), (0, 7, 12, 14), (0, 7, 17, 16), (0, 7, 22, 24)] 9 1 6 [.ref (K 7 0), .int x0, .int x1, .int x2] (cW G K r D X) (fun v (D2 : CD) => MoP d D (ordF D.S false x0 x1 x2 true (decide (D.S.1 2 = 1))) (if (ordF D.S false x0 x1 x2 true (decide (D.S.1 2 = 1))) = 1 then (-1) else (if (ordF D.S false x0 x1 x2 true (decide (D.S.1 2 = 1))) = 2 then (-2) else (if (ordF D.S false x0 x1 x2 true (decide (D.S.1 2 = 1))) = 3 then (-3) else (if (ordF D.S false x0 x1 x2 true (decide (D.S.1 2 = 1))) = 4 then (-4) else 0)))) (x2 - (tkS D.S false x0 x1 x2).2) ((tkS D.S false x0 x1 x2).1) v D2) (fun D2 => cW G K r D2 X) :=
  w_takeSell hF (x11_takeSell hF (K := K) (S := D.S) (r := r) (V := D.V) (nw := D.nw) (dp := D.dp) (F := D.F) (X := uwB G K r D X) h.ok h.nw h.dp h.pb x0 x1 x2) (List.Perm.refl _) 19 rfl (fun r9 u9 hp => ⟨D.mod ((tkS D.S false x0 x1 x2).1), ⟨⟨_, ((fin_takeSell h hd hd4 x0 x1 x2).1 r9 u9 hp).2.2⟩, Or.inr ⟨hp.1, hp.2, rfl⟩⟩, List.Perm.refl _⟩) (fun k1 hp => ⟨((fin_takeSell h hd hd4 x0 x1 x2).2 k1 hp).1, D, ⟨⟨_, ((fin_takeSell h hd hd4 x0 x1 x2).2 k1 hp).2.2⟩, Or.inl ⟨hp.2, by rw [show k1 = ordF D.S false x0 x1 x2 true (decide (D.S.1 2 = 1)) from hp.1], rfl⟩⟩, List.Perm.refl _⟩)
theorem mu_takeSell {c d : Int} {D : CD} {U : MV_} (h : Sm c D U) (hd : c + 60 ≤ d) (hd4 : d ≤ 40000) {x0 : Int32} {x1 : Int32} {x2 : Int32} {v : Int32} {D2 : CD} (hp : MoP d D (ordF D.S false x0 x1 x2 true (decide (D.S.1 2 = 1))) (if (ordF D.S false x0 x1 x2 true (decide (D.S.1 2 = 1))) = 1 then (-1) else (if (ordF D.S false x0 x1 x2 true (decide (D.S.1 2 = 1))) = 2 then (-2) else (if (ordF D.S false x0 x1 x2 true (decide (D.S.1 2 = 1))) = 3 then (-3) else (if (ordF D.S false x0 x1 x2 true (decide (D.S.1 2 = 1))) = 4 then (-4) else 0)))) (x2 - (tkS D.S false x0 x1 x2).2) ((tkS D.S false x0 x1 x2).1) v D2) : MuP d D v D2 :=
  hp.mu (fun e => cd_4 ordF_v e) (gv_tk h (by omega))
theorem md_takeSell {c d : Int} {D : CD} {U : MV_} (h : Sm c D U) (hd : c + 60 ≤ d) (hd4 : d ≤ 40000) {x0 : Int32} {x1 : Int32} {x2 : Int32} (h1 : hasN x0 (nT D.S) = true) (h2 : inR x1 1 99 = true) (h3 : inR x2 1 50 = true) {v : Int32} {D2 : CD} (hp : MoP d D (ordF D.S false x0 x1 x2 true (decide (D.S.1 2 = 1))) (if (ordF D.S false x0 x1 x2 true (decide (D.S.1 2 = 1))) = 1 then (-1) else (if (ordF D.S false x0 x1 x2 true (decide (D.S.1 2 = 1))) = 2 then (-2) else (if (ordF D.S false x0 x1 x2 true (decide (D.S.1 2 = 1))) = 3 then (-3) else (if (ordF D.S false x0 x1 x2 true (decide (D.S.1 2 = 1))) = 4 then (-4) else 0)))) (x2 - (tkS D.S false x0 x1 x2).2) ((tkS D.S false x0 x1 x2).1) v D2) : MdP d D v D2 :=
  hp.md (fun e => cd_34 ordF_v (ord_12 h1 h2 h3 rfl).1 (ord_12 h1 h2 h3 rfl).2 e) (gv_tk h (by omega)) (fun _ => n0_tk _ _ _ _ _) (fun _ => nc_tk h.ok false x0 x1 x2)
set_option maxHeartbeats 4000000 in
set_option maxRecDepth 100000 in
theorem m_pass {l : Launch} {G : Gx} (hF : SF l G) {c d : Int} {D : CD} {U : MV_} (h : Sm c D U) (hd : c + 60 ≤ d) (hd4 : d ≤ 40000) {K r : Nat → Nat → Nat} {X : va_W} (x0 : Int32) : HI l G yL_pass cL_pass 3 [(0, 5, 6, 14)] 8 1 6 [.ref (K 7 0), .int x0] (cW G K r D X) (fun v (D2 : CD) => MoP d D (pasF D.S x0) (if (pasF D.S x0) = 2 then (-1) else 0) ((lpS D.S x0).2) ((lpS D.S x0).1) v D2) (fun D2 => cW G K r D2 X) :=
  w_pass hF (x11_pass hF (K := K) (S := D.S) (r := r) (V := D.V) (nw := D.nw) (dp := D.dp) (F := D.F) (X := uwB G K r D X) h.ok h.nw h.dp h.b2 x0) (List.Perm.refl _) 19 rfl (fun r9 u9 hp => ⟨D.mod ((lpS D.S x0).1), ⟨⟨_, ((fin_pass h hd hd4 x0).1 r9 u9 hp).2.2⟩, Or.inr ⟨hp.1, hp.2, rfl⟩⟩, List.Perm.refl _⟩) (fun k1 hp => ⟨((fin_pass h hd hd4 x0).2 k1 hp).1, D, ⟨⟨_, ((fin_pass h hd hd4 x0).2 k1 hp).2.2⟩, Or.inl ⟨hp.2, by rw [show k1 = pasF D.S x0 from hp.1], rfl⟩⟩, List.Perm.refl _⟩)
theorem mu_pass {c d : Int} {D : CD} {U : MV_} (h : Sm c D U) (hd : c + 60 ≤ d) (hd4 : d ≤ 40000) {x0 : Int32} {v : Int32} {D2 : CD} (hp : MoP d D (pasF D.S x0) (if (pasF D.S x0) = 2 then (-1) else 0) ((lpS D.S x0).2) ((lpS D.S x0).1) v D2) : MuP d D v D2 :=
  hp.mu (fun e => by rcases pasF_v (S := D.S) (x := x0) with q | q <;> rw [q] at e ⊢ <;> first | exact absurd rfl e | decide) (gv_ps h)
theorem md_pass {c d : Int} {D : CD} {U : MV_} (h : Sm c D U) (hd : c + 60 ≤ d) (hd4 : d ≤ 40000) {x0 : Int32} (h1 : inR x0 1 60 = true) {v : Int32} {D2 : CD} (hp : MoP d D (pasF D.S x0) (if (pasF D.S x0) = 2 then (-1) else 0) ((lpS D.S x0).2) ((lpS D.S x0).1) v D2) : MdP d D v D2 :=
  hp.md (fun e => absurd (show pasF D.S x0 = 0 from by unfold pasF; rw [if_pos h1]) e) (gv_ps h) (fun _ => n0_lp _ _) (fun _ => nc_lp h.ok x0)
set_option maxHeartbeats 4000000 in
set_option maxRecDepth 100000 in
theorem m_open {l : Launch} {G : Gx} (hF : SF l G) {c d : Int} {D : CD} {U : MV_} (h : Sm c D U) (hd : c + 60 ≤ d) (hd4 : d ≤ 40000) {K r : Nat → Nat → Nat} {X : va_W} : HI l G yL_open cL_open 2 [(0, 4, 5, 16)] 8 1 6 [.ref (K 7 0)] (cW G K r D X) (fun v (D2 : CD) => MoP d D (opnF D.S) (if (opnF D.S) = 3 then (-1) else 0) (D.S.1 1) (sI D.S 2 1) v D2) (fun D2 => cW G K r D2 X) :=
  w_open hF (x11_openPool hF (K := K) (S := D.S) (r := r) (V := D.V) (nw := D.nw) (dp := D.dp) (F := D.F) (X := uwB G K r D X) h.ok h.nw h.dp h.b2 ) (List.Perm.refl _) 19 rfl (fun r9 u9 hp => ⟨D.mod (sI D.S 2 1), ⟨⟨_, ((fin_openPool h hd hd4).1 r9 u9 hp).2.2⟩, Or.inr ⟨hp.1, hp.2, rfl⟩⟩, List.Perm.refl _⟩) (fun k1 hp => ⟨((fin_openPool h hd hd4).2 k1 hp).1, D, ⟨⟨_, ((fin_openPool h hd hd4).2 k1 hp).2.2⟩, Or.inl ⟨hp.2, by rw [show k1 = opnF D.S from hp.1], rfl⟩⟩, List.Perm.refl _⟩)
theorem mu_open {c d : Int} {D : CD} {U : MV_} (h : Sm c D U) (hd : c + 60 ≤ d) (hd4 : d ≤ 40000) {v : Int32} {D2 : CD} (hp : MoP d D (opnF D.S) (if (opnF D.S) = 3 then (-1) else 0) (D.S.1 1) (sI D.S 2 1) v D2) : MuP d D v D2 :=
  hp.mu (fun e => by rcases opnF_v (S := D.S) with q | q <;> rw [q] at e ⊢ <;> first | exact absurd rfl e | decide) (fun _ => gv_on h)
theorem md_open {c d : Int} {D : CD} {U : MV_} (h : Sm c D U) (hd : c + 60 ≤ d) (hd4 : d ≤ 40000) (h1 : D.S.1 2 = 0) {v : Int32} {D2 : CD} (hp : MoP d D (opnF D.S) (if (opnF D.S) = 3 then (-1) else 0) (D.S.1 1) (sI D.S 2 1) v D2) : MdP d D v D2 :=
  hp.md (fun e => absurd (show opnF D.S = 0 from if_pos h1) e) (fun _ => gv_on h) (fun _ => rfl) (fun _ _ => nc_on)
set_option maxHeartbeats 4000000 in
set_option maxRecDepth 100000 in
theorem m_close {l : Launch} {G : Gx} (hF : SF l G) {c d : Int} {D : CD} {U : MV_} (h : Sm c D U) (hd : c + 60 ≤ d) (hd4 : d ≤ 40000) {K r : Nat → Nat → Nat} {X : va_W} : HI l G yL_close cL_close 2 [(0, 4, 5, 16)] 8 2 9 [.ref (K 7 0)] (cW G K r D X) (fun v (D2 : CD) => MoP d D (cloF D.S) (if (cloF D.S) = 3 then (-1) else 0) ((poolS D.S (nO D.S)).2.1) (epS D.S) v D2) (fun D2 => cW G K r D2 X) :=
  w_close hF (x11_closePool hF (K := K) (S := D.S) (r := r) (V := D.V) (nw := D.nw) (dp := D.dp) (F := D.F) (X := uwB G K r D X) h.ok h.nw h.dp h.b2 ) (List.Perm.refl _) 19 rfl (fun r9 u9 hp => ⟨D.mod (epS D.S), ⟨⟨_, ((fin_closePool h hd hd4).1 r9 u9 hp).2.2⟩, Or.inr ⟨hp.1, hp.2, rfl⟩⟩, List.Perm.refl _⟩) (fun k1 hp => ⟨((fin_closePool h hd hd4).2 k1 hp).1, D, ⟨⟨_, ((fin_closePool h hd hd4).2 k1 hp).2.2⟩, Or.inl ⟨hp.2, by rw [show k1 = cloF D.S from hp.1], rfl⟩⟩, List.Perm.refl _⟩)
theorem mu_close {c d : Int} {D : CD} {U : MV_} (h : Sm c D U) (hd : c + 60 ≤ d) (hd4 : d ≤ 40000) {v : Int32} {D2 : CD} (hp : MoP d D (cloF D.S) (if (cloF D.S) = 3 then (-1) else 0) ((poolS D.S (nO D.S)).2.1) (epS D.S) v D2) : MuP d D v D2 :=
  hp.mu (fun e => by rcases cloF_v (S := D.S) with q | q <;> rw [q] at e ⊢ <;> first | exact absurd rfl e | decide) (fun _ => gv_ep h)
theorem md_close {c d : Int} {D : CD} {U : MV_} (h : Sm c D U) (hd : c + 60 ≤ d) (hd4 : d ≤ 40000) (h1 : D.S.1 2 ≠ 0) {v : Int32} {D2 : CD} (hp : MoP d D (cloF D.S) (if (cloF D.S) = 3 then (-1) else 0) ((poolS D.S (nO D.S)).2.1) (epS D.S) v D2) : MdP d D v D2 :=
  hp.md (fun e => absurd (show cloF D.S = 0 from if_neg h1) e) (fun _ => gv_ep h) (fun _ => n0_ep _) (fun _ _ => nc_ep)
set_option maxHeartbeats 4000000 in
set_option maxRecDepth 100000 in
theorem m_cancel {l : Launch} {G : Gx} (hF : SF l G) {c d : Int} {D : CD} {U : MV_} (h : Sm c D U) (hd : c + 60 ≤ d) (hd4 : d ≤ 40000) {K r : Nat → Nat → Nat} {X : va_W} (x0 : Int32) : HI l G yL_cancel cL_cancel 3 [(0, 5, 6, 46)] 8 1 6 [.ref (K 7 0), .int x0] (cW G K r D X) (fun v (D2 : CD) => MuP d D v D2) (fun D2 => cW G K r D2 X) :=
  w_cancel hF (x11_cancel hF (K := K) (S := D.S) (r := r) (V := D.V) (nw := D.nw) (dp := D.dp) (F := D.F) (X := uwB G K r D X) h.ok h.nw h.dp h.b2 x0) (List.Perm.refl _) 19 rfl (fun r9 u9 hp => ⟨D.mod (rmS D.S (nO D.S) u9), ⟨⟨_, ((fin_cancel h hd hd4 x0).1 r9 u9 hp).2.2⟩, Or.inr ⟨by rw [show r9 = _ from hp.2]; exact gv_ca h hp.1, rfl, rfl, rfl⟩⟩, List.Perm.refl _⟩) (fun k1 hp => ⟨((fin_cancel h hd hd4 x0).2 k1 hp).1, D, ⟨⟨_, ((fin_cancel h hd hd4 x0).2 k1 hp).2.2⟩, Or.inl ⟨by rw [show k1 = 5 from ((fin_cancel h hd hd4 x0).2 k1 hp).1]; decide, rfl, rfl, rfl, rfl⟩⟩, List.Perm.refl _⟩)
set_option maxHeartbeats 4000000 in
set_option maxRecDepth 100000 in
theorem m_undo {l : Launch} {G : Gx} (hF : SF l G) {c d : Int} {D : CD} {U : MV_} (h : Sm c D U) (hd : c + 60 ≤ d) (hd4 : d ≤ 40000) {K r : Nat → Nat → Nat} {X : va_W} : HI l G yL_undo cL_undo 2 [(0, 4, 5, 16)] 7 1 6 [.ref (K 7 0)] (cW G K r D X) (fun v (D2 : CD) => (∃ U2, Sm d D2 U2) ∧ ((D.dp = 0 ∧ v = -1 ∧ D2 = D) ∨ (D.dp ≠ 0 ∧ v = nI (D.dp - 1) ∧ D2 = (cdm (D.V D.nw) D.B D.N D.V (rgP D.nw) (D.dp - 1) D.f D.g D.ut D.LT D.vb D.p0 D.gp D.ul D.LL D.F)))) (fun D2 => cW G K r D2 X) :=
  w_undo hF (x11_undo hF (K := K) (S := D.S) (r := r) (V := D.V) (nw := D.nw) (dp := D.dp) (F := D.F) (X := uwB G K r D X) h.nw h.dp h.vb2 ) (List.Perm.refl _) 19 rfl (fun r9 u9 hp => ⟨(cdm (D.V D.nw) D.B D.N D.V (rgP D.nw) (D.dp - 1) D.f D.g D.ut D.LT D.vb D.p0 D.gp D.ul D.LL D.F), ⟨⟨_, ((fin_undo h hd hd4).1 r9 u9 hp).2.2⟩, Or.inr ⟨hp.1, hp.2, rfl⟩⟩, List.Perm.refl _⟩) (fun k1 hp => ⟨((fin_undo h hd hd4).2 k1 hp).1, D, ⟨⟨_, ((fin_undo h hd hd4).2 k1 hp).2.2⟩, Or.inl ⟨hp.2, by rw [show k1 = 3 from hp.1]; decide, rfl⟩⟩, List.Perm.refl _⟩)
set_option maxHeartbeats 4000000 in
set_option maxRecDepth 100000 in
theorem m_type {l : Launch} {G : Gx} (hF : SF l G) {c d : Int} {D : CD} {U : MV_} (h : Sm c D U) (hd : c + 60 ≤ d) (hd4 : d ≤ 40000) {K r : Nat → Nat → Nat} {X : va_W} (x0 : Int32) : HI l G yL_type cL_type 3 [(0, 5, 6, 14), (0, 5, 10, 16)] 8 2 76 [.ref (K 7 0), .int x0] (cW G K r D X) (fun _ (D2 : CD) => (∃ U2, Sm d D2 U2) ∧ D2.S = D.S ∧ D2.V = D.V ∧ D2.nw = D.nw ∧ D2.dp = D.dp) (fun D2 => cW G K r D2 X) :=
  w_type hF (x11_type hF (K := K) (F := D.F) (u := D.ut) (L := D.LT) (vb := D.vb) (p0 := D.p0) (g := D.gp) (X := uwG G K r D X) h.tt h.t7 h.tl x0) (pw_G _ _ _ _ _ _ _ _ _ _) 5 rfl (fun r9 u9 hp => ⟨cdm D.S D.B D.N D.V D.nw D.dp D.f D.g u9 (D.LT ++ [x0]) D.vb D.p0 D.gp D.ul D.LL D.F, ⟨⟨_, ((fin_type h hd hd4 x0).1 r9 u9 hp).2.2⟩, rfl, rfl, rfl, rfl⟩, (pw_G _ _ _ _ _ _ _ _ _ _).symm⟩) (fun k1 hp => ⟨((fin_type h hd hd4 x0).2 k1 hp).1, D, ⟨⟨_, ((fin_type h hd hd4 x0).2 k1 hp).2.2⟩, rfl, rfl, rfl, rfl⟩, (pw_G _ _ _ _ _ _ _ _ _ _).symm⟩)
