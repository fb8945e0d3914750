/-! A text carried out, side by side -/
theorem ex_par {L : List Int32} {U : MV_} {n : Nat} (h : tx L U n) {vb : Nat} (hv : vb < 7) (g : Nat → Int32) :
    ((cnC L 60 1 0 vb g).1 = none → exB U n = true ∧ (exP U n).1.1 = (cnC L 60 1 0 vb g).2.1) ∧
    (∀ N, (cnC L 60 1 0 vb g).1 = some N → exB U n = false ∧ (exP U n).1.1 = n ∧ (exP U n).2.1 = N ∧ rdO L (exP U n).2.2 N 0 0) := by
  have hr : rcQ L 0 = some 0 := rfl
  have hn := h.2.1
  obtain ⟨r1, r2, r3, r4⟩ := rc_ok h hr vb g 0 (U.2 6)
  have eP : exP U n = rdA U n 61 (rcM U n 0 false 0 (U.2 6)).1 (rcM U n 0 false 0 (U.2 6)).2.1 (rcM U n 0 false 0 (U.2 6)).2.2 := rfl
  rw [r1, r2] at eP
  unfold exB
  by_cases c : (rcC L 0 vb g).1 = true
  · have r4 := r4 c
    have hle := rcC_le (g := g) (Nat.zero_le L.length) hv
    rw [← h.1] at hle
    rw [c, Bool.not_true] at eP
    rw [cnC_T c]
    obtain ⟨i1, i2, i3⟩ := cn_ok h (v := 59) (v' := 61) (k := 0 + 1) (q := (rcC L 0 vb g).2.1) (vb := (rcC L 0 vb g).2.2.1) (g := (rcC L 0 vb g).2.2.2) (c := (rcM U n 0 false 0 (U.2 6)).2.2) hle.2 (by omega) hle.1 (by omega) (by omega)
    rw [← eP] at i1 i2 i3
    refine ⟨i1, fun N hN => ?_⟩
    obtain ⟨j1, j2, j3, j4⟩ := i2 N hN
    refine ⟨by rw [j1]; show (false || decide (n < n)) = false; rw [decide_eq_false (Nat.lt_irrefl n)]; rfl, by rw [j1], j2, ?_⟩
    rw [show N = (N - (0 + 1)) + 1 by omega]
    refine ⟨(rcC L 0 vb g).2.1, wdI (beC U n 0 0) (beC U n 0 1), (wd_vb _ _).2, ?_, fun vb2 g2 => ?_, j4⟩
    · rw [i3 _ (by omega)]
      exact r4.2.2.1
    · obtain ⟨s1, s2, s3, s4⟩ := rc_ok h hr vb2 g2 0 (U.2 6)
      rw [r1] at s1
      have s1a := congrArg Prod.fst s1
      have s1b := congrArg Prod.snd s1
      dsimp only at s1a s1b
      rw [c] at s1b
      have s0 : (rcC L 0 vb2 g2).1 = true := by
        cases hz : (rcC L 0 vb2 g2).1 with
        | true => rfl
        | false => rw [hz] at s1b; exact absurd s1b (by decide)
      obtain ⟨t1, t2, t3, t4⟩ := s4 s0
      refine ⟨s0, s1a.symm, t2, fun x hx => ?_⟩
      rw [← t4 x hx, i3 _ (by
        have : arV (wdI (beC U n 0 0) (beC U n 0 1)) ≤ 3 := by
          have hw7 := (wd_vb (beC U n 0 0) (beC U n 0 1)).2
          generalize wdI (beC U n 0 0) (beC U n 0 1) = w at hw7
          rcases (show w = 0 ∨ w = 1 ∨ w = 2 ∨ w = 3 ∨ w = 4 ∨ w = 5 ∨ w = 6 by omega) with rfl | rfl | rfl | rfl | rfl | rfl | rfl <;> decide
        omega)]
  · have c' := Bool.of_not_eq_true c
    rw [c', Bool.not_false] at eP
    have eC : cnC L 60 1 0 vb g = (none, (rcC L 0 vb g).2) := by rw [cnC, if_pos c']
    have eA : rdA U n 61 ((rcC L 0 vb g).2.1, true) (0 + 1) (rcM U n 0 false 0 (U.2 6)).2.2 = (((rcC L 0 vb g).2.1, true), 0 + 1, (rcM U n 0 false 0 (U.2 6)).2.2) := rdA_s (fun a => absurd a.1 (by simp))
    rw [eA] at eP
    rw [eC, eP]
    exact ⟨fun _ => ⟨rfl, rfl⟩, fun N a => absurd a (by simp)⟩
theorem exV_kp (U : MV_) (t : Nat) (w : Bool) (cm : Nat) (c : Nat → Int32) (e : Int32) : Kp U (kpU (exV U t w cm c e)) := by
  refine ⟨fun j h2 h4 h5 h6 h7 h8 h9 => ?_, fun j hj => ?_, rfl, rfl, rfl, rfl⟩
  · show (if j = 2 then (0 : Int32) else if j = 6 then bI w else if j = 5 then nI t else if j = 4 then 0 else if j = 7 then e else if j = 9 then nI cm else U.1 j) = U.1 j
    rw [if_neg h2, if_neg h6, if_neg h5, if_neg h4, if_neg h7, if_neg h9]
  · show va_cpy (U.2 0) (U.2 1) 0 0 147 j = U.2 0 j
    rw [cpy_at hj, Nat.zero_add]
theorem sbT_nil {z : Nat × Nat × (Nat → Int32) × Int32} (h : sbT z []) : sbT z [] := h
theorem sim_exec {c d : Int} {D : CD} {U : MV_} (h : Sm c D U) (hd : c + 60 ≤ d) (hd4 : d ≤ 40000) :
    (exB U D.LT.length = false → exO (exP U D.LT.length).2.1 0 (kpU (exV U (exP U D.LT.length).1.1 false (exP U D.LT.length).2.1 (exP U D.LT.length).2.2 (U.1 7)))) ∧
    ((cnC D.LT 60 1 0 D.vb D.gp).1 = none → (exM U D.LT.length D.dp).1.1 2 = 1 ∧ ∀ z, sbT z [] → Sm d (cdm D.S D.B D.N D.V D.nw D.dp D.f D.g (z) ([]) ((cnC D.LT 60 1 0 D.vb D.gp).2.2.1) (0) ((cnC D.LT 60 1 0 D.vb D.gp).2.2.2) D.ul D.LL (va_up D.F 1 (nI (cnC D.LT 60 1 0 D.vb D.gp).2.1))) (exM U D.LT.length D.dp).1) ∧
    (∀ N, (cnC D.LT 60 1 0 D.vb D.gp).1 = some N →
      ((exC D.LT D.S D.vb D.gp).1 = N → (exM U D.LT.length D.dp).1.1 2 = 0 ∧ (exM U D.LT.length D.dp).2 = nI N ∧ ∀ z, sbT z [] → Sm d (cdm (D.mod (exC D.LT D.S D.vb D.gp).2.1).S (D.S) (D.mod (exC D.LT D.S D.vb D.gp).2.1).N (D.mod (exC D.LT D.S D.vb D.gp).2.1).V (D.mod (exC D.LT D.S D.vb D.gp).2.1).nw (D.mod (exC D.LT D.S D.vb D.gp).2.1).dp (D.mod (exC D.LT D.S D.vb D.gp).2.1).f (D.mod (exC D.LT D.S D.vb D.gp).2.1).g (z) ([]) ((exC D.LT D.S D.vb D.gp).2.2.2.1) (0) ((exC D.LT D.S D.vb D.gp).2.2.2.2) (D.mod (exC D.LT D.S D.vb D.gp).2.1).ul (D.mod (exC D.LT D.S D.vb D.gp).2.1).LL (D.mod (exC D.LT D.S D.vb D.gp).2.1).F) (exM U D.LT.length D.dp).1) ∧
      ((exC D.LT D.S D.vb D.gp).1 < N → (exM U D.LT.length D.dp).1.1 2 = 2 ∧ ∀ z, sbT z [] → Sm d (cdm D.S (D.S) D.N D.V D.nw D.dp D.f D.g (z) ([]) ((exC D.LT D.S D.vb D.gp).2.2.2.1) (0) ((exC D.LT D.S D.vb D.gp).2.2.2.2) D.ul D.LL (va_up D.F 2 (nI (exC D.LT D.S D.vb D.gp).1))) (exM U D.LT.length D.dp).1)) := by
  have htx := sim_tx h
  have hvb := h.vb
  obtain ⟨p1, p2⟩ := ex_par htx hvb D.gp
  have hcv := cnC_vb (L := D.LT) (t := 60) (k := 1) (g := D.gp) (Nat.zero_le D.LT.length) hvb
  have hm := h.mono (show c ≤ d by omega) hd4
  have hlen := h.tl
  have key : ∀ N, (cnC D.LT 60 1 0 D.vb D.gp).1 = some N → exB U D.LT.length = false ∧ (exP U D.LT.length).2.1 = N ∧ N ≤ 60 ∧
      (let W := kpU (exV U (exP U D.LT.length).1.1 false (exP U D.LT.length).2.1 (exP U D.LT.length).2.2 (U.1 7));
      exO N 0 W ∧ (exC D.LT D.S D.vb D.gp).2.2.2.1 < 7 ∧ (((exC D.LT D.S D.vb D.gp).1 = N ∧ ∃ f', exR N 0 W = (mR W 0 f', none) ∧ Rl (exC D.LT D.S D.vb D.gp).2.1 f' ∧ Iz (c + N) f') ∨ ((exC D.LT D.S D.vb D.gp).1 < N ∧ ∃ (f' : Nat → Int32) (t : Int32), exR N 0 W = (mI (mR W 0 f') 2 t, some (0 + (exC D.LT D.S D.vb D.gp).1)) ∧ 0 < t.toInt))) := fun N hN => by
    obtain ⟨q1, q2, q3, q4⟩ := p2 N hN
    have hl := cnC_lt hN
    refine ⟨q1, q3, by omega, ?_⟩
    have eC : exC D.LT D.S D.vb D.gp = exS D.LT N D.S 0 (cnC D.LT 60 1 0 D.vb D.gp).2.2.1 (cnC D.LT 60 1 0 D.vb D.gp).2.2.2 := by
      unfold exC
      rw [hN]
      rfl
    rw [eC]
    exact ex_run (L := D.LT) (m := N) (k := 0) (q := 0) (S := D.S) (U := kpU (exV U (exP U D.LT.length).1.1 false (exP U D.LT.length).2.1 (exP U D.LT.length).2.2 (U.1 7))) (B := c) h.rl h.iz (by omega) rfl q4 hcv.2
  refine ⟨fun e => ?_, fun e => ?_, fun N hN => ?_⟩
  · cases hT : (cnC D.LT 60 1 0 D.vb D.gp).1 with
    | none => rw [(p1 hT).1] at e; exact absurd e (by decide)
    | some N =>
      obtain ⟨k1, k2, k3, k4⟩ := key N hT
      have := k4.1
      rw [k2] at this ⊢
      exact this
  · obtain ⟨q1, q2⟩ := p1 e
    have eM : exM U D.LT.length D.dp = (mI (exV U (exP U D.LT.length).1.1 true (exP U D.LT.length).2.1 (exP U D.LT.length).2.2 (nI (exP U D.LT.length).1.1)) 2 1, 0) := by
      unfold exM
      rw [if_pos q1]
    rw [eM, q2]
    refine ⟨rfl, fun z hz => ?_⟩
    have ht : (cnC D.LT 60 1 0 D.vb D.gp).2.1 ≤ 60 := by have := hcv.1; omega
    exact Sm.mk (hm.rl) (hm.iz) (hm.nw) (hm.dp) (hm.pm) (hm.ps) (hm.sv) (hm.sb) (hm.sn) (hz) (Nat.zero_le _) (rfl) (fun k hk => absurd hk (Nat.not_lt_zero _)) (fun j hj => absurd hj (Nat.not_lt_zero _)) (hcv.2) (hm.lt) (hm.ll) (hm.ln) (hm.lc) (hm.l7) (hm.lh) (⟨rfl, Or.inr (by show 0 ≤ (nI (cnC D.LT 60 1 0 D.vb D.gp).2.1).toInt; rw [i_nI (by omega)]; omega)⟩) (hm.e2)
  · obtain ⟨k1, k2, k3, k4⟩ := key N hN
    obtain ⟨W, eW⟩ : ∃ W, kpU (exV U (exP U D.LT.length).1.1 false (exP U D.LT.length).2.1 (exP U D.LT.length).2.2 (U.1 7)) = W := ⟨_, rfl⟩
    have kp : Kp U W := eW ▸ exV_kp U _ _ _ _ _
    have eM : exM U D.LT.length D.dp = exF D.dp N (exR N 0 W) := by
      unfold exM
      rw [if_neg (by rw [k1]; decide), k2] 
      rw [k2] at eW
      rw [eW]
    dsimp only at k4
    rw [eW] at k4
    have w2 : W.1 2 = 0 := by rw [← eW]; rfl
    have w4 : W.1 4 = 0 := by rw [← eW]; rfl
    have w7 : W.1 7 = U.1 7 := by rw [← eW]; rfl
    have w8 : W.1 8 = U.1 8 := by rw [← eW]; rfl
    obtain ⟨k5, k6, k7⟩ := k4
    rcases k7 with ⟨a, f', b, b2, b3⟩ | ⟨a, f', t, b, b2⟩
    · refine ⟨fun _ => ?_, fun e => absurd e (by omega)⟩
      rw [eM, b]
      have b3' : Iz d f' := b3.mono (by omega) hd4
      obtain ⟨t1, t2, t3, t4, t5, t6, t7⟩ := end_ok h (show c ≤ d by omega) hd4 kp w2 b2 b3'
      refine ⟨t1, t2 _, fun z hz => ?_⟩
      show Sm d _ (endU (mR W 0 f') D.dp)
      exact Sm.mk (by rw [t4]; exact b2) (by rw [t4]; exact b3') (by show rgN D.nw < 8; have := h.nw; unfold rgN; split <;> omega) (Nat.min_le_right _ _) (t3) (t7) ((t5 0 (by decide)).trans ((kp.i1 0 (by decide) (by decide) (by decide) (by decide) (by decide) (by decide) (by decide)).trans h.sv)) (h.sb) (by rw [t6 2 (by decide) (by decide), kp.r2]; exact hm.sn) (hz) (Nat.zero_le _) ((t5 4 (by decide)).trans w4) (fun k hk => absurd hk (Nat.not_lt_zero _)) (fun j hj => absurd hj (Nat.not_lt_zero _)) (k6) (h.lt) (h.ll) ((t5 3 (by decide)).trans ((kp.i1 3 (by decide) (by decide) (by decide) (by decide) (by decide) (by decide) (by decide)).trans h.ln)) (by rw [t6 4 (by decide) (by decide), kp.r4]; exact h.lc) (h.l7) (by rw [t6 4 (by decide) (by decide), kp.r4]; exact h.lh) (by rw [t5 7 (by decide), w7]; exact h.e1) (by rw [t5 8 (by decide), w8]; exact h.e2)
    · refine ⟨fun e => absurd e (by omega), fun _ => ?_⟩
      rw [eM, b, Nat.zero_add]
      generalize hkk : (exC D.LT D.S D.vb D.gp).1 = kk at a
      have e0 : ¬ (mI (mI (mI (mR W 0 f') 2 t) 8 (nI kk)) 2 2).1 2 ≤ 0 := by
        rw [mI_1, if_pos rfl]; decide
      have eE : exF D.dp N (mI (mR W 0 f') 2 t, some kk) = (mR (mI (mI (mI (mR W 0 f') 2 t) 8 (nI kk)) 2 2) 0 (va_cpy (W.2 1) f' 0 0 147), 0) := by
        show (endU (mI (mI (mI (mR W 0 f') 2 t) 8 (nI kk)) 2 2) D.dp, endA (mI (mI (mI (mR W 0 f') 2 t) 8 (nI kk)) 2 2) 0) = _
        unfold endU endA
        rw [if_neg e0, if_neg e0]
        rfl
      rw [eE]
      have er : ∀ j, j < 147 → va_cpy (W.2 1) f' 0 0 147 j = U.2 0 j := fun j hj => by rw [cpy_at hj, Nat.zero_add, kp.r1 j hj]
      refine ⟨rfl, fun z hz => ?_⟩
      have q0 := kp.i1 0 (by decide) (by decide) (by decide) (by decide) (by decide) (by decide) (by decide)
      have q1 := kp.i1 1 (by decide) (by decide) (by decide) (by decide) (by decide) (by decide) (by decide)
      have q3 := kp.i1 3 (by decide) (by decide) (by decide) (by decide) (by decide) (by decide) (by decide)
      exact Sm.mk (hm.rl.ext hm.iz.1.1 er) (hm.iz.ext er) (hm.nw) (hm.dp) (q1.trans hm.pm) (by show ∀ i, i < D.dp → Rl (D.V (rgI D.nw i)) (pst (W.2 3) (D.dp - 1 - i)) ∧ Iz d (pst (W.2 3) (D.dp - 1 - i)); rw [kp.r3]; exact hm.ps) (q0.trans hm.sv) (hm.sb) (by show D.F 0 ≠ 0 → Rl D.N (W.2 2) ∧ Iz d (W.2 2); rw [kp.r2]; exact hm.sn) (hz) (Nat.zero_le _) (w4) (fun k hk => absurd hk (Nat.not_lt_zero _)) (fun j hj => absurd hj (Nat.not_lt_zero _)) (k6) (hm.lt) (hm.ll) (q3.trans hm.ln) (by show ∀ k, k < D.LL.length → W.2 4 k = D.LL.getD k 0; rw [kp.r4]; exact hm.lc) (hm.l7) (by show ∀ j, isCh (W.2 4 j); rw [kp.r4]; exact hm.lh) (by show D.F 1 = W.1 7 ∧ (W.1 7 = -1 ∨ 0 ≤ (W.1 7).toInt); rw [w7]; exact hm.e1) (⟨rfl, Or.inr (by show 0 ≤ (nI kk).toInt; rw [i_nI (by omega)]; omega)⟩)
