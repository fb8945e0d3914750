/-! The law: what modifications keep -/
def NcS (S : SV) : Prop := S.1 2 = 0 → ∀ i j, i < nO S → j < nO S → S.2.1 4 i = 1 → ¬ S.2.1 4 j = 1 → (S.2.1 5 i).toInt < (S.2.1 5 j).toInt
/-- T's orders are orders of S -/
def Sb (S T : SV) : Prop := T.1 2 = S.1 2 ∧ ∀ k, k < nO T → ∃ i, i < nO S ∧ T.2.1 4 k = S.2.1 4 i ∧ T.2.1 5 k = S.2.1 5 i
theorem Sb.rf {S : SV} : Sb S S := ⟨rfl, fun k hk => ⟨k, hk, rfl, rfl⟩⟩
theorem Sb.tr {S T V : SV} (h : Sb S T) (g : Sb T V) : Sb S V := ⟨g.1.trans h.1, fun k hk => by
  obtain ⟨i, a1, a2, a3⟩ := g.2 k hk
  obtain ⟨j, b1, b2, b3⟩ := h.2 i a1
  exact ⟨j, b1, a2.trans b2, a3.trans b3⟩⟩
theorem nc_Sb {S T : SV} (h : NcS S) (g : Sb S T) : NcS T := fun e i j hi hj a b => by
  obtain ⟨i1, a1, a2, a3⟩ := g.2 i hi
  obtain ⟨j1, b1, b2, b3⟩ := g.2 j hj
  rw [a3, b3]
  exact h (g.1.symm.trans e) i1 j1 a1 b1 (a2.symm.trans a) (fun q => b (b2.trans q))
theorem nc_f {S : SV} {f : Nat → Int32} (hS : Rl S f) (h : NcS S) : Nc f := fun e i j hi hj a b => by
  have n := hS.n
  have hb : ∀ k, k < nF f → (byF f k = true ↔ S.2.1 4 k = 1) := fun k hk => by
    rw [hS.sid hk]
    unfold byF
    exact decide_eq_true_iff
  have q := h (hS.1.2.2.1.trans e) i j (by omega) (by omega) ((hb i hi).mp a) (fun c => by rw [(hb j hj).mpr c] at b; exact absurd b (by decide))
  rw [hS.pri hi, hS.pri hj] at q
  exact q
theorem Sb_rm {S : SV} (h : okS S) {j : Nat} (hj : j < nO S) : Sb S (rmS S (nO S) j) := by
  have h20 := h.2.1
  refine ⟨rfl, fun k hk => ?_⟩
  rw [(rm_ok h hj).2] at hk
  have e4 : (rmS S (nO S) j).2.1 4 = rgap 20 (S.2.1 4) j := rfl
  have e5 : (rmS S (nO S) j).2.1 5 = rgap 20 (S.2.1 5) j := rfl
  rw [e4, e5]
  unfold rgap
  by_cases c : k < j
  · exact ⟨k, by omega, if_pos (Or.inl c), if_pos (Or.inl c)⟩
  · refine ⟨k + 1, by omega, ?_, ?_⟩
    · rw [if_neg (by omega), if_neg (by omega)]
    · rw [if_neg (by omega), if_neg (by omega)]
theorem Sb_su {S : SV} (j : Nat) (t : Int32) : Sb S (subQ S j t) := ⟨rfl, fun k hk => ⟨k, hk, rfl, rfl⟩⟩
theorem Sb_rd {S : SV} (h : okS S) {j : Nat} (hj : j < nO S) (t : Int32) : Sb S (rdS S (nO S) j t) := by
  unfold rdS
  split
  · exact (Sb_su j t).tr (Sb_rm (S := subQ S j t) h hj)
  · exact Sb_su j t
theorem Sb_t {S : SV} (bu se pr q : Int32) : Sb S (trS S bu se pr q) := ⟨rfl, fun k hk => ⟨k, hk, by rw [trS_k _ _ _ _ _ (by decide)], by rw [trS_k _ _ _ _ _ (by decide)]⟩⟩
theorem Sb_tn {b : Bool} {st pr x : Int32} {S : SV} {j : Nat} (h : okS S) (hj : j < nO S) : Sb S (tnS b st pr S x j) := (Sb_t _ _ _ _).tr (Sb_rd (okS_tr h _ _ _ _) hj _)
theorem Sb_tnR {b : Bool} {st pr : Int32} : ∀ (v : Nat) {S : SV} {x : Int32}, okS S → Sb S (tnR b st pr v S x).1
  | 0, S, x, h => Sb.rf
  | v + 1, S, x, h => by
    by_cases hx : x ≤ 0
    · rw [tnR_x hx]; exact Sb.rf
    · cases ho : best S (!b) (nO S) with
      | none => rw [tnR_n ho]; exact Sb.rf
      | some j =>
        cases hb : tnB b pr (S.2.1 5 j) with
        | false => rw [tnR_s ho hb]; exact Sb.rf
        | true =>
          rw [tnR_g hx ho hb]
          exact (Sb_tn h (best_lt ho)).tr (Sb_tnR v (okS_tn h (best_lt ho)).1)
theorem Sb_lp {mi : Int32} : ∀ (k : Nat) {S : SV} {x : Int32}, okS S → k ≤ nO S → Sb S (lpR mi k S x).1
  | 0, S, x, _, _ => Sb.rf
  | k + 1, S, x, h, hk => by
    have e : lpR mi (k + 1) S x = if mi < S.2.1 7 k then lpR mi k (sR S 7 (upd (S.2.1 7) k (S.2.1 7 k - mi))) x else if S.2.1 7 k = 0 then lpR mi k S x else lpR mi k (rmS S (nO S) k) (x + 1) := rfl
    rw [e]
    split
    · have g : Sb S (sR S 7 (upd (S.2.1 7) k (S.2.1 7 k - mi))) := ⟨rfl, fun i hi => ⟨i, hi, rfl, rfl⟩⟩
      exact g.tr (Sb_lp k (S := sR S 7 (upd (S.2.1 7) k (S.2.1 7 k - mi))) h (by show k ≤ nO S; omega))
    · split
      · exact Sb_lp k h (by omega)
      · have r := rm_ok h (j := k) (by omega)
        exact (Sb_rm h (by omega)).tr (Sb_lp k r.1 (by rw [r.2]; omega))
/-- how a new order's trading ends -/
theorem tnR_end {b : Bool} {st pr : Int32} : ∀ (v : Nat) {S : SV} {x : Int32}, okS S → nO S ≤ v → ¬ (tnR b st pr v S x).2 ≤ 0 → ∀ j, best (tnR b st pr v S x).1 (!b) (nO (tnR b st pr v S x).1) = some j → tnB b pr ((tnR b st pr v S x).1.2.1 5 j) = false
  | 0, S, x, h, hn, _, j, hj => by
    have hj : best S (!b) (nO S) = some j := hj
    rw [show nO S = 0 by omega] at hj
    cases hj
  | v + 1, S, x, h, hn, hr, j, hj => by
    by_cases hx : x ≤ 0
    · rw [tnR_x hx] at hr; exact absurd hx hr
    · cases ho : best S (!b) (nO S) with
      | none => rw [tnR_n ho] at hj; rw [ho] at hj; cases hj
      | some i =>
        cases hb : tnB b pr (S.2.1 5 i) with
        | false =>
          rw [tnR_s ho hb] at hj ⊢
          rw [ho] at hj
          injection hj with hj
          rw [← hj]
          exact hb
        | true =>
          rw [tnR_g hx ho hb] at hr hj ⊢
          have g := okS_tn (b := b) (st := st) (pr := pr) (x := x) h (best_lt ho)
          by_cases hl : nO (tnS b st pr S x i) ≤ v
          · exact tnR_end v g.1 hl hr j hj
          · exfalso
            have l := best_lt ho
            have key : mmin x (S.2.1 6 i) = x := by
              unfold mmin
              by_cases c : S.2.1 6 i < x
              · exfalso
                have e : mmin x (S.2.1 6 i) = S.2.1 6 i := by unfold mmin; exact if_pos c
                have e2 : nO (tnS b st pr S x i) = nO S - 1 := by
                  unfold tnS
                  rw [e]
                  unfold rdS
                  have z : (trS S (if b = true then st else S.2.1 3 i) (if b = true then S.2.1 3 i else st) (S.2.1 5 i) (S.2.1 6 i)).2.1 6 = S.2.1 6 := trS_k _ _ _ _ _ (by decide)
                  rw [z, pk_us, Int32.add_right_neg, if_pos rfl]
                  exact (rm_ok (S := subQ (trS S (if b = true then st else S.2.1 3 i) (if b = true then S.2.1 3 i else st) (S.2.1 5 i) (S.2.1 6 i)) i (S.2.1 6 i)) h l).2
                omega
              · exact if_neg c
            rw [key, Int32.sub_self] at hr
            rw [tnR_x (by decide)] at hr
            exact hr (show (0 : Int32) ≤ 0 by decide)
theorem ordC {B : Int} {f : Nat → Int32} {S : SV} (hS : Rl S f) (h : Iz B f) (b : Bool) (x pr q mi : Int32) {mf : Bool} {m : Int32} (hm : (mf = true ∧ mi = m ∧ 0 ≤ mi.toInt ∧ mi.toInt ≤ 60) ∨ (mf = false ∧ mi = 61)) (h0 : ordF S b x pr q mf (decide (20 ≤ nO S)) = 0) : opC f x b pr q mi = 0 := by
  have e := hS.ord h.1.1 x b pr q mi
  have m1 : ¬ mi = -1 := fun e => by
    rcases hm with ⟨-, -, a, -⟩ | ⟨-, a⟩
    · rw [e] at a; exact absurd a (by decide)
    · rw [e] at a; exact absurd a (by decide)
  have m2 : decide (mi ≤ 60) = mf := by
    rcases hm with ⟨a, -, -, c⟩ | ⟨a, c⟩
    · rw [a]; exact decide_eq_true (by rw [i_le, show (60 : Int32).toInt = 60 by decide]; exact c)
    · rw [a, c]; decide
  rw [if_neg m1, m2, full_ok hS h, h0] at e
  exact e
/-- a placed order leaves no crossing -/
theorem nc_pl {B : Int} {f : Nat → Int32} {S : SV} (hS : Rl S f) (h : Iz B f) (hB : B + 1 ≤ 40000) (b : Bool) (x pr q mi : Int32) {mj : Int32} (hc : opC f x b pr q mj = 0) (hn : NcS S) : NcS (plS S b x pr q mi) := by
  intro h2
  have ok := hS.ok h.1.1
  obtain ⟨e1, e2, e3, e4, e5⟩ := op_free h hc
  have go := opT_go hS h hB e2 e3 e4 e5
  rw [← e1] at go
  obtain ⟨t1, t2, t3, t4, t5, t6, t7, t8⟩ := go
  have ok1 := t8.ok t1.1.1
  have h20 := ok1.2.1
  by_cases hp : S.1 2 = 0
  · have eL : plL S b x pr q = ((tnR b x pr 20 (sI S 4 (S.1 4 + 1)) q).1, q - (q - (tnR b x pr 20 (sI S 4 (S.1 4 + 1)) q).2)) := if_pos hp
    have e22 : (plL S b x pr q).2 = (tnR b x pr 20 (sI S 4 (S.1 4 + 1)) q).2 := by
      rw [eL]
      dsimp only
      rw [Int32.sub_eq_add_neg, Int32.sub_eq_add_neg, Int32.neg_add, Int32.sub_eq_add_neg, Int32.neg_neg, ← Int32.add_assoc, Int32.add_right_neg, Int32.zero_add]
    have ok4 : okS (sI S 4 (S.1 4 + 1)) := ok
    have sb : Sb S (plL S b x pr q).1 := by
      rw [eL]
      exact Sb.tr (T := sI S 4 (S.1 4 + 1)) ⟨rfl, fun k hk => ⟨k, hk, rfl, rfl⟩⟩ (Sb_tnR 20 ok4)
    have nc1 := nc_Sb hn sb
    by_cases hz : (plL S b x pr q).2 ≤ 0
    · have eP : plS S b x pr q mi = (plL S b x pr q).1 := if_pos hz
      rw [eP] at h2 ⊢
      exact nc1 h2
    · have eP : plS S b x pr q mi = enS (plL S b x pr q).1 (nO (plL S b x pr q).1) (S.1 4) x b pr (plL S b x pr q).2 mi := if_neg hz
      have en : tnB b pr ((plL S b x pr q).1.2.1 5 0) = tnB b pr ((plL S b x pr q).1.2.1 5 0) := rfl
      have hend : ∀ j, best (plL S b x pr q).1 (!b) (nO (plL S b x pr q).1) = some j → tnB b pr ((plL S b x pr q).1.2.1 5 j) = false := by
        rw [e22] at hz
        have q9 := tnR_end (b := b) (st := x) (pr := pr) 20 (S := sI S 4 (S.1 4 + 1)) (x := q) ok4 ok4.2.1 hz
        rw [eL]
        exact q9
      rw [eP] at h2 ⊢
      generalize (plL S b x pr q).2 = rest at *
      generalize (plL S b x pr q).1 = P at *
      generalize (opT f x.toNatClampNeg b pr q).1 = g at *
      have hp2 : P.1 2 = 0 := h2
      -- prices of the other side
      have oth : ∀ k, k < nO P → byF g k = !b → tnB b pr (P.2.1 5 k) = false := fun k hk hby => by
        rw [t8.n] at hk
        cases hm : mbF g (!b) (nF g) with
        | none => exact absurd hby (mb_none hm k hk)
        | some j =>
          have hj := mb_lt hm
          have a := hend j (by rw [t8.n, t8.best t1.1 (!b) (Nat.le_refl _), hm])
          have c := mb_max t1.1 (Nat.le_refl _) hm k hk hby
          rw [t8.pri hk]
          rw [t8.pri hj] at a
          unfold tnB at a ⊢
          unfold nah at c
          cases b
          · rw [if_neg (by decide)] at a ⊢
            rw [if_pos (by decide)] at c
            have a := of_decide_eq_false a
            rw [i_le] at a
            exact decide_eq_false (by rw [i_le]; omega)
          · rw [if_pos rfl] at a ⊢
            rw [if_neg (by decide)] at c
            have a := of_decide_eq_false a
            rw [i_le] at a
            exact decide_eq_false (by rw [i_le]; omega)
      have nT1 : nO (enS P (nO P) (S.1 4) x b pr rest mi) = nO P + 1 := by
        show (nI (nO P + 1)).toNatClampNeg = _
        exact nI_clamp (by omega)
      intro i j hi hj a c
      rw [nT1] at hi hj
      have r4 : ∀ k, (enS P (nO P) (S.1 4) x b pr rest mi).2.1 4 k = if k = nO P then bI b else P.2.1 4 k := fun k => rfl
      have r5 : ∀ k, (enS P (nO P) (S.1 4) x b pr rest mi).2.1 5 k = if k = nO P then pr else P.2.1 5 k := fun k => rfl
      rw [r4] at a c
      rw [r5, r5]
      have bys : ∀ k, k < nO P → (byF g k = true ↔ P.2.1 4 k = 1) := fun k hk => by
        rw [t8.n] at hk
        rw [t8.sid hk]
        unfold byF
        exact decide_eq_true_iff
      by_cases ei : i = nO P <;> by_cases ej : j = nO P
      · rw [if_pos ei] at a
        rw [if_pos ej] at c
        exact absurd a c
      · rw [if_pos ei] at a ⊢
        rw [if_neg ej] at c ⊢
        cases b
        · exact absurd a (by decide)
        · have q9 := oth j (by omega) (by
            show byF g j = false
            cases hh : byF g j with
            | false => rfl
            | true => exact absurd ((bys j (by omega)).mp hh) c)
          unfold tnB at q9
          rw [if_pos rfl] at q9
          have q9 := of_decide_eq_false q9
          rw [i_le] at q9
          omega
      · rw [if_neg ei] at a ⊢
        rw [if_pos ej] at c ⊢
        cases b
        · have q9 := oth i (by omega) ((bys i (by omega)).mpr a)
          unfold tnB at q9
          rw [if_neg (by decide)] at q9
          have q9 := of_decide_eq_false q9
          rw [i_le] at q9
          omega
        · exact absurd rfl c
      · rw [if_neg ei] at a ⊢
        rw [if_neg ej] at c ⊢
        exact nc1 hp2 i j (by omega) (by omega) a c
  · exfalso
    have eL : plL S b x pr q = (sI S 4 (S.1 4 + 1), q) := if_neg hp
    unfold plS at h2
    rw [eL] at h2
    by_cases hz : q ≤ 0
    · rw [if_pos hz] at h2
      exact hp h2
    · rw [if_neg hz] at h2
      exact hp h2
theorem nc_tk {S : SV} (ok : okS S) (b : Bool) (x pr q : Int32) (hn : NcS S) : NcS (tkS S b x pr q).1 :=
  nc_Sb hn (Sb.tr (T := sI S 4 (S.1 4 + 1)) ⟨rfl, fun k hk => ⟨k, hk, rfl, rfl⟩⟩ (Sb_tnR 20 (S := sI S 4 (S.1 4 + 1)) ok))
theorem nc_lp {S : SV} (ok : okS S) (x : Int32) (hn : NcS S) : NcS (lpS S x).1 :=
  nc_Sb hn (Sb.tr (T := sI S 3 (S.1 3 + x)) ⟨rfl, fun k hk => ⟨k, hk, rfl, rfl⟩⟩ (Sb_lp (nO S) (S := sI S 3 (S.1 3 + x)) ok (Nat.le_refl _)))
theorem nc_op {S : SV} (x y : Int32) (hn : NcS S) : NcS (opS S (nT S) x y) := nc_Sb hn ⟨rfl, fun k hk => ⟨k, hk, rfl, rfl⟩⟩
theorem nc_on {S : SV} : NcS (sI S 2 1) := fun e => absurd (show (1 : Int32) = 0 from e) (by decide)
theorem nc_ep {S : SV} : NcS (epS S) := fun _ i j hi _ => absurd hi (by
  show ¬ i < (0 : Int32).toNatClampNeg
  exact Nat.not_lt_zero i)
/-! answers of modifications are never below nothing -/
theorem gv_pl {c : Int} {D : CD} {U : MV_} (h : Sm c D U) : 0 ≤ (D.S.1 4).toInt := by
  rw [h.rl.1.2.2.2.2.1]
  have := h.iz.2.2.2.2.2
  omega
theorem gv_tk {c : Int} {D : CD} {U : MV_} (h : Sm c D U) (hc : c + 60 ≤ 40000) {b : Bool} {x pr q : Int32} (h0 : ordF D.S b x pr q true (decide (D.S.1 2 = 1)) = 0) : 0 ≤ (q - (tkS D.S b x pr q).2).toInt := by
  have e := h.rl.ord h.okf x b pr q (-1)
  rw [if_pos rfl, show decide ((-1 : Int32) ≤ 60) = true by decide, show decide (U.2 0 4 = 1) = decide (D.S.1 2 = 1) by rw [h.rl.1.2.2.1], h0] at e
  have e : opC (U.2 0) x b pr q (-1) = 0 := e
  obtain ⟨-, -, -, t4⟩ := take_ok h.rl h.iz (by omega) e
  obtain ⟨e1, e2, e3, e4, e5⟩ := op_free h.iz e
  have go := (opT_go h.rl h.iz (by omega) e2 e3 e4 e5).2.2.2.1
  rw [t4, i_sub (by omega) (by omega)]
  omega
theorem gv_ps {c : Int} {D : CD} {U : MV_} (h : Sm c D U) {x : Int32} (h0 : pasF D.S x = 0) : 0 ≤ ((lpS D.S x).2).toInt := by
  have hx : inR x 1 60 = true := by
    unfold pasF at h0
    cases e : inR x 1 60 with
    | true => rfl
    | false => rw [e] at h0; exact absurd h0 (by decide)
  rw [(pass_ok h.rl h.iz hx).2.2, (psO_w h.okf (ordl_w _) _).2.1]
  have l : (ordl (U.2 0)).length ≤ 20 := by
    unfold ordl
    rw [List.length_map, List.length_range]
    exact h.okf.2.1
  rw [i_nI (by omega)]
  omega
theorem gv_on {c : Int} {D : CD} {U : MV_} (h : Sm c D U) : 0 ≤ (D.S.1 1).toInt := by
  have := h.ok.2.1
  rw [h.ok.1, i_nI (by omega)]
  omega
theorem gv_ep {c : Int} {D : CD} {U : MV_} (h : Sm c D U) : 0 ≤ ((poolS D.S (nO D.S)).2.1).toInt := by
  obtain ⟨g, -, e, -, -⟩ := close_ok h.rl h.iz
  rw [e]
  rcases clP_of h.iz.1 with ⟨-, a, -⟩ | ⟨p, -, -, -, -, -, a⟩
  · rw [a, i_0]; decide
  · omega
theorem gv_as {c : Int} {D : CD} {U : MV_} (h : Sm c D U) : 0 ≤ (nI (nT D.S)).toInt := by
  have := h.ok.2.2.2
  rw [i_nI (by omega)]
  omega
theorem gv_ca {c : Int} {D : CD} {U : MV_} (h : Sm c D U) {x : Int32} {j : Nat} (hj : slotF D.S x (nO D.S) = some j) : 0 ≤ (D.S.2.1 6 j).toInt := by
  rw [h.rl.find h.iz] at hj
  have l := (lst_lt hj).1
  rw [h.rl.qua l]
  have := (h.iz.1.2.1 j l).2.2.1
  omega
