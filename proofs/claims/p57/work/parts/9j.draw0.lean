/-! The law: a new market; the script's numbers -/
def mo0 : MV_ := (fun k => if k = 7 ∨ k = 8 then -1 else 0, fun _ _ => 0)
abbrev D00 (ut ul : Nat × Nat × (Nat → Int32) × Int32) : CD := cdm st0 st0 st0 (fun _ => st0) 0 0 (fun _ => 0) (fun _ => 0) ut [] 5 0 (fun _ => 0) ul [] dm0
theorem rl_0 : Rl st0 (fun _ => 0) := by
  refine ⟨⟨rfl, rfl, rfl, rfl, rfl, rfl, rfl, rfl⟩, by show (0 : Int64) = (0 : Int32).toInt64; decide, fun i hi => ?_, fun k hk => absurd hk (by show ¬ k < (0 : Int32).toNatClampNeg; rw [show (0 : Int32).toNatClampNeg = 0 by decide]; omega)⟩
  rw [show tF (fun _ => 0) = 0 by decide, if_neg (Nat.not_lt_zero _), if_neg (Nat.not_lt_zero _)]
  exact ⟨rfl, rfl⟩
theorem iz_0 : Iz 0 (fun _ => 0) := by
  have en : nF (fun _ => 0) = 0 := by decide
  have et : tF (fun _ => 0) = 0 := by decide
  have ez : ∀ w, zq w (fun _ => 0) = 0 := fun w => by unfold zq; rw [en]; rfl
  refine ⟨⟨⟨by rw [en]; rfl, by rw [en]; omega, by rw [et]; rfl, by rw [et]; omega, fun k hk => by rw [en] at hk; omega⟩, fun k hk => by rw [en] at hk; omega, fun i k _ hk => by rw [en] at hk; omega⟩, Or.inl rfl, fun k hk => by rw [et] at hk; omega, ?_, ⟨⟨⟨by rw [i_0]; omega, Or.inl (by rw [i_0])⟩, by rw [ez, i_0]; omega⟩, by rw [i_0]; omega, by rw [i_0]; omega, by rw [i_0]; omega, by rw [ez, i_0]; omega⟩, by omega, by rw [i_0]; omega, by rw [i_0]; omega, by omega⟩
  rw [et]
  exact ⟨Int.le_refl 0, Int.le_refl 0⟩
theorem st_ok {ut ul : Nat × Nat × (Nat → Int32) × Int32} (h1 : sbT ut []) (h2 : sbT ul []) : Sm 0 (D00 ut ul) mo0 :=
  Sm.mk rl_0 iz_0 (by show 0 < 8; omega) (by show 0 ≤ 8; omega) rfl (fun i hi => absurd hi (Nat.not_lt_zero _)) rfl (Or.inl rfl) (fun e => absurd rfl e) h1 (Nat.zero_le _) rfl (fun k hk => absurd hk (Nat.not_lt_zero _)) (fun j hj => absurd hj (Nat.not_lt_zero _)) (by show 5 < 7; omega) h2 (Nat.zero_le _) rfl (fun k hk => absurd hk (Nat.not_lt_zero _)) (fun j hj => absurd hj (Nat.not_lt_zero _)) (fun j => ⟨0, by omega, rfl⟩) ⟨rfl, Or.inl rfl⟩ ⟨rfl, Or.inl rfl⟩
theorem nc_0 : NcS st0 := fun _ i j hi => absurd hi (by
  show ¬ i < (0 : Int32).toNatClampNeg
  exact Nat.not_lt_zero i)
theorem as_fresh {S : SV} {x y : Nat} (h : nT S < 6) (hx : x ≤ 9999) (hy : y ≤ 999) : stF S (nI x) (nI y) = 0 := by
  unfold stF
  have a : inR (nI x) 0 9999 = true := n_inR (lo := 0) (hi := 9999) ⟨Nat.zero_le _, hx⟩ (by omega)
  have b : inR (nI y) 0 999 = true := n_inR (lo := 0) (hi := 999) ⟨Nat.zero_le _, hy⟩ (by omega)
  rw [a, b]
  rw [if_pos (by decide), if_neg (by omega)]
theorem ma_as {c d : Int} {D : CD} {U : MV_} (h : Sm c D U) {x0 x1 code : Int32} {v : Int32} {D2 : CD} (hp : MoP d D (stF D.S x0 x1) code (nI (nT D.S)) (opS D.S (nT D.S) x0 x1) v D2) (h0 : stF D.S x0 x1 = 0) : (∃ U2, Sm d D2 U2) ∧ v = nI (nT D.S) ∧ D2.S.1 0 = nI (nT D.S + 1) ∧ (NcS D.S → NcS D2.S) := by
  obtain ⟨u, hh⟩ := hp
  rcases hh with ⟨a, -, -⟩ | ⟨-, b, rfl⟩
  · exact absurd h0 a
  · exact ⟨u, b, rfl, nc_op x0 x1⟩
theorem hasN_i {i n : Nat} (h : i < n) (hn : n ≤ 6) : hasN (nI i) n = true := by
  unfold hasN
  rw [i_nI (by omega)]
  exact decide_eq_true (by omega)
theorem kc_7 : Cond.constant RL 7 40503 ∈ LW := lwm (tb2 _ (List.mem_of_getElem? (i := 60) rfl)) rfl
set_option maxHeartbeats 4000000 in
set_option maxRecDepth 100000 in
theorem k_cell {l : Launch} {G : Gx} (hF : SF l G) {b L : Nat} {xs : Nat → Int32} (hT : va_T .int b L (fun j => .int (xs j)) (gA G) G.2.1 G.2.1.heap) (hL : L < 2 ^ 31) {x : Int32} (hx : ∃ k, k < 2 ^ 31 ∧ x = nI k) {X : va_W} : MI l G yL_cell cL_cell 2 .int 2 0 0 [.ref b, .int x] X (fun _ (_ : Unit) => True) (fun _ => X) := by
  obtain ⟨k, hk, rfl⟩ := hx
  refine mt_of hF (by decide) (Nat.le_of_ble_eq_true rfl) ?_
  intro p e s m below meth c0 C hin ls hl H locs hw
  have hl : lv_has ls 2 [(0, .ref b), (1, .int (nI k))] := hl
  refine lv_iload_n C.1 C.2.1 dL_cell_0 rfl (lv_at hl 1 rfl) ?_
  refine lv_aload_n C.1 C.2.1 dL_cell_1 rfl (lv_at hl 0 rfl) ?_
  refine r_tlq C hw hT dL_cell_2 ?_
  refine lv_icmp_ge (tgt := 12) C.1 C.2.1 dL_cell_3 (by decide) (fun c_3 => ?_) (fun c_3 => ?_)
  · refine lv_ldc (v := 40503) C.1 C.2.1 C.2.2.2.2.1 (C.2.2.2.2.2.1 _ kc_7) dL_cell_12 ?_
    refine lv_iload_n C.1 C.2.1 dL_cell_14 rfl (lv_at hl 1 rfl) ?_
    refine lv_imul C.1 C.2.1 dL_cell_15 ?_
    exact r_iret C hw rfl rfl () trivial rfl (Nat.le_of_ble_eq_true rfl) (Nat.le_of_ble_eq_true rfl) dL_cell_16
  · rw [nI_leI hL hk] at c_3
    refine lv_aload_n C.1 C.2.1 dL_cell_6 rfl (lv_at hl 0 rfl) ?_
    refine lv_iload_n C.1 C.2.1 dL_cell_7 rfl (lv_at hl 1 rfl) ?_
    refine r_ti C hw hT (by omega) hL dL_cell_8 ?_
    refine lv_goto (tgt := 16) C.1 C.2.1 dL_cell_9 (by decide) ?_
    exact r_iret C hw rfl rfl () trivial rfl (Nat.le_of_ble_eq_true rfl) (Nat.le_of_ble_eq_true rfl) dL_cell_16
