/-! The law's loop -/
abbrev D00 (ut ul : Nat × Nat × (Nat → Int32) × Int32) : CD := cdm st0 st0 st0 (fun _ => st0) 0 0 (fun _ => 0) (fun _ => 0) ut [] 5 0 (fun _ => 0) ul [] dm0
theorem rl_0 : Rl st0 (fun _ => 0) := by
  refine ⟨⟨rfl, rfl, rfl, rfl, rfl, rfl, rfl, rfl⟩, by show (0 : Int64) = (0 : Int32).toInt64; decide, fun i hi => ?_, fun k hk => absurd hk (by show ¬ k < (0 : Int32).toNatClampNeg; rw [show (0 : Int32).toNatClampNeg = 0 by decide]; omega)⟩
  rw [show tF (fun _ => 0) = 0 by decide, if_neg (Nat.not_lt_zero _), if_neg (Nat.not_lt_zero _)]
  exact ⟨rfl, rfl⟩
theorem iz_0 : Iz 0 (fun _ => 0) := by
  have en : nF (fun _ => 0) = 0 := by decide
  have et : tF (fun _ => 0) = 0 := by decide
  have ez : ∀ w, zq w (fun _ => 0) = 0 := fun w => by unfold zq; rw [en]; rfl
  refine ⟨⟨⟨by rw [en]; rfl, by rw [en]; omega, by rw [et]; rfl, by rw [et]; omega, fun k hk => by rw [en] at hk; omega⟩, fun k hk => by rw [en] at hk; omega, fun i k _ hk => by rw [en] at hk; omega⟩, Or.inl rfl, fun k hk => by rw [et] at hk; omega, ?_, ⟨⟨by rw [i_0]; omega, by rw [ez, i_0]; omega⟩, by rw [i_0]; omega, by rw [i_0]; omega, by rw [i_0]; omega, by rw [ez, i_0]; omega⟩, by omega, by rw [i_0]; omega, by rw [i_0]; omega, by omega⟩
  rw [et]
  exact ⟨Int.le_refl 0, Int.le_refl 0⟩
theorem st_ok {ut ul : Nat × Nat × (Nat → Int32) × Int32} (h1 : sbT ut []) (h2 : sbT ul []) : Sm 0 (D00 ut ul) mo0 :=
  Sm.mk rl_0 iz_0 (by show 0 < 8; omega) (by show 0 ≤ 8; omega) rfl (fun i hi => absurd hi (Nat.not_lt_zero _)) rfl (Or.inl rfl) (fun e => absurd rfl e) h1 (Nat.zero_le _) rfl (fun k hk => absurd hk (Nat.not_lt_zero _)) (fun j hj => absurd hj (Nat.not_lt_zero _)) (by show 5 < 7; omega) h2 (Nat.zero_le _) rfl (fun k hk => absurd hk (Nat.not_lt_zero _)) (fun j hj => absurd hj (Nat.not_lt_zero _)) (fun j => ⟨0, by omega, rfl⟩) ⟨rfl, Or.inl rfl⟩ ⟨rfl, Or.inl rfl⟩
section NEWL
variable {p : Program} {l : Launch} {e : Env} {R : Room} {s : State} {m : MethodId} {args : Array Value} {below : List Frame} {meth : Method} {c : Code} {H : Heap} {locs : List Loc} {cells slots : Nat} {Q : State → Prop}
variable {G : Gx} {own : String} {cc : ByteArray} {nL : Nat} {ret : Option FieldType} {pc : Nat} {ls : Array Slot} {rest : List Value} {w : va_W}
theorem r_newL (C : Cx l G own cc nL ret p s m meth c args) (hw : WH G s w H locs) (hcells : cells + 1 ≤ R.cells) (hslots : slots + 1 ≤ R.slots) (hdg : decode cc pc = .ok (.newarray .long, 2))
    (kk : ∀ (q : Nat) (H : Heap) (locs : List Loc), WH G s (w ++ [lC G q (fun _ => 0)]) H locs → W p l e R s m args below meth c H locs (cells + 1) (slots + 1) Q (F0 m (pc + 2) ls (.ref q :: rest))) : W p l e R s m args below meth c H locs cells slots Q (F0 m pc ls (.int 1 :: rest)) := by
  obtain ⟨hx, hb, hr, hml, hown, hts, -, -, -⟩ := id C
  refine va_newa (atype := .long) (ty := .long) (D := G.1) (N' := 1) (a0 := (1, .inr (.inl (fun _ => 0)))) hx hb (hts _ ac_long) rfl C.K hw.2.2.1 hw.2.2.2 hw.2.1 (fun q h => Nat.le_trans hw.1.1 h) (fun cA => rfl) (by decide) (by decide) (by decide) hcells hslots hdg (fun q cA H1 hK hP hD hS => ?_)
  have e1 : va_RA s (G.2.2.1 4) .long := ((C.K).2 4 _ rfl).2
  have e2 : va_RA s cA .long := (hK.2 (gT G).length (cA, .long) (by rw [List.getElem?_append_right (Nat.le_refl _), Nat.sub_self]; rfl)).2
  rw [ra_eq e1 e2] at hP hD
  exact kk q H1 _ ⟨hw.1, hS, hP, hD⟩
theorem r_newD (C : Cx l G own cc nL ret p s m meth c args) (hw : WH G s w H locs) (hcells : cells + 1 ≤ R.cells) (hslots : slots + 1 ≤ R.slots) (hdg : decode cc pc = .ok (.newarray .double, 2))
    (kk : ∀ (q : Nat) (H : Heap) (locs : List Loc), WH G s (w ++ [dC G q (fun _ => 0)]) H locs → W p l e R s m args below meth c H locs (cells + 1) (slots + 1) Q (F0 m (pc + 2) ls (.ref q :: rest))) : W p l e R s m args below meth c H locs cells slots Q (F0 m pc ls (.int 1 :: rest)) := by
  obtain ⟨hx, hb, hr, hml, hown, hts, -, -, -⟩ := id C
  refine va_newa (atype := .double) (ty := .double) (D := G.1) (N' := 1) (a0 := (1, .inr (.inr (.inr (.inl (fun _ => 0)))))) hx hb (hts _ ac_double) rfl C.K hw.2.2.1 hw.2.2.2 hw.2.1 (fun q h => Nat.le_trans hw.1.1 h) (fun cA => rfl) (by decide) (by decide) (by decide) hcells hslots hdg (fun q cA H1 hK hP hD hS => ?_)
  have e1 : va_RA s (G.2.2.1 5) .double := ((C.K).2 5 _ rfl).2
  have e2 : va_RA s cA .double := (hK.2 (gT G).length (cA, .double) (by rw [List.getElem?_append_right (Nat.le_refl _), Nat.sub_self]; rfl)).2
  rw [ra_eq e1 e2] at hP hD
  exact kk q H1 _ ⟨hw.1, hS, hP, hD⟩
end NEWL
set_option maxHeartbeats 4000000 in
set_option maxRecDepth 100000 in
theorem law_loop {p : Program} {l : Launch} {e : Env} {s : State} {m : MethodId} {below : List Frame} {meth : Method} {c : Code} {Q : State → Prop} {G : Gx} {ret : Option FieldType} {b L : Nat} {xs : Nat → Int32} (C : Cx l G RL cL_law 9 ret p s m meth c #[Value.ref b]) (hX : va_X b L xs s s.heap) (hbl : b < s.heap.size) (hbA : ¬ gA G b) (hL : L ≤ 2560) {K : Nat → Nat → Nat} {r : Nat → Nat → Nat} {mo : Nat → Nat} {o o2 : Nat}
    (kend : ∀ (w : va_W) (cl sl : Nat) (ls : Array Slot) (H : Heap) (locs : List Loc), cl ≤ 400000 → sl ≤ 4000000 → WH G s w H locs → lv_has ls 9 [(0, .ref b)] → W p l e room_1 s m #[Value.ref b] below meth c H locs cl sl Q (F0 m 2831 ls [])) :
    ∀ (n k : Nat) (D : CD) (U : MV_) (f1 : Nat → Int64) (f2 : Nat → UInt64) (ls : Array Slot) (H : Heap) (locs : List Loc), 5 * k ≤ L + 5 → L + 5 < 5 * k + n → Sm (60 * (k : Int)) D U → WH G s (lC G o f1 :: (dC G o2 f2 :: cW G K r D (moW G mo U ++ []))) H locs → lv_has ls 9 (lvL b (K 7 0) (mo 0) o o2 (5 * k)) →
      W p l e room_1 s m #[Value.ref b] below meth c H locs (300 + 80 * k) (5000 + 600 * k) Q (F0 m 28 ls []) := by
  intro n
  induction n with
  | zero =>
    intro k D U f1 f2 ls H locs h1 h2
    exact absurd h2 (by omega)
  | succ n ih =>
    intro k D U f1 f2 ls H locs h1 h2 h hw hl
    have eL : (Int32.ofNat L).toInt = L := i_nI (by omega)
    have e5 : (Int32.ofNat L - 5).toInt = (L : Int) - 5 := by rw [i_sub (by rw [eL, show (5 : Int32).toInt = 5 by decide]; omega) (by rw [eL, show (5 : Int32).toInt = 5 by decide]; omega), eL, show (5 : Int32).toInt = 5 by decide]
    have ek : (nI (5 * k)).toInt = ((5 * k : Nat) : Int) := i_nI (by omega)
    refine lv_iload C.1 C.2.1 dL_law_28 (lv_at hl 0 rfl) ?_
    refine lv_aload_n C.1 C.2.1 dL_law_30 rfl (lv_at hl 5 rfl) ?_
    refine va_slen C.1 C.2.1 hX hbl hbA hw.2.1 dL_law_31 ?_
    refine lv_iconst (v := 5) C.1 C.2.1 dL_law_32 (by decide) ?_
    refine lv_isub C.1 C.2.1 dL_law_33 ?_
    refine lv_icmp_gt (tgt := 2831) C.1 C.2.1 dL_law_34 (by decide) (fun c34 => ?_) (fun c34 => ?_)
    · rw [i_l, e5, ek] at c34
      exact kend _ _ _ ls H locs (by omega) (by omega) hw (lv_sub hl [5] rfl)
    · rw [i_l, e5, ek] at c34
      have hi : 5 * k + 4 < L := by omega
      have hkk : ∀ (D' : CD) (U' : MV_) (f1' : Nat → Int64) (f2' : Nat → UInt64) (ls : Array Slot) (H : Heap) (locs : List Loc), Sm (60 * ((k + 1 : Nat) : Int)) D' U' → WH G s (lC G o f1' :: (dC G o2 f2' :: cW G K r D' (moW G mo U' ++ []))) H locs → lv_has ls 9 (lvL b (K 7 0) (mo 0) o o2 (5 * k)) → W p l e room_1 s m #[Value.ref b] below meth c H locs (300 + 80 * k + 80) (5000 + 600 * k + 600) Q (F0 m 2825 ls []) := fun D' U' f1' f2' ls H locs h' hw hl => by
        refine lv_iinc (v := nI (5 * (k + 1))) (lv' := lvL b (K 7 0) (mo 0) o o2 (5 * (k + 1))) C.1 C.2.1 dL_law_2825 hl (k := 0) rfl (by rw [show Int32.ofInt 5 = nI 5 by decide, nI_s, show 5 * k + 5 = 5 * (k + 1) by omega]) (by decide) rfl (fun ls hl => ?_)
        refine lv_goto (tgt := 28) C.1 C.2.1 dL_law_2828 (by decide) ?_
        rw [show 300 + 80 * k + 80 = 300 + 80 * (k + 1) by omega, show 5000 + 600 * k + 600 = 5000 + 600 * (k + 1) by omega]
        exact ih (k + 1) D' U' f1' f2' ls H locs (by omega) (by omega) h' hw hl
      have hd : 60 * (k : Int) + 60 ≤ 60 * ((k + 1 : Nat) : Int) := by omega
      have hd4 : 60 * ((k + 1 : Nat) : Int) ≤ 40000 := by omega
      have hc : 300 + 80 * k ≤ 400000 ∧ 5000 + 600 * k ≤ 4000000 := by omega
      refine lv_aload_n C.1 C.2.1 dL_law_37 rfl (lv_at hl 5 rfl) ?_
      refine lv_iload C.1 C.2.1 dL_law_38 (lv_at hl 0 rfl) ?_
      refine va_sld C.1 C.2.1 hX hbl hbA hw.2.1 (vp_in_nI (show 5 * k < L by omega) (by omega)) dL_law_40 ?_
      refine lv_bipush (v := 63) C.1 C.2.1 dL_law_41 (by decide) ?_
      refine lv_iand C.1 C.2.1 dL_law_43 ?_
      generalize (xs (nI (5 * k)).toNatClampNeg &&& 63) = x
      by_cases hx : x.toInt < 0 ∨ 53 < x.toInt
      · refine lv_tableOut (tgt := 2825) C.1 C.2.1 dL_law_44 hx (by decide) ?_
        exact W.widen (by omega) (by omega) (hkk D U f1 f2 ls H locs (h.mono (by omega) hd4) hw hl)
      · have hx1 : ¬ x.toInt < 0 := fun a => hx (Or.inl a)
        have hx2 : ¬ 53 < x.toInt := fun a => hx (Or.inr a)
        obtain ⟨j, hj, ej⟩ : ∃ j : Nat, j < 54 ∧ (x.toInt - 0).toNat = j := ⟨_, by omega, rfl⟩
        match j, hj, ej with
        | 0, _, ej => exact lv_tableIn (tgt := 276) C.1 C.2.1 dL_law_44 hx1 hx2 (off := 232) (by rw [ej]; rfl) (by decide) (lc_addStall C hX hbl hbA h hd hd4 hi hL hw hl hc hkk)
        | 1, _, ej => exact lv_tableIn (tgt := 344) C.1 C.2.1 dL_law_44 hx1 hx2 (off := 300) (by rw [ej]; rfl) (by decide) (lc_placeBuy C hX hbl hbA h hd hd4 hi hL hw hl hc hkk)
        | 2, _, ej => exact lv_tableIn (tgt := 424) C.1 C.2.1 dL_law_44 hx1 hx2 (off := 380) (by rw [ej]; rfl) (by decide) (lc_placeSell C hX hbl hbA h hd hd4 hi hL hw hl hc hkk)
        | 3, _, ej => exact lv_tableIn (tgt := 504) C.1 C.2.1 dL_law_44 hx1 hx2 (off := 460) (by rw [ej]; rfl) (by decide) (lc_placeBuyFor C hX hbl hbA h hd hd4 hi hL hw hl hc hkk)
        | 4, _, ej => exact lv_tableIn (tgt := 596) C.1 C.2.1 dL_law_44 hx1 hx2 (off := 552) (by rw [ej]; rfl) (by decide) (lc_placeSellFor C hX hbl hbA h hd hd4 hi hL hw hl hc hkk)
        | 5, _, ej => exact lv_tableIn (tgt := 688) C.1 C.2.1 dL_law_44 hx1 hx2 (off := 644) (by rw [ej]; rfl) (by decide) (lc_takeBuy C hX hbl hbA h hd hd4 hi hL hw hl hc hkk)
        | 6, _, ej => exact lv_tableIn (tgt := 768) C.1 C.2.1 dL_law_44 hx1 hx2 (off := 724) (by rw [ej]; rfl) (by decide) (lc_takeSell C hX hbl hbA h hd hd4 hi hL hw hl hc hkk)
        | 7, _, ej => exact lv_tableIn (tgt := 848) C.1 C.2.1 dL_law_44 hx1 hx2 (off := 804) (by rw [ej]; rfl) (by decide) (lc_cancel C hX hbl hbA h hd hd4 hi hL hw hl hc hkk)
        | 8, _, ej => exact lv_tableIn (tgt := 904) C.1 C.2.1 dL_law_44 hx1 hx2 (off := 860) (by rw [ej]; rfl) (by decide) (lc_pass C hX hbl hbA h hd hd4 hi hL hw hl hc hkk)
        | 9, _, ej => exact lv_tableIn (tgt := 960) C.1 C.2.1 dL_law_44 hx1 hx2 (off := 916) (by rw [ej]; rfl) (by decide) (lc_openPool C hX hbl hbA h hd hd4 hi hL hw hl hc hkk)
        | 10, _, ej => exact lv_tableIn (tgt := 1004) C.1 C.2.1 dL_law_44 hx1 hx2 (off := 960) (by rw [ej]; rfl) (by decide) (lc_closePool C hX hbl hbA h hd hd4 hi hL hw hl hc hkk)
        | 11, _, ej => exact lv_tableIn (tgt := 1048) C.1 C.2.1 dL_law_44 hx1 hx2 (off := 1004) (by rw [ej]; rfl) (by decide) (lc_stallCount C hX hbl hbA h hd hd4 hi hL hw hl hc hkk)
        | 12, _, ej => exact lv_tableIn (tgt := 1061) C.1 C.2.1 dL_law_44 hx1 hx2 (off := 1017) (by rw [ej]; rfl) (by decide) (lc_moneyOf C hX hbl hbA h hd hd4 hi hL hw hl hc hkk)
        | 13, _, ej => exact lv_tableIn (tgt := 1117) C.1 C.2.1 dL_law_44 hx1 hx2 (off := 1073) (by rw [ej]; rfl) (by decide) (lc_dropsOf C hX hbl hbA h hd hd4 hi hL hw hl hc hkk)
        | 14, _, ej => exact lv_tableIn (tgt := 1173) C.1 C.2.1 dL_law_44 hx1 hx2 (off := 1129) (by rw [ej]; rfl) (by decide) (lc_freeMoneyOf C hX hbl hbA h hd hd4 hi hL hw hl hc hkk)
        | 15, _, ej => exact lv_tableIn (tgt := 1229) C.1 C.2.1 dL_law_44 hx1 hx2 (off := 1185) (by rw [ej]; rfl) (by decide) (lc_freeDropsOf C hX hbl hbA h hd hd4 hi hL hw hl hc hkk)
        | 16, _, ej => exact lv_tableIn (tgt := 1285) C.1 C.2.1 dL_law_44 hx1 hx2 (off := 1241) (by rw [ej]; rfl) (by decide) (lc_totalMoney C hX hbl hbA h hd hd4 hi hL hw hl hc hkk)
        | 17, _, ej => exact lv_tableIn (tgt := 1298) C.1 C.2.1 dL_law_44 hx1 hx2 (off := 1254) (by rw [ej]; rfl) (by decide) (lc_totalDrops C hX hbl hbA h hd hd4 hi hL hw hl hc hkk)
        | 18, _, ej => exact lv_tableIn (tgt := 1311) C.1 C.2.1 dL_law_44 hx1 hx2 (off := 1267) (by rw [ej]; rfl) (by decide) (lc_stallByMoney C hX hbl hbA h hd hd4 hi hL hw hl hc hkk)
        | 19, _, ej => exact lv_tableIn (tgt := 1367) C.1 C.2.1 dL_law_44 hx1 hx2 (off := 1323) (by rw [ej]; rfl) (by decide) (lc_orderCount C hX hbl hbA h hd hd4 hi hL hw hl hc hkk)
        | 20, _, ej => exact lv_tableIn (tgt := 1380) C.1 C.2.1 dL_law_44 hx1 hx2 (off := 1336) (by rw [ej]; rfl) (by decide) (lc_orderAt C hX hbl hbA h hd hd4 hi hL hw hl hc hkk)
        | 21, _, ej => exact lv_tableIn (tgt := 1436) C.1 C.2.1 dL_law_44 hx1 hx2 (off := 1392) (by rw [ej]; rfl) (by decide) (lc_stallOf C hX hbl hbA h hd hd4 hi hL hw hl hc hkk)
        | 22, _, ej => exact lv_tableIn (tgt := 1492) C.1 C.2.1 dL_law_44 hx1 hx2 (off := 1448) (by rw [ej]; rfl) (by decide) (lc_isBuying C hX hbl hbA h hd hd4 hi hL hw hl hc hkk)
        | 23, _, ej => exact lv_tableIn (tgt := 1555) C.1 C.2.1 dL_law_44 hx1 hx2 (off := 1511) (by rw [ej]; rfl) (by decide) (lc_priceOf C hX hbl hbA h hd hd4 hi hL hw hl hc hkk)
        | 24, _, ej => exact lv_tableIn (tgt := 1611) C.1 C.2.1 dL_law_44 hx1 hx2 (off := 1567) (by rw [ej]; rfl) (by decide) (lc_quantityOf C hX hbl hbA h hd hd4 hi hL hw hl hc hkk)
        | 25, _, ej => exact lv_tableIn (tgt := 1667) C.1 C.2.1 dL_law_44 hx1 hx2 (off := 1623) (by rw [ej]; rfl) (by decide) (lc_minutesLeft C hX hbl hbA h hd hd4 hi hL hw hl hc hkk)
        | 26, _, ej => exact lv_tableIn (tgt := 1723) C.1 C.2.1 dL_law_44 hx1 hx2 (off := 1679) (by rw [ej]; rfl) (by decide) (lc_bestBuy C hX hbl hbA h hd hd4 hi hL hw hl hc hkk)
        | 27, _, ej => exact lv_tableIn (tgt := 1767) C.1 C.2.1 dL_law_44 hx1 hx2 (off := 1723) (by rw [ej]; rfl) (by decide) (lc_bestSell C hX hbl hbA h hd hd4 hi hL hw hl hc hkk)
        | 28, _, ej => exact lv_tableIn (tgt := 1811) C.1 C.2.1 dL_law_44 hx1 hx2 (off := 1767) (by rw [ej]; rfl) (by decide) (lc_spread C hX hbl hbA h hd hd4 hi hL hw hl hc hkk)
        | 29, _, ej => exact lv_tableIn (tgt := 1855) C.1 C.2.1 dL_law_44 hx1 hx2 (off := 1811) (by rw [ej]; rfl) (by decide) (lc_spreadBySums C hX hbl hbA h hd hd4 hi hL hw hl hc hkk)
        | 30, _, ej => exact lv_tableIn (tgt := 1899) C.1 C.2.1 dL_law_44 hx1 hx2 (off := 1855) (by rw [ej]; rfl) (by decide) (lc_buyingAt C hX hbl hbA h hd hd4 hi hL hw hl hc hkk)
        | 31, _, ej => exact lv_tableIn (tgt := 1955) C.1 C.2.1 dL_law_44 hx1 hx2 (off := 1911) (by rw [ej]; rfl) (by decide) (lc_sellingAt C hX hbl hbA h hd hd4 hi hL hw hl hc hkk)
        | 32, _, ej => exact lv_tableIn (tgt := 2011) C.1 C.2.1 dL_law_44 hx1 hx2 (off := 1967) (by rw [ej]; rfl) (by decide) (lc_lastPrice C hX hbl hbA h hd hd4 hi hL hw hl hc hkk)
        | 33, _, ej => exact lv_tableIn (tgt := 2055) C.1 C.2.1 dL_law_44 hx1 hx2 (off := 2011) (by rw [ej]; rfl) (by decide) (lc_tradeCount C hX hbl hbA h hd hd4 hi hL hw hl hc hkk)
        | 34, _, ej => exact lv_tableIn (tgt := 2068) C.1 C.2.1 dL_law_44 hx1 hx2 (off := 2024) (by rw [ej]; rfl) (by decide) (lc_tradedQuantity C hX hbl hbA h hd hd4 hi hL hw hl hc hkk)
        | 35, _, ej => exact lv_tableIn (tgt := 2081) C.1 C.2.1 dL_law_44 hx1 hx2 (off := 2037) (by rw [ej]; rfl) (by decide) (lc_turnover C hX hbl hbA h hd hd4 hi hL hw hl hc hkk)
        | 36, _, ej => exact lv_tableIn (tgt := 2095) C.1 C.2.1 dL_law_44 hx1 hx2 (off := 2051) (by rw [ej]; rfl) (by decide) (lc_meanPrice C hX hbl hbA h hd hd4 hi hL hw hl hc hkk)
        | 37, _, ej => exact lv_tableIn (tgt := 2160) C.1 C.2.1 dL_law_44 hx1 hx2 (off := 2116) (by rw [ej]; rfl) (by decide) (lc_buyingShare C hX hbl hbA h hd hd4 hi hL hw hl hc hkk)
        | 38, _, ej => exact lv_tableIn (tgt := 2226) C.1 C.2.1 dL_law_44 hx1 hx2 (off := 2182) (by rw [ej]; rfl) (by decide) (lc_isPoolOpen C hX hbl hbA h hd hd4 hi hL hw hl hc hkk)
        | 39, _, ej => exact lv_tableIn (tgt := 2239) C.1 C.2.1 dL_law_44 hx1 hx2 (off := 2195) (by rw [ej]; rfl) (by decide) (lc_poolPrice C hX hbl hbA h hd hd4 hi hL hw hl hc hkk)
        | 40, _, ej => exact lv_tableIn (tgt := 2283) C.1 C.2.1 dL_law_44 hx1 hx2 (off := 2239) (by rw [ej]; rfl) (by decide) (lc_poolPriceBySums C hX hbl hbA h hd hd4 hi hL hw hl hc hkk)
        | 41, _, ej => exact lv_tableIn (tgt := 2327) C.1 C.2.1 dL_law_44 hx1 hx2 (off := 2283) (by rw [ej]; rfl) (by decide) (lc_volumeAt C hX hbl hbA h hd hd4 hi hL hw hl hc hkk)
        | 42, _, ej => exact lv_tableIn (tgt := 2383) C.1 C.2.1 dL_law_44 hx1 hx2 (off := 2339) (by rw [ej]; rfl) (by decide) (lc_time C hX hbl hbA h hd hd4 hi hL hw hl hc hkk)
        | 43, _, ej => exact lv_tableIn (tgt := 2396) C.1 C.2.1 dL_law_44 hx1 hx2 (off := 2352) (by rw [ej]; rfl) (by decide) (lc_writeOrder C hX hbl hbA h hd hd4 hi hL hw hl hc hkk)
        | 44, _, ej => exact lv_tableIn (tgt := 2452) C.1 C.2.1 dL_law_44 hx1 hx2 (off := 2408) (by rw [ej]; rfl) (by decide) (lc_writeBook C hX hbl hbA h hd hd4 hi hL hw hl hc hkk)
        | 45, _, ej => exact lv_tableIn (tgt := 2465) C.1 C.2.1 dL_law_44 hx1 hx2 (off := 2421) (by rw [ej]; rfl) (by decide) (lc_lineAt C hX hbl hbA h hd hd4 hi hL hw hl hc hkk)
        | 46, _, ej => exact lv_tableIn (tgt := 2521) C.1 C.2.1 dL_law_44 hx1 hx2 (off := 2477) (by rw [ej]; rfl) (by decide) (lc_isConsistent C hX hbl hbA h hd hd4 hi hL hw hl hc hkk)
        | 47, _, ej => exact lv_tableIn (tgt := 2534) C.1 C.2.1 dL_law_44 hx1 hx2 (off := 2490) (by rw [ej]; rfl) (by decide) (lc_type C hX hbl hbA h hd hd4 hi hL hw hl hc hkk)
        | 48, _, ej => exact lv_tableIn (tgt := 2592) C.1 C.2.1 dL_law_44 hx1 hx2 (off := 2548) (by rw [ej]; rfl) (by decide) (lc_execute C hX hbl hbA h hd hd4 hi hL hw hl hc hkk)
        | 49, _, ej => exact lv_tableIn (tgt := 2636) C.1 C.2.1 dL_law_44 hx1 hx2 (off := 2592) (by rw [ej]; rfl) (by decide) (lc_errorPosition C hX hbl hbA h hd hd4 hi hL hw hl hc hkk)
        | 50, _, ej => exact lv_tableIn (tgt := 2680) C.1 C.2.1 dL_law_44 hx1 hx2 (off := 2636) (by rw [ej]; rfl) (by decide) (lc_failedCommand C hX hbl hbA h hd hd4 hi hL hw hl hc hkk)
        | 51, _, ej => exact lv_tableIn (tgt := 2724) C.1 C.2.1 dL_law_44 hx1 hx2 (off := 2680) (by rw [ej]; rfl) (by decide) (lc_undo C hX hbl hbA h hd hd4 hi hL hw hl hc hkk)
        | 52, _, ej => exact lv_tableIn (tgt := 2768) C.1 C.2.1 dL_law_44 hx1 hx2 (off := 2724) (by rw [ej]; rfl) (by decide) (lc_save C hX hbl hbA h hd hd4 hi hL hw hl hc hkk)
        | 53, _, ej => exact lv_tableIn (tgt := 2781) C.1 C.2.1 dL_law_44 hx1 hx2 (off := 2737) (by rw [ej]; rfl) (by decide) (lc_restore C hX hbl hbA h hd hd4 hi hL hw hl hc hkk)
        | j + 54, hj, _ => exact absurd hj (by omega)
