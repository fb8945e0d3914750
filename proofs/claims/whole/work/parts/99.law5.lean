/-! The law's cases, the first -/
theorem Sm.vb2 {c : Int} {D : CD} {U : MV_} (h : Sm c D U) : D.dp ≠ 0 → isB ((D.V D.nw).1 2) := fun e => by
  have p0 := h.ps 0 (by omega)
  rw [rgI_0 h.nw] at p0
  rw [p0.1.1.2.2.1]
  exact p0.2.2.1
theorem Sm.nb2 {c : Int} {D : CD} {U : MV_} (h : Sm c D U) : ¬ D.F 0 = 0 → isB (D.N.1 2) := fun e => by
  have p0 := h.sn e
  rw [p0.1.1.2.2.1]
  exact p0.2.2.1
section LAWC
variable {p : Program} {l : Launch} {e : Env} {s : State} {m : MethodId} {below : List Frame} {meth : Method} {c : Code} {H : Heap} {locs : List Loc} {cells slots : Nat} {Q : State → Prop}
variable {G : Gx} {ret : Option FieldType} {ls : Array Slot} {b L : Nat} {xs : Nat → Int32}
set_option maxHeartbeats 4000000 in
set_option maxRecDepth 100000 in
theorem lc_addStall (C : Cx l G RL cL_law 9 ret p s m meth c #[Value.ref b]) (hX : va_X b L xs s s.heap) (hbl : b < s.heap.size) (hbA : ¬ gA G b) {c9 d : Int} {D : CD} {U : MV_} (h : Sm c9 D U) (hd : c9 + 60 ≤ d) (hd4 : d ≤ 40000) {i : Nat} (hi : i + 4 < L) (hL : L ≤ 2560) {K : Nat → Nat → Nat} {r : Nat → Nat → Nat} {mo : Nat → Nat} {o o2 : Nat} {f1 : Nat → Int64} {f2 : Nat → UInt64} (hw : WH G s (lC G o f1 :: (dC G o2 f2 :: cW G K r D (moW G mo U ++ []))) H locs) (hl : lv_has ls 9 (lvL b (K 7 0) (mo 0) o o2 i)) (hc : cells ≤ 400000 ∧ slots ≤ 4000000)
    (kk : ∀ (D' : CD) (U' : MV_) (f1' : Nat → Int64) (f2' : Nat → UInt64) (ls : Array Slot) (H : Heap) (locs : List Loc), Sm d D' U' → WH G s (lC G o f1' :: (dC G o2 f2' :: cW G K r D' (moW G mo U' ++ []))) H locs → lv_has ls 9 (lvL b (K 7 0) (mo 0) o o2 i) → W p l e room_1 s m #[Value.ref b] below meth c H locs (cells + 80) (slots + 600) Q (F0 m 2825 ls [])) : W p l e room_1 s m #[Value.ref b] below meth c H locs cells slots Q (F0 m 276 ls []) := by
  have hF := C.2.2.2.2.2.2.2.2
  refine lv_aload_n C.1 C.2.1 dL_law_276 rfl (lv_at hl 4 rfl) ?_
  refine law_arg C hX hbl hbA hw.2.1 (k := 1) (off := 1) (by omega) hL (lv_at hl 5 rfl) (lv_at hl 0 rfl) dL_law_277 dL_law_278 dL_law_280 (by decide) dL_law_281 dL_law_282 ?_
  refine law_arg C hX hbl hbA hw.2.1 (k := 2) (off := 2) (by omega) hL (lv_at hl 5 rfl) (lv_at hl 0 rfl) dL_law_283 dL_law_284 dL_law_286 (by decide) dL_law_287 dL_law_288 ?_
  refine lv_aload_n C.1 C.2.1 dL_law_289 rfl (lv_at hl 2 rfl) ?_
  have hfin := fin_addStall (U := U) h hd hd4 (xs (i + 1)) (xs (i + 2))
  refine r_hsi C hw (w_addStall hF (f := f1) (o := o) (wA := dC G o2 f2 :: cW G K r D (moW G mo U ++ [])) (WfA := fun u => dC G o2 f2 :: cW G K r (D.mod (opS D.S (nT D.S) (xs (i + 1)) (xs (i + 2)))) (moW G mo U ++ [])) (WxA := fun _ => dC G o2 f2 :: cW G K r (D) (moW G mo U ++ [])) (x11_addStall hF (K := K) (S := D.S) (r := r) (V := D.V) (nw := D.nw) (dp := D.dp) (F := D.F) (X := YB G K r D (lC G o f1) (dC G o2 f2) (moW G mo U ++ [])) h.ok h.nw h.dp h.b2 (xs (i + 1)) (xs (i + 2))) (pw_B _ _ _ _ _ _ _ _ _ _ _ _) 19 rfl (fun u => (pw_B _ _ _ _ _ _ _ _ _ _ _ _).symm) (fun k1 hk => ⟨(hfin.2 k1 hk).1, (pw_B _ _ _ _ _ _ _ _ _ _ _ _).symm⟩)) ml_L_161 yf_L_addStall rfl rfl ⟨Nat.le_of_ble_eq_true rfl, Nat.le_of_ble_eq_true rfl⟩ (by show cells + 1 ≤ 603072 ∧ slots + 6 ≤ 7198826; omega) hl.1 (Nat.le_of_ble_eq_true rfl) dL_law_290 (fun r9 u9 H locs hp hw => ?_)
  obtain ⟨D', f', hw, e1, hs, e2⟩ : ∃ (D' : CD) (f' : Nat → Int64), WH G s (lC G o f' :: (dC G o2 f2 :: cW G K r D' (moW G mo U ++ []))) H locs ∧ r9 = ((endU (asM (kpU U) (xs (i + 1)) (xs (i + 2))).1 D.dp, endA (asM (kpU U) (xs (i + 1)) (xs (i + 2))).1 (asM (kpU U) (xs (i + 1)) (xs (i + 2))).2)).1.1 2 ∧ Sm d D' ((endU (asM (kpU U) (xs (i + 1)) (xs (i + 2))).1 D.dp, endA (asM (kpU U) (xs (i + 1)) (xs (i + 2))).1 (asM (kpU U) (xs (i + 1)) (xs (i + 2))).2)).1 ∧ (r9 = 0 → f' 0 = ((endU (asM (kpU U) (xs (i + 1)) (xs (i + 2))).1 D.dp, endA (asM (kpU U) (xs (i + 1)) (xs (i + 2))).1 (asM (kpU U) (xs (i + 1)) (xs (i + 2))).2)).2.toInt64) := by
    rcases u9 with ⟨r1, u1⟩ | k1
    · obtain ⟨e, hp⟩ := hp
      obtain ⟨t1, t2, t3⟩ := hfin.1 r1 u1 hp
      exact ⟨_, _, hw, e.trans t1.symm, t3, fun _ => by rw [t2]; rfl⟩
    · obtain ⟨e, hp⟩ := hp
      obtain ⟨t0, t2, t3⟩ := hfin.2 k1 hp
      refine ⟨_, _, hw, e.trans t2, t3, fun e0 => ?_⟩
      exfalso
      rw [e] at e0
      rcases t0 with t0 | t0 <;> subst t0 <;> exact absurd e0 (by decide)
  refine lv_istore (lv' := (6, .int r9) :: lvL b (K 7 0) (mo 0) o o2 i) C.1 C.2.1 dL_law_293 hl (by decide) rfl (fun ls hl => ?_)
  refine lv_aload_n C.1 C.2.1 dL_law_295 rfl (lv_at hl 4 rfl) ?_
  refine law_arg C hX hbl hbA hw.2.1 (k := 1) (off := 1) (by omega) hL (lv_at hl 6 rfl) (lv_at hl 1 rfl) dL_law_296 dL_law_297 dL_law_299 (by decide) dL_law_300 dL_law_301 ?_
  refine law_arg C hX hbl hbA hw.2.1 (k := 2) (off := 2) (by omega) hL (lv_at hl 6 rfl) (lv_at hl 1 rfl) dL_law_302 dL_law_303 dL_law_305 (by decide) dL_law_306 dL_law_307 ?_
  refine r_vi C (hw.perm (pw_M _ _ _ _ _ _ _ _ _ _ _ _ _)) (k12_addStall hF (U := U) (mo := mo) h.okf h.pm h.dp (xs (i + 1)) (xs (i + 2))) ml_L_166 yf_X12_addStall 0 rfl rfl (As := [.int (xs (i + 1)), .int (xs (i + 2))]) rfl rfl ⟨Nat.le_of_ble_eq_true rfl, Nat.le_of_ble_eq_true rfl⟩ (by show cells + 1 + 0 ≤ 603072 ∧ slots + 6 + 0 ≤ 7198826; omega) hl.1 (Nat.le_of_ble_eq_true rfl) dL_law_308 (fun r3 _ H locs hp3 hw => ?_)
  exact law_tail C hw (k := r9) e1 (fun e => (e2 e).trans (by rw [hp3])) hl ⟨by omega, by omega⟩ dL_law_311 dL_law_313 dL_law_314 dL_law_317 dL_law_319 dL_law_324 dL_law_326 dL_law_329 dL_law_330 dL_law_331 dL_law_332 dL_law_334 dL_law_335 dL_law_336 dL_law_341 (by decide) (fun ls H locs hl hw => W.widen (by omega) (by omega) (kk D' _ f' f2 ls H locs hs (hw.perm (pw_M _ _ _ _ _ _ _ _ _ _ _ _ _).symm) hl))
set_option maxHeartbeats 4000000 in
set_option maxRecDepth 100000 in
theorem lc_placeBuy (C : Cx l G RL cL_law 9 ret p s m meth c #[Value.ref b]) (hX : va_X b L xs s s.heap) (hbl : b < s.heap.size) (hbA : ¬ gA G b) {c9 d : Int} {D : CD} {U : MV_} (h : Sm c9 D U) (hd : c9 + 60 ≤ d) (hd4 : d ≤ 40000) {i : Nat} (hi : i + 4 < L) (hL : L ≤ 2560) {K : Nat → Nat → Nat} {r : Nat → Nat → Nat} {mo : Nat → Nat} {o o2 : Nat} {f1 : Nat → Int64} {f2 : Nat → UInt64} (hw : WH G s (lC G o f1 :: (dC G o2 f2 :: cW G K r D (moW G mo U ++ []))) H locs) (hl : lv_has ls 9 (lvL b (K 7 0) (mo 0) o o2 i)) (hc : cells ≤ 400000 ∧ slots ≤ 4000000)
    (kk : ∀ (D' : CD) (U' : MV_) (f1' : Nat → Int64) (f2' : Nat → UInt64) (ls : Array Slot) (H : Heap) (locs : List Loc), Sm d D' U' → WH G s (lC G o f1' :: (dC G o2 f2' :: cW G K r D' (moW G mo U' ++ []))) H locs → lv_has ls 9 (lvL b (K 7 0) (mo 0) o o2 i) → W p l e room_1 s m #[Value.ref b] below meth c H locs (cells + 80) (slots + 600) Q (F0 m 2825 ls [])) : W p l e room_1 s m #[Value.ref b] below meth c H locs cells slots Q (F0 m 344 ls []) := by
  have hF := C.2.2.2.2.2.2.2.2
  refine lv_aload_n C.1 C.2.1 dL_law_344 rfl (lv_at hl 4 rfl) ?_
  refine law_arg C hX hbl hbA hw.2.1 (k := 1) (off := 1) (by omega) hL (lv_at hl 5 rfl) (lv_at hl 0 rfl) dL_law_345 dL_law_346 dL_law_348 (by decide) dL_law_349 dL_law_350 ?_
  refine law_arg C hX hbl hbA hw.2.1 (k := 2) (off := 2) (by omega) hL (lv_at hl 5 rfl) (lv_at hl 0 rfl) dL_law_351 dL_law_352 dL_law_354 (by decide) dL_law_355 dL_law_356 ?_
  refine law_arg C hX hbl hbA hw.2.1 (k := 3) (off := 3) (by omega) hL (lv_at hl 5 rfl) (lv_at hl 0 rfl) dL_law_357 dL_law_358 dL_law_360 (by decide) dL_law_361 dL_law_362 ?_
  refine lv_aload_n C.1 C.2.1 dL_law_363 rfl (lv_at hl 2 rfl) ?_
  have hfin := fin_placeBuy (U := U) h hd hd4 (xs (i + 1)) (xs (i + 2)) (xs (i + 3))
  refine r_hsi C hw (w_placeBuy hF (f := f1) (o := o) (wA := dC G o2 f2 :: cW G K r D (moW G mo U ++ [])) (WfA := fun u => dC G o2 f2 :: cW G K r (D.mod (plS D.S true (xs (i + 1)) (xs (i + 2)) (xs (i + 3)) 0)) (moW G mo U ++ [])) (WxA := fun _ => dC G o2 f2 :: cW G K r (D) (moW G mo U ++ [])) (x11_placeBuy hF (K := K) (S := D.S) (r := r) (V := D.V) (nw := D.nw) (dp := D.dp) (F := D.F) (X := YB G K r D (lC G o f1) (dC G o2 f2) (moW G mo U ++ [])) h.ok h.nw h.dp h.b2 (xs (i + 1)) (xs (i + 2)) (xs (i + 3))) (pw_B _ _ _ _ _ _ _ _ _ _ _ _) 19 rfl (fun u => (pw_B _ _ _ _ _ _ _ _ _ _ _ _).symm) (fun k1 hk => ⟨(hfin.2 k1 hk).1, (pw_B _ _ _ _ _ _ _ _ _ _ _ _).symm⟩)) ml_L_170 yf_L_placeBuy rfl rfl ⟨Nat.le_of_ble_eq_true rfl, Nat.le_of_ble_eq_true rfl⟩ (by show cells + 1 ≤ 603072 ∧ slots + 6 ≤ 7198826; omega) hl.1 (Nat.le_of_ble_eq_true rfl) dL_law_364 (fun r9 u9 H locs hp hw => ?_)
  obtain ⟨D', f', hw, e1, hs, e2⟩ : ∃ (D' : CD) (f' : Nat → Int64), WH G s (lC G o f' :: (dC G o2 f2 :: cW G K r D' (moW G mo U ++ []))) H locs ∧ r9 = ((endU (opM (kpU U) (xs (i + 1)) true (xs (i + 2)) (xs (i + 3)) 0).1 D.dp, endA (opM (kpU U) (xs (i + 1)) true (xs (i + 2)) (xs (i + 3)) 0).1 (opM (kpU U) (xs (i + 1)) true (xs (i + 2)) (xs (i + 3)) 0).2)).1.1 2 ∧ Sm d D' ((endU (opM (kpU U) (xs (i + 1)) true (xs (i + 2)) (xs (i + 3)) 0).1 D.dp, endA (opM (kpU U) (xs (i + 1)) true (xs (i + 2)) (xs (i + 3)) 0).1 (opM (kpU U) (xs (i + 1)) true (xs (i + 2)) (xs (i + 3)) 0).2)).1 ∧ (r9 = 0 → f' 0 = ((endU (opM (kpU U) (xs (i + 1)) true (xs (i + 2)) (xs (i + 3)) 0).1 D.dp, endA (opM (kpU U) (xs (i + 1)) true (xs (i + 2)) (xs (i + 3)) 0).1 (opM (kpU U) (xs (i + 1)) true (xs (i + 2)) (xs (i + 3)) 0).2)).2.toInt64) := by
    rcases u9 with ⟨r1, u1⟩ | k1
    · obtain ⟨e, hp⟩ := hp
      obtain ⟨t1, t2, t3⟩ := hfin.1 r1 u1 hp
      exact ⟨_, _, hw, e.trans t1.symm, t3, fun _ => by rw [t2]; rfl⟩
    · obtain ⟨e, hp⟩ := hp
      obtain ⟨t0, t2, t3⟩ := hfin.2 k1 hp
      refine ⟨_, _, hw, e.trans t2, t3, fun e0 => ?_⟩
      exfalso
      rw [e] at e0
      rcases t0 with t0 | t0 | t0 | t0 <;> subst t0 <;> exact absurd e0 (by decide)
  refine lv_istore (lv' := (6, .int r9) :: lvL b (K 7 0) (mo 0) o o2 i) C.1 C.2.1 dL_law_367 hl (by decide) rfl (fun ls hl => ?_)
  refine lv_aload_n C.1 C.2.1 dL_law_369 rfl (lv_at hl 4 rfl) ?_
  refine law_arg C hX hbl hbA hw.2.1 (k := 1) (off := 1) (by omega) hL (lv_at hl 6 rfl) (lv_at hl 1 rfl) dL_law_370 dL_law_371 dL_law_373 (by decide) dL_law_374 dL_law_375 ?_
  refine law_arg C hX hbl hbA hw.2.1 (k := 2) (off := 2) (by omega) hL (lv_at hl 6 rfl) (lv_at hl 1 rfl) dL_law_376 dL_law_377 dL_law_379 (by decide) dL_law_380 dL_law_381 ?_
  refine law_arg C hX hbl hbA hw.2.1 (k := 3) (off := 3) (by omega) hL (lv_at hl 6 rfl) (lv_at hl 1 rfl) dL_law_382 dL_law_383 dL_law_385 (by decide) dL_law_386 dL_law_387 ?_
  refine r_vi C (hw.perm (pw_M _ _ _ _ _ _ _ _ _ _ _ _ _)) (k12_placeBuy hF (U := U) (mo := mo) h.okf h.pm h.dp (xs (i + 1)) (xs (i + 2)) (xs (i + 3))) ml_L_173 yf_X12_placeBuy 0 rfl rfl (As := [.int (xs (i + 1)), .int (xs (i + 2)), .int (xs (i + 3))]) rfl rfl ⟨Nat.le_of_ble_eq_true rfl, Nat.le_of_ble_eq_true rfl⟩ (by show cells + 1 + 0 ≤ 603072 ∧ slots + 6 + 0 ≤ 7198826; omega) hl.1 (Nat.le_of_ble_eq_true rfl) dL_law_388 (fun r3 _ H locs hp3 hw => ?_)
  exact law_tail C hw (k := r9) e1 (fun e => (e2 e).trans (by rw [hp3])) hl ⟨by omega, by omega⟩ dL_law_391 dL_law_393 dL_law_394 dL_law_397 dL_law_399 dL_law_404 dL_law_406 dL_law_409 dL_law_410 dL_law_411 dL_law_412 dL_law_414 dL_law_415 dL_law_416 dL_law_421 (by decide) (fun ls H locs hl hw => W.widen (by omega) (by omega) (kk D' _ f' f2 ls H locs hs (hw.perm (pw_M _ _ _ _ _ _ _ _ _ _ _ _ _).symm) hl))
set_option maxHeartbeats 4000000 in
set_option maxRecDepth 100000 in
theorem lc_placeSell (C : Cx l G RL cL_law 9 ret p s m meth c #[Value.ref b]) (hX : va_X b L xs s s.heap) (hbl : b < s.heap.size) (hbA : ¬ gA G b) {c9 d : Int} {D : CD} {U : MV_} (h : Sm c9 D U) (hd : c9 + 60 ≤ d) (hd4 : d ≤ 40000) {i : Nat} (hi : i + 4 < L) (hL : L ≤ 2560) {K : Nat → Nat → Nat} {r : Nat → Nat → Nat} {mo : Nat → Nat} {o o2 : Nat} {f1 : Nat → Int64} {f2 : Nat → UInt64} (hw : WH G s (lC G o f1 :: (dC G o2 f2 :: cW G K r D (moW G mo U ++ []))) H locs) (hl : lv_has ls 9 (lvL b (K 7 0) (mo 0) o o2 i)) (hc : cells ≤ 400000 ∧ slots ≤ 4000000)
    (kk : ∀ (D' : CD) (U' : MV_) (f1' : Nat → Int64) (f2' : Nat → UInt64) (ls : Array Slot) (H : Heap) (locs : List Loc), Sm d D' U' → WH G s (lC G o f1' :: (dC G o2 f2' :: cW G K r D' (moW G mo U' ++ []))) H locs → lv_has ls 9 (lvL b (K 7 0) (mo 0) o o2 i) → W p l e room_1 s m #[Value.ref b] below meth c H locs (cells + 80) (slots + 600) Q (F0 m 2825 ls [])) : W p l e room_1 s m #[Value.ref b] below meth c H locs cells slots Q (F0 m 424 ls []) := by
  have hF := C.2.2.2.2.2.2.2.2
  refine lv_aload_n C.1 C.2.1 dL_law_424 rfl (lv_at hl 4 rfl) ?_
  refine law_arg C hX hbl hbA hw.2.1 (k := 1) (off := 1) (by omega) hL (lv_at hl 5 rfl) (lv_at hl 0 rfl) dL_law_425 dL_law_426 dL_law_428 (by decide) dL_law_429 dL_law_430 ?_
  refine law_arg C hX hbl hbA hw.2.1 (k := 2) (off := 2) (by omega) hL (lv_at hl 5 rfl) (lv_at hl 0 rfl) dL_law_431 dL_law_432 dL_law_434 (by decide) dL_law_435 dL_law_436 ?_
  refine law_arg C hX hbl hbA hw.2.1 (k := 3) (off := 3) (by omega) hL (lv_at hl 5 rfl) (lv_at hl 0 rfl) dL_law_437 dL_law_438 dL_law_440 (by decide) dL_law_441 dL_law_442 ?_
  refine lv_aload_n C.1 C.2.1 dL_law_443 rfl (lv_at hl 2 rfl) ?_
  have hfin := fin_placeSell (U := U) h hd hd4 (xs (i + 1)) (xs (i + 2)) (xs (i + 3))
  refine r_hsi C hw (w_placeSell hF (f := f1) (o := o) (wA := dC G o2 f2 :: cW G K r D (moW G mo U ++ [])) (WfA := fun u => dC G o2 f2 :: cW G K r (D.mod (plS D.S false (xs (i + 1)) (xs (i + 2)) (xs (i + 3)) 0)) (moW G mo U ++ [])) (WxA := fun _ => dC G o2 f2 :: cW G K r (D) (moW G mo U ++ [])) (x11_placeSell hF (K := K) (S := D.S) (r := r) (V := D.V) (nw := D.nw) (dp := D.dp) (F := D.F) (X := YB G K r D (lC G o f1) (dC G o2 f2) (moW G mo U ++ [])) h.ok h.nw h.dp h.b2 (xs (i + 1)) (xs (i + 2)) (xs (i + 3))) (pw_B _ _ _ _ _ _ _ _ _ _ _ _) 19 rfl (fun u => (pw_B _ _ _ _ _ _ _ _ _ _ _ _).symm) (fun k1 hk => ⟨(hfin.2 k1 hk).1, (pw_B _ _ _ _ _ _ _ _ _ _ _ _).symm⟩)) ml_L_174 yf_L_placeSell rfl rfl ⟨Nat.le_of_ble_eq_true rfl, Nat.le_of_ble_eq_true rfl⟩ (by show cells + 1 ≤ 603072 ∧ slots + 6 ≤ 7198826; omega) hl.1 (Nat.le_of_ble_eq_true rfl) dL_law_444 (fun r9 u9 H locs hp hw => ?_)
  obtain ⟨D', f', hw, e1, hs, e2⟩ : ∃ (D' : CD) (f' : Nat → Int64), WH G s (lC G o f' :: (dC G o2 f2 :: cW G K r D' (moW G mo U ++ []))) H locs ∧ r9 = ((endU (opM (kpU U) (xs (i + 1)) false (xs (i + 2)) (xs (i + 3)) 0).1 D.dp, endA (opM (kpU U) (xs (i + 1)) false (xs (i + 2)) (xs (i + 3)) 0).1 (opM (kpU U) (xs (i + 1)) false (xs (i + 2)) (xs (i + 3)) 0).2)).1.1 2 ∧ Sm d D' ((endU (opM (kpU U) (xs (i + 1)) false (xs (i + 2)) (xs (i + 3)) 0).1 D.dp, endA (opM (kpU U) (xs (i + 1)) false (xs (i + 2)) (xs (i + 3)) 0).1 (opM (kpU U) (xs (i + 1)) false (xs (i + 2)) (xs (i + 3)) 0).2)).1 ∧ (r9 = 0 → f' 0 = ((endU (opM (kpU U) (xs (i + 1)) false (xs (i + 2)) (xs (i + 3)) 0).1 D.dp, endA (opM (kpU U) (xs (i + 1)) false (xs (i + 2)) (xs (i + 3)) 0).1 (opM (kpU U) (xs (i + 1)) false (xs (i + 2)) (xs (i + 3)) 0).2)).2.toInt64) := by
    rcases u9 with ⟨r1, u1⟩ | k1
    · obtain ⟨e, hp⟩ := hp
      obtain ⟨t1, t2, t3⟩ := hfin.1 r1 u1 hp
      exact ⟨_, _, hw, e.trans t1.symm, t3, fun _ => by rw [t2]; rfl⟩
    · obtain ⟨e, hp⟩ := hp
      obtain ⟨t0, t2, t3⟩ := hfin.2 k1 hp
      refine ⟨_, _, hw, e.trans t2, t3, fun e0 => ?_⟩
      exfalso
      rw [e] at e0
      rcases t0 with t0 | t0 | t0 | t0 <;> subst t0 <;> exact absurd e0 (by decide)
  refine lv_istore (lv' := (6, .int r9) :: lvL b (K 7 0) (mo 0) o o2 i) C.1 C.2.1 dL_law_447 hl (by decide) rfl (fun ls hl => ?_)
  refine lv_aload_n C.1 C.2.1 dL_law_449 rfl (lv_at hl 4 rfl) ?_
  refine law_arg C hX hbl hbA hw.2.1 (k := 1) (off := 1) (by omega) hL (lv_at hl 6 rfl) (lv_at hl 1 rfl) dL_law_450 dL_law_451 dL_law_453 (by decide) dL_law_454 dL_law_455 ?_
  refine law_arg C hX hbl hbA hw.2.1 (k := 2) (off := 2) (by omega) hL (lv_at hl 6 rfl) (lv_at hl 1 rfl) dL_law_456 dL_law_457 dL_law_459 (by decide) dL_law_460 dL_law_461 ?_
  refine law_arg C hX hbl hbA hw.2.1 (k := 3) (off := 3) (by omega) hL (lv_at hl 6 rfl) (lv_at hl 1 rfl) dL_law_462 dL_law_463 dL_law_465 (by decide) dL_law_466 dL_law_467 ?_
  refine r_vi C (hw.perm (pw_M _ _ _ _ _ _ _ _ _ _ _ _ _)) (k12_placeSell hF (U := U) (mo := mo) h.okf h.pm h.dp (xs (i + 1)) (xs (i + 2)) (xs (i + 3))) ml_L_176 yf_X12_placeSell 0 rfl rfl (As := [.int (xs (i + 1)), .int (xs (i + 2)), .int (xs (i + 3))]) rfl rfl ⟨Nat.le_of_ble_eq_true rfl, Nat.le_of_ble_eq_true rfl⟩ (by show cells + 1 + 0 ≤ 603072 ∧ slots + 6 + 0 ≤ 7198826; omega) hl.1 (Nat.le_of_ble_eq_true rfl) dL_law_468 (fun r3 _ H locs hp3 hw => ?_)
  exact law_tail C hw (k := r9) e1 (fun e => (e2 e).trans (by rw [hp3])) hl ⟨by omega, by omega⟩ dL_law_471 dL_law_473 dL_law_474 dL_law_477 dL_law_479 dL_law_484 dL_law_486 dL_law_489 dL_law_490 dL_law_491 dL_law_492 dL_law_494 dL_law_495 dL_law_496 dL_law_501 (by decide) (fun ls H locs hl hw => W.widen (by omega) (by omega) (kk D' _ f' f2 ls H locs hs (hw.perm (pw_M _ _ _ _ _ _ _ _ _ _ _ _ _).symm) hl))
set_option maxHeartbeats 4000000 in
set_option maxRecDepth 100000 in
theorem lc_placeBuyFor (C : Cx l G RL cL_law 9 ret p s m meth c #[Value.ref b]) (hX : va_X b L xs s s.heap) (hbl : b < s.heap.size) (hbA : ¬ gA G b) {c9 d : Int} {D : CD} {U : MV_} (h : Sm c9 D U) (hd : c9 + 60 ≤ d) (hd4 : d ≤ 40000) {i : Nat} (hi : i + 4 < L) (hL : L ≤ 2560) {K : Nat → Nat → Nat} {r : Nat → Nat → Nat} {mo : Nat → Nat} {o o2 : Nat} {f1 : Nat → Int64} {f2 : Nat → UInt64} (hw : WH G s (lC G o f1 :: (dC G o2 f2 :: cW G K r D (moW G mo U ++ []))) H locs) (hl : lv_has ls 9 (lvL b (K 7 0) (mo 0) o o2 i)) (hc : cells ≤ 400000 ∧ slots ≤ 4000000)
    (kk : ∀ (D' : CD) (U' : MV_) (f1' : Nat → Int64) (f2' : Nat → UInt64) (ls : Array Slot) (H : Heap) (locs : List Loc), Sm d D' U' → WH G s (lC G o f1' :: (dC G o2 f2' :: cW G K r D' (moW G mo U' ++ []))) H locs → lv_has ls 9 (lvL b (K 7 0) (mo 0) o o2 i) → W p l e room_1 s m #[Value.ref b] below meth c H locs (cells + 80) (slots + 600) Q (F0 m 2825 ls [])) : W p l e room_1 s m #[Value.ref b] below meth c H locs cells slots Q (F0 m 504 ls []) := by
  have hF := C.2.2.2.2.2.2.2.2
  refine lv_aload_n C.1 C.2.1 dL_law_504 rfl (lv_at hl 4 rfl) ?_
  refine law_arg C hX hbl hbA hw.2.1 (k := 1) (off := 1) (by omega) hL (lv_at hl 5 rfl) (lv_at hl 0 rfl) dL_law_505 dL_law_506 dL_law_508 (by decide) dL_law_509 dL_law_510 ?_
  refine law_arg C hX hbl hbA hw.2.1 (k := 2) (off := 2) (by omega) hL (lv_at hl 5 rfl) (lv_at hl 0 rfl) dL_law_511 dL_law_512 dL_law_514 (by decide) dL_law_515 dL_law_516 ?_
  refine law_arg C hX hbl hbA hw.2.1 (k := 3) (off := 3) (by omega) hL (lv_at hl 5 rfl) (lv_at hl 0 rfl) dL_law_517 dL_law_518 dL_law_520 (by decide) dL_law_521 dL_law_522 ?_
  refine law_arg C hX hbl hbA hw.2.1 (k := 4) (off := 4) (by omega) hL (lv_at hl 5 rfl) (lv_at hl 0 rfl) dL_law_523 dL_law_524 dL_law_526 (by decide) dL_law_527 dL_law_528 ?_
  refine lv_aload_n C.1 C.2.1 dL_law_529 rfl (lv_at hl 2 rfl) ?_
  have hfin := fin_placeBuyFor (U := U) h hd hd4 (xs (i + 1)) (xs (i + 2)) (xs (i + 3)) (xs (i + 4))
  refine r_hsi C hw (w_placeBuyFor hF (f := f1) (o := o) (wA := dC G o2 f2 :: cW G K r D (moW G mo U ++ [])) (WfA := fun u => dC G o2 f2 :: cW G K r (D.mod (plS D.S true (xs (i + 1)) (xs (i + 2)) (xs (i + 3)) (xs (i + 4)))) (moW G mo U ++ [])) (WxA := fun _ => dC G o2 f2 :: cW G K r (D) (moW G mo U ++ [])) (x11_placeBuyFor hF (K := K) (S := D.S) (r := r) (V := D.V) (nw := D.nw) (dp := D.dp) (F := D.F) (X := YB G K r D (lC G o f1) (dC G o2 f2) (moW G mo U ++ [])) h.ok h.nw h.dp h.b2 (xs (i + 1)) (xs (i + 2)) (xs (i + 3)) (xs (i + 4))) (pw_B _ _ _ _ _ _ _ _ _ _ _ _) 19 rfl (fun u => (pw_B _ _ _ _ _ _ _ _ _ _ _ _).symm) (fun k1 hk => ⟨(hfin.2 k1 hk).1, (pw_B _ _ _ _ _ _ _ _ _ _ _ _).symm⟩)) ml_L_177 yf_L_placeBuyFor rfl rfl ⟨Nat.le_of_ble_eq_true rfl, Nat.le_of_ble_eq_true rfl⟩ (by show cells + 1 ≤ 603072 ∧ slots + 6 ≤ 7198826; omega) hl.1 (Nat.le_of_ble_eq_true rfl) dL_law_530 (fun r9 u9 H locs hp hw => ?_)
  obtain ⟨D', f', hw, e1, hs, e2⟩ : ∃ (D' : CD) (f' : Nat → Int64), WH G s (lC G o f' :: (dC G o2 f2 :: cW G K r D' (moW G mo U ++ []))) H locs ∧ r9 = ((endU (opM (kpU U) (xs (i + 1)) true (xs (i + 2)) (xs (i + 3)) (mfR (xs (i + 4)))).1 D.dp, endA (opM (kpU U) (xs (i + 1)) true (xs (i + 2)) (xs (i + 3)) (mfR (xs (i + 4)))).1 (opM (kpU U) (xs (i + 1)) true (xs (i + 2)) (xs (i + 3)) (mfR (xs (i + 4)))).2)).1.1 2 ∧ Sm d D' ((endU (opM (kpU U) (xs (i + 1)) true (xs (i + 2)) (xs (i + 3)) (mfR (xs (i + 4)))).1 D.dp, endA (opM (kpU U) (xs (i + 1)) true (xs (i + 2)) (xs (i + 3)) (mfR (xs (i + 4)))).1 (opM (kpU U) (xs (i + 1)) true (xs (i + 2)) (xs (i + 3)) (mfR (xs (i + 4)))).2)).1 ∧ (r9 = 0 → f' 0 = ((endU (opM (kpU U) (xs (i + 1)) true (xs (i + 2)) (xs (i + 3)) (mfR (xs (i + 4)))).1 D.dp, endA (opM (kpU U) (xs (i + 1)) true (xs (i + 2)) (xs (i + 3)) (mfR (xs (i + 4)))).1 (opM (kpU U) (xs (i + 1)) true (xs (i + 2)) (xs (i + 3)) (mfR (xs (i + 4)))).2)).2.toInt64) := by
    rcases u9 with ⟨r1, u1⟩ | k1
    · obtain ⟨e, hp⟩ := hp
      obtain ⟨t1, t2, t3⟩ := hfin.1 r1 u1 hp
      exact ⟨_, _, hw, e.trans t1.symm, t3, fun _ => by rw [t2]; rfl⟩
    · obtain ⟨e, hp⟩ := hp
      obtain ⟨t0, t2, t3⟩ := hfin.2 k1 hp
      refine ⟨_, _, hw, e.trans t2, t3, fun e0 => ?_⟩
      exfalso
      rw [e] at e0
      rcases t0 with t0 | t0 | t0 | t0 <;> subst t0 <;> exact absurd e0 (by decide)
  refine lv_istore (lv' := (6, .int r9) :: lvL b (K 7 0) (mo 0) o o2 i) C.1 C.2.1 dL_law_533 hl (by decide) rfl (fun ls hl => ?_)
  refine lv_aload_n C.1 C.2.1 dL_law_535 rfl (lv_at hl 4 rfl) ?_
  refine law_arg C hX hbl hbA hw.2.1 (k := 1) (off := 1) (by omega) hL (lv_at hl 6 rfl) (lv_at hl 1 rfl) dL_law_536 dL_law_537 dL_law_539 (by decide) dL_law_540 dL_law_541 ?_
  refine law_arg C hX hbl hbA hw.2.1 (k := 2) (off := 2) (by omega) hL (lv_at hl 6 rfl) (lv_at hl 1 rfl) dL_law_542 dL_law_543 dL_law_545 (by decide) dL_law_546 dL_law_547 ?_
  refine law_arg C hX hbl hbA hw.2.1 (k := 3) (off := 3) (by omega) hL (lv_at hl 6 rfl) (lv_at hl 1 rfl) dL_law_548 dL_law_549 dL_law_551 (by decide) dL_law_552 dL_law_553 ?_
  refine law_arg C hX hbl hbA hw.2.1 (k := 4) (off := 4) (by omega) hL (lv_at hl 6 rfl) (lv_at hl 1 rfl) dL_law_554 dL_law_555 dL_law_557 (by decide) dL_law_558 dL_law_559 ?_
  refine r_vi C (hw.perm (pw_M _ _ _ _ _ _ _ _ _ _ _ _ _)) (k12_placeBuyFor hF (U := U) (mo := mo) h.okf h.pm h.dp (xs (i + 1)) (xs (i + 2)) (xs (i + 3)) (xs (i + 4))) ml_L_180 yf_X12_placeBuyFor 0 rfl rfl (As := [.int (xs (i + 1)), .int (xs (i + 2)), .int (xs (i + 3)), .int (xs (i + 4))]) rfl rfl ⟨Nat.le_of_ble_eq_true rfl, Nat.le_of_ble_eq_true rfl⟩ (by show cells + 1 + 0 ≤ 603072 ∧ slots + 6 + 0 ≤ 7198826; omega) hl.1 (Nat.le_of_ble_eq_true rfl) dL_law_560 (fun r3 _ H locs hp3 hw => ?_)
  exact law_tail C hw (k := r9) e1 (fun e => (e2 e).trans (by rw [hp3])) hl ⟨by omega, by omega⟩ dL_law_563 dL_law_565 dL_law_566 dL_law_569 dL_law_571 dL_law_576 dL_law_578 dL_law_581 dL_law_582 dL_law_583 dL_law_584 dL_law_586 dL_law_587 dL_law_588 dL_law_593 (by decide) (fun ls H locs hl hw => W.widen (by omega) (by omega) (kk D' _ f' f2 ls H locs hs (hw.perm (pw_M _ _ _ _ _ _ _ _ _ _ _ _ _).symm) hl))
set_option maxHeartbeats 4000000 in
set_option maxRecDepth 100000 in
theorem lc_placeSellFor (C : Cx l G RL cL_law 9 ret p s m meth c #[Value.ref b]) (hX : va_X b L xs s s.heap) (hbl : b < s.heap.size) (hbA : ¬ gA G b) {c9 d : Int} {D : CD} {U : MV_} (h : Sm c9 D U) (hd : c9 + 60 ≤ d) (hd4 : d ≤ 40000) {i : Nat} (hi : i + 4 < L) (hL : L ≤ 2560) {K : Nat → Nat → Nat} {r : Nat → Nat → Nat} {mo : Nat → Nat} {o o2 : Nat} {f1 : Nat → Int64} {f2 : Nat → UInt64} (hw : WH G s (lC G o f1 :: (dC G o2 f2 :: cW G K r D (moW G mo U ++ []))) H locs) (hl : lv_has ls 9 (lvL b (K 7 0) (mo 0) o o2 i)) (hc : cells ≤ 400000 ∧ slots ≤ 4000000)
    (kk : ∀ (D' : CD) (U' : MV_) (f1' : Nat → Int64) (f2' : Nat → UInt64) (ls : Array Slot) (H : Heap) (locs : List Loc), Sm d D' U' → WH G s (lC G o f1' :: (dC G o2 f2' :: cW G K r D' (moW G mo U' ++ []))) H locs → lv_has ls 9 (lvL b (K 7 0) (mo 0) o o2 i) → W p l e room_1 s m #[Value.ref b] below meth c H locs (cells + 80) (slots + 600) Q (F0 m 2825 ls [])) : W p l e room_1 s m #[Value.ref b] below meth c H locs cells slots Q (F0 m 596 ls []) := by
  have hF := C.2.2.2.2.2.2.2.2
  refine lv_aload_n C.1 C.2.1 dL_law_596 rfl (lv_at hl 4 rfl) ?_
  refine law_arg C hX hbl hbA hw.2.1 (k := 1) (off := 1) (by omega) hL (lv_at hl 5 rfl) (lv_at hl 0 rfl) dL_law_597 dL_law_598 dL_law_600 (by decide) dL_law_601 dL_law_602 ?_
  refine law_arg C hX hbl hbA hw.2.1 (k := 2) (off := 2) (by omega) hL (lv_at hl 5 rfl) (lv_at hl 0 rfl) dL_law_603 dL_law_604 dL_law_606 (by decide) dL_law_607 dL_law_608 ?_
  refine law_arg C hX hbl hbA hw.2.1 (k := 3) (off := 3) (by omega) hL (lv_at hl 5 rfl) (lv_at hl 0 rfl) dL_law_609 dL_law_610 dL_law_612 (by decide) dL_law_613 dL_law_614 ?_
  refine law_arg C hX hbl hbA hw.2.1 (k := 4) (off := 4) (by omega) hL (lv_at hl 5 rfl) (lv_at hl 0 rfl) dL_law_615 dL_law_616 dL_law_618 (by decide) dL_law_619 dL_law_620 ?_
  refine lv_aload_n C.1 C.2.1 dL_law_621 rfl (lv_at hl 2 rfl) ?_
  have hfin := fin_placeSellFor (U := U) h hd hd4 (xs (i + 1)) (xs (i + 2)) (xs (i + 3)) (xs (i + 4))
  refine r_hsi C hw (w_placeSellFor hF (f := f1) (o := o) (wA := dC G o2 f2 :: cW G K r D (moW G mo U ++ [])) (WfA := fun u => dC G o2 f2 :: cW G K r (D.mod (plS D.S false (xs (i + 1)) (xs (i + 2)) (xs (i + 3)) (xs (i + 4)))) (moW G mo U ++ [])) (WxA := fun _ => dC G o2 f2 :: cW G K r (D) (moW G mo U ++ [])) (x11_placeSellFor hF (K := K) (S := D.S) (r := r) (V := D.V) (nw := D.nw) (dp := D.dp) (F := D.F) (X := YB G K r D (lC G o f1) (dC G o2 f2) (moW G mo U ++ [])) h.ok h.nw h.dp h.b2 (xs (i + 1)) (xs (i + 2)) (xs (i + 3)) (xs (i + 4))) (pw_B _ _ _ _ _ _ _ _ _ _ _ _) 19 rfl (fun u => (pw_B _ _ _ _ _ _ _ _ _ _ _ _).symm) (fun k1 hk => ⟨(hfin.2 k1 hk).1, (pw_B _ _ _ _ _ _ _ _ _ _ _ _).symm⟩)) ml_L_181 yf_L_placeSellFor rfl rfl ⟨Nat.le_of_ble_eq_true rfl, Nat.le_of_ble_eq_true rfl⟩ (by show cells + 1 ≤ 603072 ∧ slots + 6 ≤ 7198826; omega) hl.1 (Nat.le_of_ble_eq_true rfl) dL_law_622 (fun r9 u9 H locs hp hw => ?_)
  obtain ⟨D', f', hw, e1, hs, e2⟩ : ∃ (D' : CD) (f' : Nat → Int64), WH G s (lC G o f' :: (dC G o2 f2 :: cW G K r D' (moW G mo U ++ []))) H locs ∧ r9 = ((endU (opM (kpU U) (xs (i + 1)) false (xs (i + 2)) (xs (i + 3)) (mfR (xs (i + 4)))).1 D.dp, endA (opM (kpU U) (xs (i + 1)) false (xs (i + 2)) (xs (i + 3)) (mfR (xs (i + 4)))).1 (opM (kpU U) (xs (i + 1)) false (xs (i + 2)) (xs (i + 3)) (mfR (xs (i + 4)))).2)).1.1 2 ∧ Sm d D' ((endU (opM (kpU U) (xs (i + 1)) false (xs (i + 2)) (xs (i + 3)) (mfR (xs (i + 4)))).1 D.dp, endA (opM (kpU U) (xs (i + 1)) false (xs (i + 2)) (xs (i + 3)) (mfR (xs (i + 4)))).1 (opM (kpU U) (xs (i + 1)) false (xs (i + 2)) (xs (i + 3)) (mfR (xs (i + 4)))).2)).1 ∧ (r9 = 0 → f' 0 = ((endU (opM (kpU U) (xs (i + 1)) false (xs (i + 2)) (xs (i + 3)) (mfR (xs (i + 4)))).1 D.dp, endA (opM (kpU U) (xs (i + 1)) false (xs (i + 2)) (xs (i + 3)) (mfR (xs (i + 4)))).1 (opM (kpU U) (xs (i + 1)) false (xs (i + 2)) (xs (i + 3)) (mfR (xs (i + 4)))).2)).2.toInt64) := by
    rcases u9 with ⟨r1, u1⟩ | k1
    · obtain ⟨e, hp⟩ := hp
      obtain ⟨t1, t2, t3⟩ := hfin.1 r1 u1 hp
      exact ⟨_, _, hw, e.trans t1.symm, t3, fun _ => by rw [t2]; rfl⟩
    · obtain ⟨e, hp⟩ := hp
      obtain ⟨t0, t2, t3⟩ := hfin.2 k1 hp
      refine ⟨_, _, hw, e.trans t2, t3, fun e0 => ?_⟩
      exfalso
      rw [e] at e0
      rcases t0 with t0 | t0 | t0 | t0 <;> subst t0 <;> exact absurd e0 (by decide)
  refine lv_istore (lv' := (6, .int r9) :: lvL b (K 7 0) (mo 0) o o2 i) C.1 C.2.1 dL_law_625 hl (by decide) rfl (fun ls hl => ?_)
  refine lv_aload_n C.1 C.2.1 dL_law_627 rfl (lv_at hl 4 rfl) ?_
  refine law_arg C hX hbl hbA hw.2.1 (k := 1) (off := 1) (by omega) hL (lv_at hl 6 rfl) (lv_at hl 1 rfl) dL_law_628 dL_law_629 dL_law_631 (by decide) dL_law_632 dL_law_633 ?_
  refine law_arg C hX hbl hbA hw.2.1 (k := 2) (off := 2) (by omega) hL (lv_at hl 6 rfl) (lv_at hl 1 rfl) dL_law_634 dL_law_635 dL_law_637 (by decide) dL_law_638 dL_law_639 ?_
  refine law_arg C hX hbl hbA hw.2.1 (k := 3) (off := 3) (by omega) hL (lv_at hl 6 rfl) (lv_at hl 1 rfl) dL_law_640 dL_law_641 dL_law_643 (by decide) dL_law_644 dL_law_645 ?_
  refine law_arg C hX hbl hbA hw.2.1 (k := 4) (off := 4) (by omega) hL (lv_at hl 6 rfl) (lv_at hl 1 rfl) dL_law_646 dL_law_647 dL_law_649 (by decide) dL_law_650 dL_law_651 ?_
  refine r_vi C (hw.perm (pw_M _ _ _ _ _ _ _ _ _ _ _ _ _)) (k12_placeSellFor hF (U := U) (mo := mo) h.okf h.pm h.dp (xs (i + 1)) (xs (i + 2)) (xs (i + 3)) (xs (i + 4))) ml_L_183 yf_X12_placeSellFor 0 rfl rfl (As := [.int (xs (i + 1)), .int (xs (i + 2)), .int (xs (i + 3)), .int (xs (i + 4))]) rfl rfl ⟨Nat.le_of_ble_eq_true rfl, Nat.le_of_ble_eq_true rfl⟩ (by show cells + 1 + 0 ≤ 603072 ∧ slots + 6 + 0 ≤ 7198826; omega) hl.1 (Nat.le_of_ble_eq_true rfl) dL_law_652 (fun r3 _ H locs hp3 hw => ?_)
  exact law_tail C hw (k := r9) e1 (fun e => (e2 e).trans (by rw [hp3])) hl ⟨by omega, by omega⟩ dL_law_655 dL_law_657 dL_law_658 dL_law_661 dL_law_663 dL_law_668 dL_law_670 dL_law_673 dL_law_674 dL_law_675 dL_law_676 dL_law_678 dL_law_679 dL_law_680 dL_law_685 (by decide) (fun ls H locs hl hw => W.widen (by omega) (by omega) (kk D' _ f' f2 ls H locs hs (hw.perm (pw_M _ _ _ _ _ _ _ _ _ _ _ _ _).symm) hl))
set_option maxHeartbeats 4000000 in
set_option maxRecDepth 100000 in
theorem lc_takeBuy (C : Cx l G RL cL_law 9 ret p s m meth c #[Value.ref b]) (hX : va_X b L xs s s.heap) (hbl : b < s.heap.size) (hbA : ¬ gA G b) {c9 d : Int} {D : CD} {U : MV_} (h : Sm c9 D U) (hd : c9 + 60 ≤ d) (hd4 : d ≤ 40000) {i : Nat} (hi : i + 4 < L) (hL : L ≤ 2560) {K : Nat → Nat → Nat} {r : Nat → Nat → Nat} {mo : Nat → Nat} {o o2 : Nat} {f1 : Nat → Int64} {f2 : Nat → UInt64} (hw : WH G s (lC G o f1 :: (dC G o2 f2 :: cW G K r D (moW G mo U ++ []))) H locs) (hl : lv_has ls 9 (lvL b (K 7 0) (mo 0) o o2 i)) (hc : cells ≤ 400000 ∧ slots ≤ 4000000)
    (kk : ∀ (D' : CD) (U' : MV_) (f1' : Nat → Int64) (f2' : Nat → UInt64) (ls : Array Slot) (H : Heap) (locs : List Loc), Sm d D' U' → WH G s (lC G o f1' :: (dC G o2 f2' :: cW G K r D' (moW G mo U' ++ []))) H locs → lv_has ls 9 (lvL b (K 7 0) (mo 0) o o2 i) → W p l e room_1 s m #[Value.ref b] below meth c H locs (cells + 80) (slots + 600) Q (F0 m 2825 ls [])) : W p l e room_1 s m #[Value.ref b] below meth c H locs cells slots Q (F0 m 688 ls []) := by
  have hF := C.2.2.2.2.2.2.2.2
  refine lv_aload_n C.1 C.2.1 dL_law_688 rfl (lv_at hl 4 rfl) ?_
  refine law_arg C hX hbl hbA hw.2.1 (k := 1) (off := 1) (by omega) hL (lv_at hl 5 rfl) (lv_at hl 0 rfl) dL_law_689 dL_law_690 dL_law_692 (by decide) dL_law_693 dL_law_694 ?_
  refine law_arg C hX hbl hbA hw.2.1 (k := 2) (off := 2) (by omega) hL (lv_at hl 5 rfl) (lv_at hl 0 rfl) dL_law_695 dL_law_696 dL_law_698 (by decide) dL_law_699 dL_law_700 ?_
  refine law_arg C hX hbl hbA hw.2.1 (k := 3) (off := 3) (by omega) hL (lv_at hl 5 rfl) (lv_at hl 0 rfl) dL_law_701 dL_law_702 dL_law_704 (by decide) dL_law_705 dL_law_706 ?_
  refine lv_aload_n C.1 C.2.1 dL_law_707 rfl (lv_at hl 2 rfl) ?_
  have hfin := fin_takeBuy (U := U) h hd hd4 (xs (i + 1)) (xs (i + 2)) (xs (i + 3))
  refine r_hsi C hw (w_takeBuy hF (f := f1) (o := o) (wA := dC G o2 f2 :: cW G K r D (moW G mo U ++ [])) (WfA := fun u => dC G o2 f2 :: cW G K r (D.mod ((tkS D.S true (xs (i + 1)) (xs (i + 2)) (xs (i + 3))).1)) (moW G mo U ++ [])) (WxA := fun _ => dC G o2 f2 :: cW G K r (D) (moW G mo U ++ [])) (x11_takeBuy hF (K := K) (S := D.S) (r := r) (V := D.V) (nw := D.nw) (dp := D.dp) (F := D.F) (X := YB G K r D (lC G o f1) (dC G o2 f2) (moW G mo U ++ [])) h.ok h.nw h.dp h.pb (xs (i + 1)) (xs (i + 2)) (xs (i + 3))) (pw_B _ _ _ _ _ _ _ _ _ _ _ _) 19 rfl (fun u => (pw_B _ _ _ _ _ _ _ _ _ _ _ _).symm) (fun k1 hk => ⟨(hfin.2 k1 hk).1, (pw_B _ _ _ _ _ _ _ _ _ _ _ _).symm⟩)) ml_L_184 yf_L_takeBuy rfl rfl ⟨Nat.le_of_ble_eq_true rfl, Nat.le_of_ble_eq_true rfl⟩ (by show cells + 1 ≤ 603072 ∧ slots + 6 ≤ 7198826; omega) hl.1 (Nat.le_of_ble_eq_true rfl) dL_law_708 (fun r9 u9 H locs hp hw => ?_)
  obtain ⟨D', f', hw, e1, hs, e2⟩ : ∃ (D' : CD) (f' : Nat → Int64), WH G s (lC G o f' :: (dC G o2 f2 :: cW G K r D' (moW G mo U ++ []))) H locs ∧ r9 = ((endU (opM (kpU U) (xs (i + 1)) true (xs (i + 2)) (xs (i + 3)) (-1)).1 D.dp, endA (opM (kpU U) (xs (i + 1)) true (xs (i + 2)) (xs (i + 3)) (-1)).1 (opM (kpU U) (xs (i + 1)) true (xs (i + 2)) (xs (i + 3)) (-1)).2)).1.1 2 ∧ Sm d D' ((endU (opM (kpU U) (xs (i + 1)) true (xs (i + 2)) (xs (i + 3)) (-1)).1 D.dp, endA (opM (kpU U) (xs (i + 1)) true (xs (i + 2)) (xs (i + 3)) (-1)).1 (opM (kpU U) (xs (i + 1)) true (xs (i + 2)) (xs (i + 3)) (-1)).2)).1 ∧ (r9 = 0 → f' 0 = ((endU (opM (kpU U) (xs (i + 1)) true (xs (i + 2)) (xs (i + 3)) (-1)).1 D.dp, endA (opM (kpU U) (xs (i + 1)) true (xs (i + 2)) (xs (i + 3)) (-1)).1 (opM (kpU U) (xs (i + 1)) true (xs (i + 2)) (xs (i + 3)) (-1)).2)).2.toInt64) := by
    rcases u9 with ⟨r1, u1⟩ | k1
    · obtain ⟨e, hp⟩ := hp
      obtain ⟨t1, t2, t3⟩ := hfin.1 r1 u1 hp
      exact ⟨_, _, hw, e.trans t1.symm, t3, fun _ => by rw [t2]; rfl⟩
    · obtain ⟨e, hp⟩ := hp
      obtain ⟨t0, t2, t3⟩ := hfin.2 k1 hp
      refine ⟨_, _, hw, e.trans t2, t3, fun e0 => ?_⟩
      exfalso
      rw [e] at e0
      rcases t0 with t0 | t0 | t0 | t0 <;> subst t0 <;> exact absurd e0 (by decide)
  refine lv_istore (lv' := (6, .int r9) :: lvL b (K 7 0) (mo 0) o o2 i) C.1 C.2.1 dL_law_711 hl (by decide) rfl (fun ls hl => ?_)
  refine lv_aload_n C.1 C.2.1 dL_law_713 rfl (lv_at hl 4 rfl) ?_
  refine law_arg C hX hbl hbA hw.2.1 (k := 1) (off := 1) (by omega) hL (lv_at hl 6 rfl) (lv_at hl 1 rfl) dL_law_714 dL_law_715 dL_law_717 (by decide) dL_law_718 dL_law_719 ?_
  refine law_arg C hX hbl hbA hw.2.1 (k := 2) (off := 2) (by omega) hL (lv_at hl 6 rfl) (lv_at hl 1 rfl) dL_law_720 dL_law_721 dL_law_723 (by decide) dL_law_724 dL_law_725 ?_
  refine law_arg C hX hbl hbA hw.2.1 (k := 3) (off := 3) (by omega) hL (lv_at hl 6 rfl) (lv_at hl 1 rfl) dL_law_726 dL_law_727 dL_law_729 (by decide) dL_law_730 dL_law_731 ?_
  refine r_vi C (hw.perm (pw_M _ _ _ _ _ _ _ _ _ _ _ _ _)) (k12_takeBuy hF (U := U) (mo := mo) h.okf h.pm h.dp (xs (i + 1)) (xs (i + 2)) (xs (i + 3))) ml_L_186 yf_X12_takeBuy 0 rfl rfl (As := [.int (xs (i + 1)), .int (xs (i + 2)), .int (xs (i + 3))]) rfl rfl ⟨Nat.le_of_ble_eq_true rfl, Nat.le_of_ble_eq_true rfl⟩ (by show cells + 1 + 0 ≤ 603072 ∧ slots + 6 + 0 ≤ 7198826; omega) hl.1 (Nat.le_of_ble_eq_true rfl) dL_law_732 (fun r3 _ H locs hp3 hw => ?_)
  exact law_tail C hw (k := r9) e1 (fun e => (e2 e).trans (by rw [hp3])) hl ⟨by omega, by omega⟩ dL_law_735 dL_law_737 dL_law_738 dL_law_741 dL_law_743 dL_law_748 dL_law_750 dL_law_753 dL_law_754 dL_law_755 dL_law_756 dL_law_758 dL_law_759 dL_law_760 dL_law_765 (by decide) (fun ls H locs hl hw => W.widen (by omega) (by omega) (kk D' _ f' f2 ls H locs hs (hw.perm (pw_M _ _ _ _ _ _ _ _ _ _ _ _ _).symm) hl))
set_option maxHeartbeats 4000000 in
set_option maxRecDepth 100000 in
theorem lc_takeSell (C : Cx l G RL cL_law 9 ret p s m meth c #[Value.ref b]) (hX : va_X b L xs s s.heap) (hbl : b < s.heap.size) (hbA : ¬ gA G b) {c9 d : Int} {D : CD} {U : MV_} (h : Sm c9 D U) (hd : c9 + 60 ≤ d) (hd4 : d ≤ 40000) {i : Nat} (hi : i + 4 < L) (hL : L ≤ 2560) {K : Nat → Nat → Nat} {r : Nat → Nat → Nat} {mo : Nat → Nat} {o o2 : Nat} {f1 : Nat → Int64} {f2 : Nat → UInt64} (hw : WH G s (lC G o f1 :: (dC G o2 f2 :: cW G K r D (moW G mo U ++ []))) H locs) (hl : lv_has ls 9 (lvL b (K 7 0) (mo 0) o o2 i)) (hc : cells ≤ 400000 ∧ slots ≤ 4000000)
    (kk : ∀ (D' : CD) (U' : MV_) (f1' : Nat → Int64) (f2' : Nat → UInt64) (ls : Array Slot) (H : Heap) (locs : List Loc), Sm d D' U' → WH G s (lC G o f1' :: (dC G o2 f2' :: cW G K r D' (moW G mo U' ++ []))) H locs → lv_has ls 9 (lvL b (K 7 0) (mo 0) o o2 i) → W p l e room_1 s m #[Value.ref b] below meth c H locs (cells + 80) (slots + 600) Q (F0 m 2825 ls [])) : W p l e room_1 s m #[Value.ref b] below meth c H locs cells slots Q (F0 m 768 ls []) := by
  have hF := C.2.2.2.2.2.2.2.2
  refine lv_aload_n C.1 C.2.1 dL_law_768 rfl (lv_at hl 4 rfl) ?_
  refine law_arg C hX hbl hbA hw.2.1 (k := 1) (off := 1) (by omega) hL (lv_at hl 5 rfl) (lv_at hl 0 rfl) dL_law_769 dL_law_770 dL_law_772 (by decide) dL_law_773 dL_law_774 ?_
  refine law_arg C hX hbl hbA hw.2.1 (k := 2) (off := 2) (by omega) hL (lv_at hl 5 rfl) (lv_at hl 0 rfl) dL_law_775 dL_law_776 dL_law_778 (by decide) dL_law_779 dL_law_780 ?_
  refine law_arg C hX hbl hbA hw.2.1 (k := 3) (off := 3) (by omega) hL (lv_at hl 5 rfl) (lv_at hl 0 rfl) dL_law_781 dL_law_782 dL_law_784 (by decide) dL_law_785 dL_law_786 ?_
  refine lv_aload_n C.1 C.2.1 dL_law_787 rfl (lv_at hl 2 rfl) ?_
  have hfin := fin_takeSell (U := U) h hd hd4 (xs (i + 1)) (xs (i + 2)) (xs (i + 3))
  refine r_hsi C hw (w_takeSell hF (f := f1) (o := o) (wA := dC G o2 f2 :: cW G K r D (moW G mo U ++ [])) (WfA := fun u => dC G o2 f2 :: cW G K r (D.mod ((tkS D.S false (xs (i + 1)) (xs (i + 2)) (xs (i + 3))).1)) (moW G mo U ++ [])) (WxA := fun _ => dC G o2 f2 :: cW G K r (D) (moW G mo U ++ [])) (x11_takeSell hF (K := K) (S := D.S) (r := r) (V := D.V) (nw := D.nw) (dp := D.dp) (F := D.F) (X := YB G K r D (lC G o f1) (dC G o2 f2) (moW G mo U ++ [])) h.ok h.nw h.dp h.pb (xs (i + 1)) (xs (i + 2)) (xs (i + 3))) (pw_B _ _ _ _ _ _ _ _ _ _ _ _) 19 rfl (fun u => (pw_B _ _ _ _ _ _ _ _ _ _ _ _).symm) (fun k1 hk => ⟨(hfin.2 k1 hk).1, (pw_B _ _ _ _ _ _ _ _ _ _ _ _).symm⟩)) ml_L_187 yf_L_takeSell rfl rfl ⟨Nat.le_of_ble_eq_true rfl, Nat.le_of_ble_eq_true rfl⟩ (by show cells + 1 ≤ 603072 ∧ slots + 6 ≤ 7198826; omega) hl.1 (Nat.le_of_ble_eq_true rfl) dL_law_788 (fun r9 u9 H locs hp hw => ?_)
  obtain ⟨D', f', hw, e1, hs, e2⟩ : ∃ (D' : CD) (f' : Nat → Int64), WH G s (lC G o f' :: (dC G o2 f2 :: cW G K r D' (moW G mo U ++ []))) H locs ∧ r9 = ((endU (opM (kpU U) (xs (i + 1)) false (xs (i + 2)) (xs (i + 3)) (-1)).1 D.dp, endA (opM (kpU U) (xs (i + 1)) false (xs (i + 2)) (xs (i + 3)) (-1)).1 (opM (kpU U) (xs (i + 1)) false (xs (i + 2)) (xs (i + 3)) (-1)).2)).1.1 2 ∧ Sm d D' ((endU (opM (kpU U) (xs (i + 1)) false (xs (i + 2)) (xs (i + 3)) (-1)).1 D.dp, endA (opM (kpU U) (xs (i + 1)) false (xs (i + 2)) (xs (i + 3)) (-1)).1 (opM (kpU U) (xs (i + 1)) false (xs (i + 2)) (xs (i + 3)) (-1)).2)).1 ∧ (r9 = 0 → f' 0 = ((endU (opM (kpU U) (xs (i + 1)) false (xs (i + 2)) (xs (i + 3)) (-1)).1 D.dp, endA (opM (kpU U) (xs (i + 1)) false (xs (i + 2)) (xs (i + 3)) (-1)).1 (opM (kpU U) (xs (i + 1)) false (xs (i + 2)) (xs (i + 3)) (-1)).2)).2.toInt64) := by
    rcases u9 with ⟨r1, u1⟩ | k1
    · obtain ⟨e, hp⟩ := hp
      obtain ⟨t1, t2, t3⟩ := hfin.1 r1 u1 hp
      exact ⟨_, _, hw, e.trans t1.symm, t3, fun _ => by rw [t2]; rfl⟩
    · obtain ⟨e, hp⟩ := hp
      obtain ⟨t0, t2, t3⟩ := hfin.2 k1 hp
      refine ⟨_, _, hw, e.trans t2, t3, fun e0 => ?_⟩
      exfalso
      rw [e] at e0
      rcases t0 with t0 | t0 | t0 | t0 <;> subst t0 <;> exact absurd e0 (by decide)
  refine lv_istore (lv' := (6, .int r9) :: lvL b (K 7 0) (mo 0) o o2 i) C.1 C.2.1 dL_law_791 hl (by decide) rfl (fun ls hl => ?_)
  refine lv_aload_n C.1 C.2.1 dL_law_793 rfl (lv_at hl 4 rfl) ?_
  refine law_arg C hX hbl hbA hw.2.1 (k := 1) (off := 1) (by omega) hL (lv_at hl 6 rfl) (lv_at hl 1 rfl) dL_law_794 dL_law_795 dL_law_797 (by decide) dL_law_798 dL_law_799 ?_
  refine law_arg C hX hbl hbA hw.2.1 (k := 2) (off := 2) (by omega) hL (lv_at hl 6 rfl) (lv_at hl 1 rfl) dL_law_800 dL_law_801 dL_law_803 (by decide) dL_law_804 dL_law_805 ?_
  refine law_arg C hX hbl hbA hw.2.1 (k := 3) (off := 3) (by omega) hL (lv_at hl 6 rfl) (lv_at hl 1 rfl) dL_law_806 dL_law_807 dL_law_809 (by decide) dL_law_810 dL_law_811 ?_
  refine r_vi C (hw.perm (pw_M _ _ _ _ _ _ _ _ _ _ _ _ _)) (k12_takeSell hF (U := U) (mo := mo) h.okf h.pm h.dp (xs (i + 1)) (xs (i + 2)) (xs (i + 3))) ml_L_189 yf_X12_takeSell 0 rfl rfl (As := [.int (xs (i + 1)), .int (xs (i + 2)), .int (xs (i + 3))]) rfl rfl ⟨Nat.le_of_ble_eq_true rfl, Nat.le_of_ble_eq_true rfl⟩ (by show cells + 1 + 0 ≤ 603072 ∧ slots + 6 + 0 ≤ 7198826; omega) hl.1 (Nat.le_of_ble_eq_true rfl) dL_law_812 (fun r3 _ H locs hp3 hw => ?_)
  exact law_tail C hw (k := r9) e1 (fun e => (e2 e).trans (by rw [hp3])) hl ⟨by omega, by omega⟩ dL_law_815 dL_law_817 dL_law_818 dL_law_821 dL_law_823 dL_law_828 dL_law_830 dL_law_833 dL_law_834 dL_law_835 dL_law_836 dL_law_838 dL_law_839 dL_law_840 dL_law_845 (by decide) (fun ls H locs hl hw => W.widen (by omega) (by omega) (kk D' _ f' f2 ls H locs hs (hw.perm (pw_M _ _ _ _ _ _ _ _ _ _ _ _ _).symm) hl))
set_option maxHeartbeats 4000000 in
set_option maxRecDepth 100000 in
theorem lc_cancel (C : Cx l G RL cL_law 9 ret p s m meth c #[Value.ref b]) (hX : va_X b L xs s s.heap) (hbl : b < s.heap.size) (hbA : ¬ gA G b) {c9 d : Int} {D : CD} {U : MV_} (h : Sm c9 D U) (hd : c9 + 60 ≤ d) (hd4 : d ≤ 40000) {i : Nat} (hi : i + 4 < L) (hL : L ≤ 2560) {K : Nat → Nat → Nat} {r : Nat → Nat → Nat} {mo : Nat → Nat} {o o2 : Nat} {f1 : Nat → Int64} {f2 : Nat → UInt64} (hw : WH G s (lC G o f1 :: (dC G o2 f2 :: cW G K r D (moW G mo U ++ []))) H locs) (hl : lv_has ls 9 (lvL b (K 7 0) (mo 0) o o2 i)) (hc : cells ≤ 400000 ∧ slots ≤ 4000000)
    (kk : ∀ (D' : CD) (U' : MV_) (f1' : Nat → Int64) (f2' : Nat → UInt64) (ls : Array Slot) (H : Heap) (locs : List Loc), Sm d D' U' → WH G s (lC G o f1' :: (dC G o2 f2' :: cW G K r D' (moW G mo U' ++ []))) H locs → lv_has ls 9 (lvL b (K 7 0) (mo 0) o o2 i) → W p l e room_1 s m #[Value.ref b] below meth c H locs (cells + 80) (slots + 600) Q (F0 m 2825 ls [])) : W p l e room_1 s m #[Value.ref b] below meth c H locs cells slots Q (F0 m 848 ls []) := by
  have hF := C.2.2.2.2.2.2.2.2
  refine lv_aload_n C.1 C.2.1 dL_law_848 rfl (lv_at hl 4 rfl) ?_
  refine law_arg C hX hbl hbA hw.2.1 (k := 1) (off := 1) (by omega) hL (lv_at hl 5 rfl) (lv_at hl 0 rfl) dL_law_849 dL_law_850 dL_law_852 (by decide) dL_law_853 dL_law_854 ?_
  refine lv_aload_n C.1 C.2.1 dL_law_855 rfl (lv_at hl 2 rfl) ?_
  have hfin := fin_cancel (U := U) h hd hd4 (xs (i + 1))
  refine r_hsi C hw (w_cancel hF (f := f1) (o := o) (wA := dC G o2 f2 :: cW G K r D (moW G mo U ++ [])) (WfA := fun u => dC G o2 f2 :: cW G K r (D.mod (rmS D.S (nO D.S) u)) (moW G mo U ++ [])) (WxA := fun _ => dC G o2 f2 :: cW G K r (D) (moW G mo U ++ [])) (x11_cancel hF (K := K) (S := D.S) (r := r) (V := D.V) (nw := D.nw) (dp := D.dp) (F := D.F) (X := YB G K r D (lC G o f1) (dC G o2 f2) (moW G mo U ++ [])) h.ok h.nw h.dp h.b2 (xs (i + 1))) (pw_B _ _ _ _ _ _ _ _ _ _ _ _) 19 rfl (fun u => (pw_B _ _ _ _ _ _ _ _ _ _ _ _).symm) (fun k1 hk => ⟨(hfin.2 k1 hk).1, (pw_B _ _ _ _ _ _ _ _ _ _ _ _).symm⟩)) ml_L_190 yf_L_cancel rfl rfl ⟨Nat.le_of_ble_eq_true rfl, Nat.le_of_ble_eq_true rfl⟩ (by show cells + 1 ≤ 603072 ∧ slots + 6 ≤ 7198826; omega) hl.1 (Nat.le_of_ble_eq_true rfl) dL_law_856 (fun r9 u9 H locs hp hw => ?_)
  obtain ⟨D', f', hw, e1, hs, e2⟩ : ∃ (D' : CD) (f' : Nat → Int64), WH G s (lC G o f' :: (dC G o2 f2 :: cW G K r D' (moW G mo U ++ []))) H locs ∧ r9 = ((endU (caM (kpU U) (xs (i + 1))).1 D.dp, endA (caM (kpU U) (xs (i + 1))).1 (caM (kpU U) (xs (i + 1))).2)).1.1 2 ∧ Sm d D' ((endU (caM (kpU U) (xs (i + 1))).1 D.dp, endA (caM (kpU U) (xs (i + 1))).1 (caM (kpU U) (xs (i + 1))).2)).1 ∧ (r9 = 0 → f' 0 = ((endU (caM (kpU U) (xs (i + 1))).1 D.dp, endA (caM (kpU U) (xs (i + 1))).1 (caM (kpU U) (xs (i + 1))).2)).2.toInt64) := by
    rcases u9 with ⟨r1, u1⟩ | k1
    · obtain ⟨e, hp⟩ := hp
      obtain ⟨t1, t2, t3⟩ := hfin.1 r1 u1 hp
      exact ⟨_, _, hw, e.trans t1.symm, t3, fun _ => by rw [t2]; rfl⟩
    · obtain ⟨e, hp⟩ := hp
      obtain ⟨t0, t2, t3⟩ := hfin.2 k1 hp
      refine ⟨_, _, hw, e.trans t2, t3, fun e0 => ?_⟩
      exfalso
      rw [e] at e0
      rcases t0 with t0 <;> subst t0 <;> exact absurd e0 (by decide)
  refine lv_istore (lv' := (6, .int r9) :: lvL b (K 7 0) (mo 0) o o2 i) C.1 C.2.1 dL_law_859 hl (by decide) rfl (fun ls hl => ?_)
  refine lv_aload_n C.1 C.2.1 dL_law_861 rfl (lv_at hl 4 rfl) ?_
  refine law_arg C hX hbl hbA hw.2.1 (k := 1) (off := 1) (by omega) hL (lv_at hl 6 rfl) (lv_at hl 1 rfl) dL_law_862 dL_law_863 dL_law_865 (by decide) dL_law_866 dL_law_867 ?_
  refine r_vi C (hw.perm (pw_M _ _ _ _ _ _ _ _ _ _ _ _ _)) (k12_cancel hF (U := U) (mo := mo) h.okf h.pm h.dp (xs (i + 1))) ml_L_193 yf_X12_cancel 0 rfl rfl (As := [.int (xs (i + 1))]) rfl rfl ⟨Nat.le_of_ble_eq_true rfl, Nat.le_of_ble_eq_true rfl⟩ (by show cells + 1 + 0 ≤ 603072 ∧ slots + 6 + 0 ≤ 7198826; omega) hl.1 (Nat.le_of_ble_eq_true rfl) dL_law_868 (fun r3 _ H locs hp3 hw => ?_)
  exact law_tail C hw (k := r9) e1 (fun e => (e2 e).trans (by rw [hp3])) hl ⟨by omega, by omega⟩ dL_law_871 dL_law_873 dL_law_874 dL_law_877 dL_law_879 dL_law_884 dL_law_886 dL_law_889 dL_law_890 dL_law_891 dL_law_892 dL_law_894 dL_law_895 dL_law_896 dL_law_901 (by decide) (fun ls H locs hl hw => W.widen (by omega) (by omega) (kk D' _ f' f2 ls H locs hs (hw.perm (pw_M _ _ _ _ _ _ _ _ _ _ _ _ _).symm) hl))
set_option maxHeartbeats 4000000 in
set_option maxRecDepth 100000 in
theorem lc_pass (C : Cx l G RL cL_law 9 ret p s m meth c #[Value.ref b]) (hX : va_X b L xs s s.heap) (hbl : b < s.heap.size) (hbA : ¬ gA G b) {c9 d : Int} {D : CD} {U : MV_} (h : Sm c9 D U) (hd : c9 + 60 ≤ d) (hd4 : d ≤ 40000) {i : Nat} (hi : i + 4 < L) (hL : L ≤ 2560) {K : Nat → Nat → Nat} {r : Nat → Nat → Nat} {mo : Nat → Nat} {o o2 : Nat} {f1 : Nat → Int64} {f2 : Nat → UInt64} (hw : WH G s (lC G o f1 :: (dC G o2 f2 :: cW G K r D (moW G mo U ++ []))) H locs) (hl : lv_has ls 9 (lvL b (K 7 0) (mo 0) o o2 i)) (hc : cells ≤ 400000 ∧ slots ≤ 4000000)
    (kk : ∀ (D' : CD) (U' : MV_) (f1' : Nat → Int64) (f2' : Nat → UInt64) (ls : Array Slot) (H : Heap) (locs : List Loc), Sm d D' U' → WH G s (lC G o f1' :: (dC G o2 f2' :: cW G K r D' (moW G mo U' ++ []))) H locs → lv_has ls 9 (lvL b (K 7 0) (mo 0) o o2 i) → W p l e room_1 s m #[Value.ref b] below meth c H locs (cells + 80) (slots + 600) Q (F0 m 2825 ls [])) : W p l e room_1 s m #[Value.ref b] below meth c H locs cells slots Q (F0 m 904 ls []) := by
  have hF := C.2.2.2.2.2.2.2.2
  refine lv_aload_n C.1 C.2.1 dL_law_904 rfl (lv_at hl 4 rfl) ?_
  refine law_arg C hX hbl hbA hw.2.1 (k := 1) (off := 1) (by omega) hL (lv_at hl 5 rfl) (lv_at hl 0 rfl) dL_law_905 dL_law_906 dL_law_908 (by decide) dL_law_909 dL_law_910 ?_
  refine lv_aload_n C.1 C.2.1 dL_law_911 rfl (lv_at hl 2 rfl) ?_
  have hfin := fin_pass (U := U) h hd hd4 (xs (i + 1))
  refine r_hsi C hw (w_pass hF (f := f1) (o := o) (wA := dC G o2 f2 :: cW G K r D (moW G mo U ++ [])) (WfA := fun u => dC G o2 f2 :: cW G K r (D.mod ((lpS D.S (xs (i + 1))).1)) (moW G mo U ++ [])) (WxA := fun _ => dC G o2 f2 :: cW G K r (D) (moW G mo U ++ [])) (x11_pass hF (K := K) (S := D.S) (r := r) (V := D.V) (nw := D.nw) (dp := D.dp) (F := D.F) (X := YB G K r D (lC G o f1) (dC G o2 f2) (moW G mo U ++ [])) h.ok h.nw h.dp h.b2 (xs (i + 1))) (pw_B _ _ _ _ _ _ _ _ _ _ _ _) 19 rfl (fun u => (pw_B _ _ _ _ _ _ _ _ _ _ _ _).symm) (fun k1 hk => ⟨(hfin.2 k1 hk).1, (pw_B _ _ _ _ _ _ _ _ _ _ _ _).symm⟩)) ml_L_194 yf_L_pass rfl rfl ⟨Nat.le_of_ble_eq_true rfl, Nat.le_of_ble_eq_true rfl⟩ (by show cells + 1 ≤ 603072 ∧ slots + 6 ≤ 7198826; omega) hl.1 (Nat.le_of_ble_eq_true rfl) dL_law_912 (fun r9 u9 H locs hp hw => ?_)
  obtain ⟨D', f', hw, e1, hs, e2⟩ : ∃ (D' : CD) (f' : Nat → Int64), WH G s (lC G o f' :: (dC G o2 f2 :: cW G K r D' (moW G mo U ++ []))) H locs ∧ r9 = ((endU (psM (kpU U) (xs (i + 1))).1 D.dp, endA (psM (kpU U) (xs (i + 1))).1 (psM (kpU U) (xs (i + 1))).2)).1.1 2 ∧ Sm d D' ((endU (psM (kpU U) (xs (i + 1))).1 D.dp, endA (psM (kpU U) (xs (i + 1))).1 (psM (kpU U) (xs (i + 1))).2)).1 ∧ (r9 = 0 → f' 0 = ((endU (psM (kpU U) (xs (i + 1))).1 D.dp, endA (psM (kpU U) (xs (i + 1))).1 (psM (kpU U) (xs (i + 1))).2)).2.toInt64) := by
    rcases u9 with ⟨r1, u1⟩ | k1
    · obtain ⟨e, hp⟩ := hp
      obtain ⟨t1, t2, t3⟩ := hfin.1 r1 u1 hp
      exact ⟨_, _, hw, e.trans t1.symm, t3, fun _ => by rw [t2]; rfl⟩
    · obtain ⟨e, hp⟩ := hp
      obtain ⟨t0, t2, t3⟩ := hfin.2 k1 hp
      refine ⟨_, _, hw, e.trans t2, t3, fun e0 => ?_⟩
      exfalso
      rw [e] at e0
      rcases t0 with t0 <;> subst t0 <;> exact absurd e0 (by decide)
  refine lv_istore (lv' := (6, .int r9) :: lvL b (K 7 0) (mo 0) o o2 i) C.1 C.2.1 dL_law_915 hl (by decide) rfl (fun ls hl => ?_)
  refine lv_aload_n C.1 C.2.1 dL_law_917 rfl (lv_at hl 4 rfl) ?_
  refine law_arg C hX hbl hbA hw.2.1 (k := 1) (off := 1) (by omega) hL (lv_at hl 6 rfl) (lv_at hl 1 rfl) dL_law_918 dL_law_919 dL_law_921 (by decide) dL_law_922 dL_law_923 ?_
  refine r_vi C (hw.perm (pw_M _ _ _ _ _ _ _ _ _ _ _ _ _)) (k12_pass hF (U := U) (mo := mo) h.okf h.pm h.dp (xs (i + 1))) ml_L_196 yf_X12_pass 0 rfl rfl (As := [.int (xs (i + 1))]) rfl rfl ⟨Nat.le_of_ble_eq_true rfl, Nat.le_of_ble_eq_true rfl⟩ (by show cells + 1 + 0 ≤ 603072 ∧ slots + 6 + 0 ≤ 7198826; omega) hl.1 (Nat.le_of_ble_eq_true rfl) dL_law_924 (fun r3 _ H locs hp3 hw => ?_)
  exact law_tail C hw (k := r9) e1 (fun e => (e2 e).trans (by rw [hp3])) hl ⟨by omega, by omega⟩ dL_law_927 dL_law_929 dL_law_930 dL_law_933 dL_law_935 dL_law_940 dL_law_942 dL_law_945 dL_law_946 dL_law_947 dL_law_948 dL_law_950 dL_law_951 dL_law_952 dL_law_957 (by decide) (fun ls H locs hl hw => W.widen (by omega) (by omega) (kk D' _ f' f2 ls H locs hs (hw.perm (pw_M _ _ _ _ _ _ _ _ _ _ _ _ _).symm) hl))
set_option maxHeartbeats 4000000 in
set_option maxRecDepth 100000 in
theorem lc_openPool (C : Cx l G RL cL_law 9 ret p s m meth c #[Value.ref b]) (hX : va_X b L xs s s.heap) (hbl : b < s.heap.size) (hbA : ¬ gA G b) {c9 d : Int} {D : CD} {U : MV_} (h : Sm c9 D U) (hd : c9 + 60 ≤ d) (hd4 : d ≤ 40000) {i : Nat} (hi : i + 4 < L) (hL : L ≤ 2560) {K : Nat → Nat → Nat} {r : Nat → Nat → Nat} {mo : Nat → Nat} {o o2 : Nat} {f1 : Nat → Int64} {f2 : Nat → UInt64} (hw : WH G s (lC G o f1 :: (dC G o2 f2 :: cW G K r D (moW G mo U ++ []))) H locs) (hl : lv_has ls 9 (lvL b (K 7 0) (mo 0) o o2 i)) (hc : cells ≤ 400000 ∧ slots ≤ 4000000)
    (kk : ∀ (D' : CD) (U' : MV_) (f1' : Nat → Int64) (f2' : Nat → UInt64) (ls : Array Slot) (H : Heap) (locs : List Loc), Sm d D' U' → WH G s (lC G o f1' :: (dC G o2 f2' :: cW G K r D' (moW G mo U' ++ []))) H locs → lv_has ls 9 (lvL b (K 7 0) (mo 0) o o2 i) → W p l e room_1 s m #[Value.ref b] below meth c H locs (cells + 80) (slots + 600) Q (F0 m 2825 ls [])) : W p l e room_1 s m #[Value.ref b] below meth c H locs cells slots Q (F0 m 960 ls []) := by
  have hF := C.2.2.2.2.2.2.2.2
  refine lv_aload_n C.1 C.2.1 dL_law_960 rfl (lv_at hl 4 rfl) ?_
  refine lv_aload_n C.1 C.2.1 dL_law_961 rfl (lv_at hl 2 rfl) ?_
  have hfin := fin_openPool (U := U) h hd hd4 
  refine r_hsi C hw (w_openPool hF (f := f1) (o := o) (wA := dC G o2 f2 :: cW G K r D (moW G mo U ++ [])) (WfA := fun u => dC G o2 f2 :: cW G K r (D.mod (sI D.S 2 1)) (moW G mo U ++ [])) (WxA := fun _ => dC G o2 f2 :: cW G K r (D) (moW G mo U ++ [])) (x11_openPool hF (K := K) (S := D.S) (r := r) (V := D.V) (nw := D.nw) (dp := D.dp) (F := D.F) (X := YB G K r D (lC G o f1) (dC G o2 f2) (moW G mo U ++ [])) h.ok h.nw h.dp h.b2 ) (pw_B _ _ _ _ _ _ _ _ _ _ _ _) 19 rfl (fun u => (pw_B _ _ _ _ _ _ _ _ _ _ _ _).symm) (fun k1 hk => ⟨(hfin.2 k1 hk).1, (pw_B _ _ _ _ _ _ _ _ _ _ _ _).symm⟩)) ml_L_197 yf_L_openPool rfl rfl ⟨Nat.le_of_ble_eq_true rfl, Nat.le_of_ble_eq_true rfl⟩ (by show cells + 1 ≤ 603072 ∧ slots + 6 ≤ 7198826; omega) hl.1 (Nat.le_of_ble_eq_true rfl) dL_law_962 (fun r9 u9 H locs hp hw => ?_)
  obtain ⟨D', f', hw, e1, hs, e2⟩ : ∃ (D' : CD) (f' : Nat → Int64), WH G s (lC G o f' :: (dC G o2 f2 :: cW G K r D' (moW G mo U ++ []))) H locs ∧ r9 = ((endU (opnM (kpU U)).1 D.dp, endA (opnM (kpU U)).1 (opnM (kpU U)).2)).1.1 2 ∧ Sm d D' ((endU (opnM (kpU U)).1 D.dp, endA (opnM (kpU U)).1 (opnM (kpU U)).2)).1 ∧ (r9 = 0 → f' 0 = ((endU (opnM (kpU U)).1 D.dp, endA (opnM (kpU U)).1 (opnM (kpU U)).2)).2.toInt64) := by
    rcases u9 with ⟨r1, u1⟩ | k1
    · obtain ⟨e, hp⟩ := hp
      obtain ⟨t1, t2, t3⟩ := hfin.1 r1 u1 hp
      exact ⟨_, _, hw, e.trans t1.symm, t3, fun _ => by rw [t2]; rfl⟩
    · obtain ⟨e, hp⟩ := hp
      obtain ⟨t0, t2, t3⟩ := hfin.2 k1 hp
      refine ⟨_, _, hw, e.trans t2, t3, fun e0 => ?_⟩
      exfalso
      rw [e] at e0
      rcases t0 with t0 <;> subst t0 <;> exact absurd e0 (by decide)
  refine lv_istore (lv' := (6, .int r9) :: lvL b (K 7 0) (mo 0) o o2 i) C.1 C.2.1 dL_law_965 hl (by decide) rfl (fun ls hl => ?_)
  refine lv_aload_n C.1 C.2.1 dL_law_967 rfl (lv_at hl 4 rfl) ?_
  refine r_vi C (hw.perm (pw_M _ _ _ _ _ _ _ _ _ _ _ _ _)) (k12_openPool hF (U := U) (mo := mo) h.pm h.dp ) ml_L_200 yf_X12_openPool 0 rfl rfl (As := []) rfl rfl ⟨Nat.le_of_ble_eq_true rfl, Nat.le_of_ble_eq_true rfl⟩ (by show cells + 1 + 0 ≤ 603072 ∧ slots + 6 + 0 ≤ 7198826; omega) hl.1 (Nat.le_of_ble_eq_true rfl) dL_law_968 (fun r3 _ H locs hp3 hw => ?_)
  exact law_tail C hw (k := r9) e1 (fun e => (e2 e).trans (by rw [hp3])) hl ⟨by omega, by omega⟩ dL_law_971 dL_law_973 dL_law_974 dL_law_977 dL_law_979 dL_law_984 dL_law_986 dL_law_989 dL_law_990 dL_law_991 dL_law_992 dL_law_994 dL_law_995 dL_law_996 dL_law_1001 (by decide) (fun ls H locs hl hw => W.widen (by omega) (by omega) (kk D' _ f' f2 ls H locs hs (hw.perm (pw_M _ _ _ _ _ _ _ _ _ _ _ _ _).symm) hl))
set_option maxHeartbeats 4000000 in
set_option maxRecDepth 100000 in
theorem lc_closePool (C : Cx l G RL cL_law 9 ret p s m meth c #[Value.ref b]) (hX : va_X b L xs s s.heap) (hbl : b < s.heap.size) (hbA : ¬ gA G b) {c9 d : Int} {D : CD} {U : MV_} (h : Sm c9 D U) (hd : c9 + 60 ≤ d) (hd4 : d ≤ 40000) {i : Nat} (hi : i + 4 < L) (hL : L ≤ 2560) {K : Nat → Nat → Nat} {r : Nat → Nat → Nat} {mo : Nat → Nat} {o o2 : Nat} {f1 : Nat → Int64} {f2 : Nat → UInt64} (hw : WH G s (lC G o f1 :: (dC G o2 f2 :: cW G K r D (moW G mo U ++ []))) H locs) (hl : lv_has ls 9 (lvL b (K 7 0) (mo 0) o o2 i)) (hc : cells ≤ 400000 ∧ slots ≤ 4000000)
    (kk : ∀ (D' : CD) (U' : MV_) (f1' : Nat → Int64) (f2' : Nat → UInt64) (ls : Array Slot) (H : Heap) (locs : List Loc), Sm d D' U' → WH G s (lC G o f1' :: (dC G o2 f2' :: cW G K r D' (moW G mo U' ++ []))) H locs → lv_has ls 9 (lvL b (K 7 0) (mo 0) o o2 i) → W p l e room_1 s m #[Value.ref b] below meth c H locs (cells + 80) (slots + 600) Q (F0 m 2825 ls [])) : W p l e room_1 s m #[Value.ref b] below meth c H locs cells slots Q (F0 m 1004 ls []) := by
  have hF := C.2.2.2.2.2.2.2.2
  refine lv_aload_n C.1 C.2.1 dL_law_1004 rfl (lv_at hl 4 rfl) ?_
  refine lv_aload_n C.1 C.2.1 dL_law_1005 rfl (lv_at hl 2 rfl) ?_
  have hfin := fin_closePool (U := U) h hd hd4 
  refine r_hsi C hw (w_closePool hF (f := f1) (o := o) (wA := dC G o2 f2 :: cW G K r D (moW G mo U ++ [])) (WfA := fun u => dC G o2 f2 :: cW G K r (D.mod (epS D.S)) (moW G mo U ++ [])) (WxA := fun _ => dC G o2 f2 :: cW G K r (D) (moW G mo U ++ [])) (x11_closePool hF (K := K) (S := D.S) (r := r) (V := D.V) (nw := D.nw) (dp := D.dp) (F := D.F) (X := YB G K r D (lC G o f1) (dC G o2 f2) (moW G mo U ++ [])) h.ok h.nw h.dp h.b2 ) (pw_B _ _ _ _ _ _ _ _ _ _ _ _) 19 rfl (fun u => (pw_B _ _ _ _ _ _ _ _ _ _ _ _).symm) (fun k1 hk => ⟨(hfin.2 k1 hk).1, (pw_B _ _ _ _ _ _ _ _ _ _ _ _).symm⟩)) ml_L_201 yf_L_closePool rfl rfl ⟨Nat.le_of_ble_eq_true rfl, Nat.le_of_ble_eq_true rfl⟩ (by show cells + 2 ≤ 603072 ∧ slots + 9 ≤ 7198826; omega) hl.1 (Nat.le_of_ble_eq_true rfl) dL_law_1006 (fun r9 u9 H locs hp hw => ?_)
  obtain ⟨D', f', hw, e1, hs, e2⟩ : ∃ (D' : CD) (f' : Nat → Int64), WH G s (lC G o f' :: (dC G o2 f2 :: cW G K r D' (moW G mo U ++ []))) H locs ∧ r9 = ((endU (clM (kpU U)).1 D.dp, endA (clM (kpU U)).1 (clM (kpU U)).2)).1.1 2 ∧ Sm d D' ((endU (clM (kpU U)).1 D.dp, endA (clM (kpU U)).1 (clM (kpU U)).2)).1 ∧ (r9 = 0 → f' 0 = ((endU (clM (kpU U)).1 D.dp, endA (clM (kpU U)).1 (clM (kpU U)).2)).2.toInt64) := by
    rcases u9 with ⟨r1, u1⟩ | k1
    · obtain ⟨e, hp⟩ := hp
      obtain ⟨t1, t2, t3⟩ := hfin.1 r1 u1 hp
      exact ⟨_, _, hw, e.trans t1.symm, t3, fun _ => by rw [t2]; rfl⟩
    · obtain ⟨e, hp⟩ := hp
      obtain ⟨t0, t2, t3⟩ := hfin.2 k1 hp
      refine ⟨_, _, hw, e.trans t2, t3, fun e0 => ?_⟩
      exfalso
      rw [e] at e0
      rcases t0 with t0 <;> subst t0 <;> exact absurd e0 (by decide)
  refine lv_istore (lv' := (6, .int r9) :: lvL b (K 7 0) (mo 0) o o2 i) C.1 C.2.1 dL_law_1009 hl (by decide) rfl (fun ls hl => ?_)
  refine lv_aload_n C.1 C.2.1 dL_law_1011 rfl (lv_at hl 4 rfl) ?_
  refine r_vi C (hw.perm (pw_M _ _ _ _ _ _ _ _ _ _ _ _ _)) (k12_closePool hF (U := U) (mo := mo) h.okf (fun _ => (op_cl h.rl h.iz).2) h.pm h.dp ) ml_L_203 yf_X12_closePool 0 rfl rfl (As := []) rfl rfl ⟨Nat.le_of_ble_eq_true rfl, Nat.le_of_ble_eq_true rfl⟩ (by show cells + 2 + 0 ≤ 603072 ∧ slots + 9 + 0 ≤ 7198826; omega) hl.1 (Nat.le_of_ble_eq_true rfl) dL_law_1012 (fun r3 _ H locs hp3 hw => ?_)
  exact law_tail C hw (k := r9) e1 (fun e => (e2 e).trans (by rw [hp3])) hl ⟨by omega, by omega⟩ dL_law_1015 dL_law_1017 dL_law_1018 dL_law_1021 dL_law_1023 dL_law_1028 dL_law_1030 dL_law_1033 dL_law_1034 dL_law_1035 dL_law_1036 dL_law_1038 dL_law_1039 dL_law_1040 dL_law_1045 (by decide) (fun ls H locs hl hw => W.widen (by omega) (by omega) (kk D' _ f' f2 ls H locs hs (hw.perm (pw_M _ _ _ _ _ _ _ _ _ _ _ _ _).symm) hl))
end LAWC
/-! The law's cases, the second -/
section LAWC
variable {p : Program} {l : Launch} {e : Env} {s : State} {m : MethodId} {below : List Frame} {meth : Method} {c : Code} {H : Heap} {locs : List Loc} {cells slots : Nat} {Q : State → Prop}
variable {G : Gx} {ret : Option FieldType} {ls : Array Slot} {b L : Nat} {xs : Nat → Int32}
set_option maxHeartbeats 4000000 in
set_option maxRecDepth 100000 in
theorem lc_moneyOf (C : Cx l G RL cL_law 9 ret p s m meth c #[Value.ref b]) (hX : va_X b L xs s s.heap) (hbl : b < s.heap.size) (hbA : ¬ gA G b) {c9 d : Int} {D : CD} {U : MV_} (h : Sm c9 D U) (hd : c9 + 60 ≤ d) (hd4 : d ≤ 40000) {i : Nat} (hi : i + 4 < L) (hL : L ≤ 2560) {K : Nat → Nat → Nat} {r : Nat → Nat → Nat} {mo : Nat → Nat} {o o2 : Nat} {f1 : Nat → Int64} {f2 : Nat → UInt64} (hw : WH G s (lC G o f1 :: (dC G o2 f2 :: cW G K r D (moW G mo U ++ []))) H locs) (hl : lv_has ls 9 (lvL b (K 7 0) (mo 0) o o2 i)) (hc : cells ≤ 400000 ∧ slots ≤ 4000000)
    (kk : ∀ (D' : CD) (U' : MV_) (f1' : Nat → Int64) (f2' : Nat → UInt64) (ls : Array Slot) (H : Heap) (locs : List Loc), Sm d D' U' → WH G s (lC G o f1' :: (dC G o2 f2' :: cW G K r D' (moW G mo U' ++ []))) H locs → lv_has ls 9 (lvL b (K 7 0) (mo 0) o o2 i) → W p l e room_1 s m #[Value.ref b] below meth c H locs (cells + 80) (slots + 600) Q (F0 m 2825 ls [])) : W p l e room_1 s m #[Value.ref b] below meth c H locs cells slots Q (F0 m 1061 ls []) := by
  have hF := C.2.2.2.2.2.2.2.2
  refine lv_aload_n C.1 C.2.1 dL_law_1061 rfl (lv_at hl 4 rfl) ?_
  refine law_arg C hX hbl hbA hw.2.1 (k := 1) (off := 1) (by omega) hL (lv_at hl 5 rfl) (lv_at hl 0 rfl) dL_law_1062 dL_law_1063 dL_law_1065 (by decide) dL_law_1066 dL_law_1067 ?_
  refine lv_aload_n C.1 C.2.1 dL_law_1068 rfl (lv_at hl 2 rfl) ?_
  have hfin := fin_moneyOf (U := U) h hd hd4 (xs (i + 1))
  refine r_hsi C hw (w_moneyOf hF (f := f1) (o := o) (wA := dC G o2 f2 :: cW G K r D (moW G mo U ++ [])) (WfA := fun u => dC G o2 f2 :: cW G K r (D) (moW G mo U ++ [])) (WxA := fun _ => dC G o2 f2 :: cW G K r (D) (moW G mo U ++ [])) (x11_moneyOf hF (K := K) (S := D.S) (F := D.F) (X := YA G K r D (lC G o f1) (dC G o2 f2) (moW G mo U ++ [])) h.ok (xs (i + 1))) (pw_A _ _ _ _ _ _ _ _ _ _ _ _) 19 rfl (fun u => (pw_A _ _ _ _ _ _ _ _ _ _ _ _).symm) (fun k1 hk => ⟨(hfin.2 k1 hk).1, (pw_A _ _ _ _ _ _ _ _ _ _ _ _).symm⟩)) ml_L_208 yf_L_moneyOf rfl rfl ⟨Nat.le_of_ble_eq_true rfl, Nat.le_of_ble_eq_true rfl⟩ (by show cells + 1 ≤ 603072 ∧ slots + 6 ≤ 7198826; omega) hl.1 (Nat.le_of_ble_eq_true rfl) dL_law_1069 (fun r9 u9 H locs hp hw => ?_)
  obtain ⟨D', f', hw, e1, hs, e2⟩ : ∃ (D' : CD) (f' : Nat → Int64), WH G s (lC G o f' :: (dC G o2 f2 :: cW G K r D' (moW G mo U ++ []))) H locs ∧ r9 = ((mI U 2 (bI (!isF (U.2 0) (xs (i + 1)))), (if isF (U.2 0) (xs (i + 1)) = true then sF (U.2 0) (xs (i + 1)).toNatClampNeg 0 else 0))).1.1 2 ∧ Sm d D' ((mI U 2 (bI (!isF (U.2 0) (xs (i + 1)))), (if isF (U.2 0) (xs (i + 1)) = true then sF (U.2 0) (xs (i + 1)).toNatClampNeg 0 else 0))).1 ∧ (r9 = 0 → f' 0 = ((mI U 2 (bI (!isF (U.2 0) (xs (i + 1)))), (if isF (U.2 0) (xs (i + 1)) = true then sF (U.2 0) (xs (i + 1)).toNatClampNeg 0 else 0))).2.toInt64) := by
    rcases u9 with ⟨r1, u1⟩ | k1
    · obtain ⟨e, hp⟩ := hp
      obtain ⟨t1, t2, t3⟩ := hfin.1 r1 u1 hp
      exact ⟨_, _, hw, e.trans t1.symm, t3, fun _ => by rw [t2]; rfl⟩
    · obtain ⟨e, hp⟩ := hp
      obtain ⟨t0, t2, t3⟩ := hfin.2 k1 hp
      refine ⟨_, _, hw, e.trans t2, t3, fun e0 => ?_⟩
      exfalso
      rw [e] at e0
      rcases t0 with t0 <;> subst t0 <;> exact absurd e0 (by decide)
  refine lv_istore (lv' := (6, .int r9) :: lvL b (K 7 0) (mo 0) o o2 i) C.1 C.2.1 dL_law_1072 hl (by decide) rfl (fun ls hl => ?_)
  refine lv_aload_n C.1 C.2.1 dL_law_1074 rfl (lv_at hl 4 rfl) ?_
  refine law_arg C hX hbl hbA hw.2.1 (k := 1) (off := 1) (by omega) hL (lv_at hl 6 rfl) (lv_at hl 1 rfl) dL_law_1075 dL_law_1076 dL_law_1078 (by decide) dL_law_1079 dL_law_1080 ?_
  refine r_vi C (hw.perm (pw_M _ _ _ _ _ _ _ _ _ _ _ _ _)) (k12_moneyOf hF (U := U) (mo := mo) h.okf (xs (i + 1))) ml_L_210 yf_X12_moneyOf 0 rfl rfl (As := [.int (xs (i + 1))]) rfl rfl ⟨Nat.le_of_ble_eq_true rfl, Nat.le_of_ble_eq_true rfl⟩ (by show cells + 1 + 0 ≤ 603072 ∧ slots + 6 + 0 ≤ 7198826; omega) hl.1 (Nat.le_of_ble_eq_true rfl) dL_law_1081 (fun r3 _ H locs hp3 hw => ?_)
  exact law_tail C hw (k := r9) e1 (fun e => (e2 e).trans (by rw [hp3])) hl ⟨by omega, by omega⟩ dL_law_1084 dL_law_1086 dL_law_1087 dL_law_1090 dL_law_1092 dL_law_1097 dL_law_1099 dL_law_1102 dL_law_1103 dL_law_1104 dL_law_1105 dL_law_1107 dL_law_1108 dL_law_1109 dL_law_1114 (by decide) (fun ls H locs hl hw => W.widen (by omega) (by omega) (kk D' _ f' f2 ls H locs hs (hw.perm (pw_M _ _ _ _ _ _ _ _ _ _ _ _ _).symm) hl))
set_option maxHeartbeats 4000000 in
set_option maxRecDepth 100000 in
theorem lc_dropsOf (C : Cx l G RL cL_law 9 ret p s m meth c #[Value.ref b]) (hX : va_X b L xs s s.heap) (hbl : b < s.heap.size) (hbA : ¬ gA G b) {c9 d : Int} {D : CD} {U : MV_} (h : Sm c9 D U) (hd : c9 + 60 ≤ d) (hd4 : d ≤ 40000) {i : Nat} (hi : i + 4 < L) (hL : L ≤ 2560) {K : Nat → Nat → Nat} {r : Nat → Nat → Nat} {mo : Nat → Nat} {o o2 : Nat} {f1 : Nat → Int64} {f2 : Nat → UInt64} (hw : WH G s (lC G o f1 :: (dC G o2 f2 :: cW G K r D (moW G mo U ++ []))) H locs) (hl : lv_has ls 9 (lvL b (K 7 0) (mo 0) o o2 i)) (hc : cells ≤ 400000 ∧ slots ≤ 4000000)
    (kk : ∀ (D' : CD) (U' : MV_) (f1' : Nat → Int64) (f2' : Nat → UInt64) (ls : Array Slot) (H : Heap) (locs : List Loc), Sm d D' U' → WH G s (lC G o f1' :: (dC G o2 f2' :: cW G K r D' (moW G mo U' ++ []))) H locs → lv_has ls 9 (lvL b (K 7 0) (mo 0) o o2 i) → W p l e room_1 s m #[Value.ref b] below meth c H locs (cells + 80) (slots + 600) Q (F0 m 2825 ls [])) : W p l e room_1 s m #[Value.ref b] below meth c H locs cells slots Q (F0 m 1117 ls []) := by
  have hF := C.2.2.2.2.2.2.2.2
  refine lv_aload_n C.1 C.2.1 dL_law_1117 rfl (lv_at hl 4 rfl) ?_
  refine law_arg C hX hbl hbA hw.2.1 (k := 1) (off := 1) (by omega) hL (lv_at hl 5 rfl) (lv_at hl 0 rfl) dL_law_1118 dL_law_1119 dL_law_1121 (by decide) dL_law_1122 dL_law_1123 ?_
  refine lv_aload_n C.1 C.2.1 dL_law_1124 rfl (lv_at hl 2 rfl) ?_
  have hfin := fin_dropsOf (U := U) h hd hd4 (xs (i + 1))
  refine r_hsi C hw (w_dropsOf hF (f := f1) (o := o) (wA := dC G o2 f2 :: cW G K r D (moW G mo U ++ [])) (WfA := fun u => dC G o2 f2 :: cW G K r (D) (moW G mo U ++ [])) (WxA := fun _ => dC G o2 f2 :: cW G K r (D) (moW G mo U ++ [])) (x11_dropsOf hF (K := K) (S := D.S) (F := D.F) (X := YA G K r D (lC G o f1) (dC G o2 f2) (moW G mo U ++ [])) h.ok (xs (i + 1))) (pw_A _ _ _ _ _ _ _ _ _ _ _ _) 19 rfl (fun u => (pw_A _ _ _ _ _ _ _ _ _ _ _ _).symm) (fun k1 hk => ⟨(hfin.2 k1 hk).1, (pw_A _ _ _ _ _ _ _ _ _ _ _ _).symm⟩)) ml_L_211 yf_L_dropsOf rfl rfl ⟨Nat.le_of_ble_eq_true rfl, Nat.le_of_ble_eq_true rfl⟩ (by show cells + 1 ≤ 603072 ∧ slots + 6 ≤ 7198826; omega) hl.1 (Nat.le_of_ble_eq_true rfl) dL_law_1125 (fun r9 u9 H locs hp hw => ?_)
  obtain ⟨D', f', hw, e1, hs, e2⟩ : ∃ (D' : CD) (f' : Nat → Int64), WH G s (lC G o f' :: (dC G o2 f2 :: cW G K r D' (moW G mo U ++ []))) H locs ∧ r9 = ((mI U 2 (bI (!isF (U.2 0) (xs (i + 1)))), (if isF (U.2 0) (xs (i + 1)) = true then sF (U.2 0) (xs (i + 1)).toNatClampNeg 1 else 0))).1.1 2 ∧ Sm d D' ((mI U 2 (bI (!isF (U.2 0) (xs (i + 1)))), (if isF (U.2 0) (xs (i + 1)) = true then sF (U.2 0) (xs (i + 1)).toNatClampNeg 1 else 0))).1 ∧ (r9 = 0 → f' 0 = ((mI U 2 (bI (!isF (U.2 0) (xs (i + 1)))), (if isF (U.2 0) (xs (i + 1)) = true then sF (U.2 0) (xs (i + 1)).toNatClampNeg 1 else 0))).2.toInt64) := by
    rcases u9 with ⟨r1, u1⟩ | k1
    · obtain ⟨e, hp⟩ := hp
      obtain ⟨t1, t2, t3⟩ := hfin.1 r1 u1 hp
      exact ⟨_, _, hw, e.trans t1.symm, t3, fun _ => by rw [t2]; rfl⟩
    · obtain ⟨e, hp⟩ := hp
      obtain ⟨t0, t2, t3⟩ := hfin.2 k1 hp
      refine ⟨_, _, hw, e.trans t2, t3, fun e0 => ?_⟩
      exfalso
      rw [e] at e0
      rcases t0 with t0 <;> subst t0 <;> exact absurd e0 (by decide)
  refine lv_istore (lv' := (6, .int r9) :: lvL b (K 7 0) (mo 0) o o2 i) C.1 C.2.1 dL_law_1128 hl (by decide) rfl (fun ls hl => ?_)
  refine lv_aload_n C.1 C.2.1 dL_law_1130 rfl (lv_at hl 4 rfl) ?_
  refine law_arg C hX hbl hbA hw.2.1 (k := 1) (off := 1) (by omega) hL (lv_at hl 6 rfl) (lv_at hl 1 rfl) dL_law_1131 dL_law_1132 dL_law_1134 (by decide) dL_law_1135 dL_law_1136 ?_
  refine r_vi C (hw.perm (pw_M _ _ _ _ _ _ _ _ _ _ _ _ _)) (k12_dropsOf hF (U := U) (mo := mo) h.okf (xs (i + 1))) ml_L_213 yf_X12_dropsOf 0 rfl rfl (As := [.int (xs (i + 1))]) rfl rfl ⟨Nat.le_of_ble_eq_true rfl, Nat.le_of_ble_eq_true rfl⟩ (by show cells + 1 + 0 ≤ 603072 ∧ slots + 6 + 0 ≤ 7198826; omega) hl.1 (Nat.le_of_ble_eq_true rfl) dL_law_1137 (fun r3 _ H locs hp3 hw => ?_)
  exact law_tail C hw (k := r9) e1 (fun e => (e2 e).trans (by rw [hp3])) hl ⟨by omega, by omega⟩ dL_law_1140 dL_law_1142 dL_law_1143 dL_law_1146 dL_law_1148 dL_law_1153 dL_law_1155 dL_law_1158 dL_law_1159 dL_law_1160 dL_law_1161 dL_law_1163 dL_law_1164 dL_law_1165 dL_law_1170 (by decide) (fun ls H locs hl hw => W.widen (by omega) (by omega) (kk D' _ f' f2 ls H locs hs (hw.perm (pw_M _ _ _ _ _ _ _ _ _ _ _ _ _).symm) hl))
set_option maxHeartbeats 4000000 in
set_option maxRecDepth 100000 in
theorem lc_freeMoneyOf (C : Cx l G RL cL_law 9 ret p s m meth c #[Value.ref b]) (hX : va_X b L xs s s.heap) (hbl : b < s.heap.size) (hbA : ¬ gA G b) {c9 d : Int} {D : CD} {U : MV_} (h : Sm c9 D U) (hd : c9 + 60 ≤ d) (hd4 : d ≤ 40000) {i : Nat} (hi : i + 4 < L) (hL : L ≤ 2560) {K : Nat → Nat → Nat} {r : Nat → Nat → Nat} {mo : Nat → Nat} {o o2 : Nat} {f1 : Nat → Int64} {f2 : Nat → UInt64} (hw : WH G s (lC G o f1 :: (dC G o2 f2 :: cW G K r D (moW G mo U ++ []))) H locs) (hl : lv_has ls 9 (lvL b (K 7 0) (mo 0) o o2 i)) (hc : cells ≤ 400000 ∧ slots ≤ 4000000)
    (kk : ∀ (D' : CD) (U' : MV_) (f1' : Nat → Int64) (f2' : Nat → UInt64) (ls : Array Slot) (H : Heap) (locs : List Loc), Sm d D' U' → WH G s (lC G o f1' :: (dC G o2 f2' :: cW G K r D' (moW G mo U' ++ []))) H locs → lv_has ls 9 (lvL b (K 7 0) (mo 0) o o2 i) → W p l e room_1 s m #[Value.ref b] below meth c H locs (cells + 80) (slots + 600) Q (F0 m 2825 ls [])) : W p l e room_1 s m #[Value.ref b] below meth c H locs cells slots Q (F0 m 1173 ls []) := by
  have hF := C.2.2.2.2.2.2.2.2
  refine lv_aload_n C.1 C.2.1 dL_law_1173 rfl (lv_at hl 4 rfl) ?_
  refine law_arg C hX hbl hbA hw.2.1 (k := 1) (off := 1) (by omega) hL (lv_at hl 5 rfl) (lv_at hl 0 rfl) dL_law_1174 dL_law_1175 dL_law_1177 (by decide) dL_law_1178 dL_law_1179 ?_
  refine lv_aload_n C.1 C.2.1 dL_law_1180 rfl (lv_at hl 2 rfl) ?_
  have hfin := fin_freeMoneyOf (U := U) h hd hd4 (xs (i + 1))
  refine r_hsi C hw (w_freeMoneyOf hF (f := f1) (o := o) (wA := dC G o2 f2 :: cW G K r D (moW G mo U ++ [])) (WfA := fun u => dC G o2 f2 :: cW G K r (D) (moW G mo U ++ [])) (WxA := fun _ => dC G o2 f2 :: cW G K r (D) (moW G mo U ++ [])) (x11_freeMoneyOf hF (K := K) (S := D.S) (F := D.F) (X := YA G K r D (lC G o f1) (dC G o2 f2) (moW G mo U ++ [])) h.ok (xs (i + 1))) (pw_A _ _ _ _ _ _ _ _ _ _ _ _) 19 rfl (fun u => (pw_A _ _ _ _ _ _ _ _ _ _ _ _).symm) (fun k1 hk => ⟨(hfin.2 k1 hk).1, (pw_A _ _ _ _ _ _ _ _ _ _ _ _).symm⟩)) ml_L_214 yf_L_freeMoneyOf rfl rfl ⟨Nat.le_of_ble_eq_true rfl, Nat.le_of_ble_eq_true rfl⟩ (by show cells + 1 ≤ 603072 ∧ slots + 6 ≤ 7198826; omega) hl.1 (Nat.le_of_ble_eq_true rfl) dL_law_1181 (fun r9 u9 H locs hp hw => ?_)
  obtain ⟨D', f', hw, e1, hs, e2⟩ : ∃ (D' : CD) (f' : Nat → Int64), WH G s (lC G o f' :: (dC G o2 f2 :: cW G K r D' (moW G mo U ++ []))) H locs ∧ r9 = ((mI U 2 (bI (!isF (U.2 0) (xs (i + 1)))), (if isF (U.2 0) (xs (i + 1)) = true then fqR (U.2 0) (xs (i + 1)).toNatClampNeg true (nF (U.2 0)) else 0))).1.1 2 ∧ Sm d D' ((mI U 2 (bI (!isF (U.2 0) (xs (i + 1)))), (if isF (U.2 0) (xs (i + 1)) = true then fqR (U.2 0) (xs (i + 1)).toNatClampNeg true (nF (U.2 0)) else 0))).1 ∧ (r9 = 0 → f' 0 = ((mI U 2 (bI (!isF (U.2 0) (xs (i + 1)))), (if isF (U.2 0) (xs (i + 1)) = true then fqR (U.2 0) (xs (i + 1)).toNatClampNeg true (nF (U.2 0)) else 0))).2.toInt64) := by
    rcases u9 with ⟨r1, u1⟩ | k1
    · obtain ⟨e, hp⟩ := hp
      obtain ⟨t1, t2, t3⟩ := hfin.1 r1 u1 hp
      exact ⟨_, _, hw, e.trans t1.symm, t3, fun _ => by rw [t2]; rfl⟩
    · obtain ⟨e, hp⟩ := hp
      obtain ⟨t0, t2, t3⟩ := hfin.2 k1 hp
      refine ⟨_, _, hw, e.trans t2, t3, fun e0 => ?_⟩
      exfalso
      rw [e] at e0
      rcases t0 with t0 <;> subst t0 <;> exact absurd e0 (by decide)
  refine lv_istore (lv' := (6, .int r9) :: lvL b (K 7 0) (mo 0) o o2 i) C.1 C.2.1 dL_law_1184 hl (by decide) rfl (fun ls hl => ?_)
  refine lv_aload_n C.1 C.2.1 dL_law_1186 rfl (lv_at hl 4 rfl) ?_
  refine law_arg C hX hbl hbA hw.2.1 (k := 1) (off := 1) (by omega) hL (lv_at hl 6 rfl) (lv_at hl 1 rfl) dL_law_1187 dL_law_1188 dL_law_1190 (by decide) dL_law_1191 dL_law_1192 ?_
  refine r_vi C (hw.perm (pw_M _ _ _ _ _ _ _ _ _ _ _ _ _)) (k12_freeMoneyOf hF (U := U) (mo := mo) h.okf (xs (i + 1))) ml_L_216 yf_X12_freeMoneyOf 0 rfl rfl (As := [.int (xs (i + 1))]) rfl rfl ⟨Nat.le_of_ble_eq_true rfl, Nat.le_of_ble_eq_true rfl⟩ (by show cells + 1 + 0 ≤ 603072 ∧ slots + 6 + 0 ≤ 7198826; omega) hl.1 (Nat.le_of_ble_eq_true rfl) dL_law_1193 (fun r3 _ H locs hp3 hw => ?_)
  exact law_tail C hw (k := r9) e1 (fun e => (e2 e).trans (by rw [hp3])) hl ⟨by omega, by omega⟩ dL_law_1196 dL_law_1198 dL_law_1199 dL_law_1202 dL_law_1204 dL_law_1209 dL_law_1211 dL_law_1214 dL_law_1215 dL_law_1216 dL_law_1217 dL_law_1219 dL_law_1220 dL_law_1221 dL_law_1226 (by decide) (fun ls H locs hl hw => W.widen (by omega) (by omega) (kk D' _ f' f2 ls H locs hs (hw.perm (pw_M _ _ _ _ _ _ _ _ _ _ _ _ _).symm) hl))
set_option maxHeartbeats 4000000 in
set_option maxRecDepth 100000 in
theorem lc_freeDropsOf (C : Cx l G RL cL_law 9 ret p s m meth c #[Value.ref b]) (hX : va_X b L xs s s.heap) (hbl : b < s.heap.size) (hbA : ¬ gA G b) {c9 d : Int} {D : CD} {U : MV_} (h : Sm c9 D U) (hd : c9 + 60 ≤ d) (hd4 : d ≤ 40000) {i : Nat} (hi : i + 4 < L) (hL : L ≤ 2560) {K : Nat → Nat → Nat} {r : Nat → Nat → Nat} {mo : Nat → Nat} {o o2 : Nat} {f1 : Nat → Int64} {f2 : Nat → UInt64} (hw : WH G s (lC G o f1 :: (dC G o2 f2 :: cW G K r D (moW G mo U ++ []))) H locs) (hl : lv_has ls 9 (lvL b (K 7 0) (mo 0) o o2 i)) (hc : cells ≤ 400000 ∧ slots ≤ 4000000)
    (kk : ∀ (D' : CD) (U' : MV_) (f1' : Nat → Int64) (f2' : Nat → UInt64) (ls : Array Slot) (H : Heap) (locs : List Loc), Sm d D' U' → WH G s (lC G o f1' :: (dC G o2 f2' :: cW G K r D' (moW G mo U' ++ []))) H locs → lv_has ls 9 (lvL b (K 7 0) (mo 0) o o2 i) → W p l e room_1 s m #[Value.ref b] below meth c H locs (cells + 80) (slots + 600) Q (F0 m 2825 ls [])) : W p l e room_1 s m #[Value.ref b] below meth c H locs cells slots Q (F0 m 1229 ls []) := by
  have hF := C.2.2.2.2.2.2.2.2
  refine lv_aload_n C.1 C.2.1 dL_law_1229 rfl (lv_at hl 4 rfl) ?_
  refine law_arg C hX hbl hbA hw.2.1 (k := 1) (off := 1) (by omega) hL (lv_at hl 5 rfl) (lv_at hl 0 rfl) dL_law_1230 dL_law_1231 dL_law_1233 (by decide) dL_law_1234 dL_law_1235 ?_
  refine lv_aload_n C.1 C.2.1 dL_law_1236 rfl (lv_at hl 2 rfl) ?_
  have hfin := fin_freeDropsOf (U := U) h hd hd4 (xs (i + 1))
  refine r_hsi C hw (w_freeDropsOf hF (f := f1) (o := o) (wA := dC G o2 f2 :: cW G K r D (moW G mo U ++ [])) (WfA := fun u => dC G o2 f2 :: cW G K r (D) (moW G mo U ++ [])) (WxA := fun _ => dC G o2 f2 :: cW G K r (D) (moW G mo U ++ [])) (x11_freeDropsOf hF (K := K) (S := D.S) (F := D.F) (X := YA G K r D (lC G o f1) (dC G o2 f2) (moW G mo U ++ [])) h.ok (xs (i + 1))) (pw_A _ _ _ _ _ _ _ _ _ _ _ _) 19 rfl (fun u => (pw_A _ _ _ _ _ _ _ _ _ _ _ _).symm) (fun k1 hk => ⟨(hfin.2 k1 hk).1, (pw_A _ _ _ _ _ _ _ _ _ _ _ _).symm⟩)) ml_L_217 yf_L_freeDropsOf rfl rfl ⟨Nat.le_of_ble_eq_true rfl, Nat.le_of_ble_eq_true rfl⟩ (by show cells + 1 ≤ 603072 ∧ slots + 6 ≤ 7198826; omega) hl.1 (Nat.le_of_ble_eq_true rfl) dL_law_1237 (fun r9 u9 H locs hp hw => ?_)
  obtain ⟨D', f', hw, e1, hs, e2⟩ : ∃ (D' : CD) (f' : Nat → Int64), WH G s (lC G o f' :: (dC G o2 f2 :: cW G K r D' (moW G mo U ++ []))) H locs ∧ r9 = ((mI U 2 (bI (!isF (U.2 0) (xs (i + 1)))), (if isF (U.2 0) (xs (i + 1)) = true then fqR (U.2 0) (xs (i + 1)).toNatClampNeg false (nF (U.2 0)) else 0))).1.1 2 ∧ Sm d D' ((mI U 2 (bI (!isF (U.2 0) (xs (i + 1)))), (if isF (U.2 0) (xs (i + 1)) = true then fqR (U.2 0) (xs (i + 1)).toNatClampNeg false (nF (U.2 0)) else 0))).1 ∧ (r9 = 0 → f' 0 = ((mI U 2 (bI (!isF (U.2 0) (xs (i + 1)))), (if isF (U.2 0) (xs (i + 1)) = true then fqR (U.2 0) (xs (i + 1)).toNatClampNeg false (nF (U.2 0)) else 0))).2.toInt64) := by
    rcases u9 with ⟨r1, u1⟩ | k1
    · obtain ⟨e, hp⟩ := hp
      obtain ⟨t1, t2, t3⟩ := hfin.1 r1 u1 hp
      exact ⟨_, _, hw, e.trans t1.symm, t3, fun _ => by rw [t2]; rfl⟩
    · obtain ⟨e, hp⟩ := hp
      obtain ⟨t0, t2, t3⟩ := hfin.2 k1 hp
      refine ⟨_, _, hw, e.trans t2, t3, fun e0 => ?_⟩
      exfalso
      rw [e] at e0
      rcases t0 with t0 <;> subst t0 <;> exact absurd e0 (by decide)
  refine lv_istore (lv' := (6, .int r9) :: lvL b (K 7 0) (mo 0) o o2 i) C.1 C.2.1 dL_law_1240 hl (by decide) rfl (fun ls hl => ?_)
  refine lv_aload_n C.1 C.2.1 dL_law_1242 rfl (lv_at hl 4 rfl) ?_
  refine law_arg C hX hbl hbA hw.2.1 (k := 1) (off := 1) (by omega) hL (lv_at hl 6 rfl) (lv_at hl 1 rfl) dL_law_1243 dL_law_1244 dL_law_1246 (by decide) dL_law_1247 dL_law_1248 ?_
  refine r_vi C (hw.perm (pw_M _ _ _ _ _ _ _ _ _ _ _ _ _)) (k12_freeDropsOf hF (U := U) (mo := mo) h.okf (xs (i + 1))) ml_L_219 yf_X12_freeDropsOf 0 rfl rfl (As := [.int (xs (i + 1))]) rfl rfl ⟨Nat.le_of_ble_eq_true rfl, Nat.le_of_ble_eq_true rfl⟩ (by show cells + 1 + 0 ≤ 603072 ∧ slots + 6 + 0 ≤ 7198826; omega) hl.1 (Nat.le_of_ble_eq_true rfl) dL_law_1249 (fun r3 _ H locs hp3 hw => ?_)
  exact law_tail C hw (k := r9) e1 (fun e => (e2 e).trans (by rw [hp3])) hl ⟨by omega, by omega⟩ dL_law_1252 dL_law_1254 dL_law_1255 dL_law_1258 dL_law_1260 dL_law_1265 dL_law_1267 dL_law_1270 dL_law_1271 dL_law_1272 dL_law_1273 dL_law_1275 dL_law_1276 dL_law_1277 dL_law_1282 (by decide) (fun ls H locs hl hw => W.widen (by omega) (by omega) (kk D' _ f' f2 ls H locs hs (hw.perm (pw_M _ _ _ _ _ _ _ _ _ _ _ _ _).symm) hl))
set_option maxHeartbeats 4000000 in
set_option maxRecDepth 100000 in
theorem lc_stallByMoney (C : Cx l G RL cL_law 9 ret p s m meth c #[Value.ref b]) (hX : va_X b L xs s s.heap) (hbl : b < s.heap.size) (hbA : ¬ gA G b) {c9 d : Int} {D : CD} {U : MV_} (h : Sm c9 D U) (hd : c9 + 60 ≤ d) (hd4 : d ≤ 40000) {i : Nat} (hi : i + 4 < L) (hL : L ≤ 2560) {K : Nat → Nat → Nat} {r : Nat → Nat → Nat} {mo : Nat → Nat} {o o2 : Nat} {f1 : Nat → Int64} {f2 : Nat → UInt64} (hw : WH G s (lC G o f1 :: (dC G o2 f2 :: cW G K r D (moW G mo U ++ []))) H locs) (hl : lv_has ls 9 (lvL b (K 7 0) (mo 0) o o2 i)) (hc : cells ≤ 400000 ∧ slots ≤ 4000000)
    (kk : ∀ (D' : CD) (U' : MV_) (f1' : Nat → Int64) (f2' : Nat → UInt64) (ls : Array Slot) (H : Heap) (locs : List Loc), Sm d D' U' → WH G s (lC G o f1' :: (dC G o2 f2' :: cW G K r D' (moW G mo U' ++ []))) H locs → lv_has ls 9 (lvL b (K 7 0) (mo 0) o o2 i) → W p l e room_1 s m #[Value.ref b] below meth c H locs (cells + 80) (slots + 600) Q (F0 m 2825 ls [])) : W p l e room_1 s m #[Value.ref b] below meth c H locs cells slots Q (F0 m 1311 ls []) := by
  have hF := C.2.2.2.2.2.2.2.2
  refine lv_aload_n C.1 C.2.1 dL_law_1311 rfl (lv_at hl 4 rfl) ?_
  refine law_arg C hX hbl hbA hw.2.1 (k := 1) (off := 1) (by omega) hL (lv_at hl 5 rfl) (lv_at hl 0 rfl) dL_law_1312 dL_law_1313 dL_law_1315 (by decide) dL_law_1316 dL_law_1317 ?_
  refine lv_aload_n C.1 C.2.1 dL_law_1318 rfl (lv_at hl 2 rfl) ?_
  have hfin := fin_stallByMoney (U := U) h hd hd4 (xs (i + 1))
  refine r_hsi C hw (w_stallByMoney hF (f := f1) (o := o) (wA := dC G o2 f2 :: cW G K r D (moW G mo U ++ [])) (WfA := fun u => dC G o2 f2 :: cW G K r (D) (moW G mo U ++ [])) (WxA := fun _ => dC G o2 f2 :: cW G K r (D) (moW G mo U ++ [])) (x11_stallByMoney hF (K := K) (S := D.S) (F := D.F) (X := YA G K r D (lC G o f1) (dC G o2 f2) (moW G mo U ++ [])) h.ok (xs (i + 1))) (pw_A _ _ _ _ _ _ _ _ _ _ _ _) 19 rfl (fun u => (pw_A _ _ _ _ _ _ _ _ _ _ _ _).symm) (fun k1 hk => ⟨(hfin.2 k1 hk).1, (pw_A _ _ _ _ _ _ _ _ _ _ _ _).symm⟩)) ml_L_228 yf_L_stallByMoney rfl rfl ⟨Nat.le_of_ble_eq_true rfl, Nat.le_of_ble_eq_true rfl⟩ (by show cells + 1 ≤ 603072 ∧ slots + 6 ≤ 7198826; omega) hl.1 (Nat.le_of_ble_eq_true rfl) dL_law_1319 (fun r9 u9 H locs hp hw => ?_)
  obtain ⟨D', f', hw, e1, hs, e2⟩ : ∃ (D' : CD) (f' : Nat → Int64), WH G s (lC G o f' :: (dC G o2 f2 :: cW G K r D' (moW G mo U ++ []))) H locs ∧ r9 = ((mI U 2 (bI (!isF (U.2 0) (xs (i + 1)))), sbV (U.2 0) (xs (i + 1)))).1.1 2 ∧ Sm d D' ((mI U 2 (bI (!isF (U.2 0) (xs (i + 1)))), sbV (U.2 0) (xs (i + 1)))).1 ∧ (r9 = 0 → f' 0 = ((mI U 2 (bI (!isF (U.2 0) (xs (i + 1)))), sbV (U.2 0) (xs (i + 1)))).2.toInt64) := by
    rcases u9 with ⟨r1, u1⟩ | k1
    · obtain ⟨e, hp⟩ := hp
      obtain ⟨t1, t2, t3⟩ := hfin.1 r1 u1 hp
      exact ⟨_, _, hw, e.trans t1.symm, t3, fun _ => by rw [t2]; rfl⟩
    · obtain ⟨e, hp⟩ := hp
      obtain ⟨t0, t2, t3⟩ := hfin.2 k1 hp
      refine ⟨_, _, hw, e.trans t2, t3, fun e0 => ?_⟩
      exfalso
      rw [e] at e0
      rcases t0 with t0 <;> subst t0 <;> exact absurd e0 (by decide)
  refine lv_istore (lv' := (6, .int r9) :: lvL b (K 7 0) (mo 0) o o2 i) C.1 C.2.1 dL_law_1322 hl (by decide) rfl (fun ls hl => ?_)
  refine lv_aload_n C.1 C.2.1 dL_law_1324 rfl (lv_at hl 4 rfl) ?_
  refine law_arg C hX hbl hbA hw.2.1 (k := 1) (off := 1) (by omega) hL (lv_at hl 6 rfl) (lv_at hl 1 rfl) dL_law_1325 dL_law_1326 dL_law_1328 (by decide) dL_law_1329 dL_law_1330 ?_
  refine r_vi C (hw.perm (pw_M _ _ _ _ _ _ _ _ _ _ _ _ _)) (k12_stallByMoney hF (U := U) (mo := mo) h.okf (xs (i + 1))) ml_L_230 yf_X12_stallByMoney 0 rfl rfl (As := [.int (xs (i + 1))]) rfl rfl ⟨Nat.le_of_ble_eq_true rfl, Nat.le_of_ble_eq_true rfl⟩ (by show cells + 1 + 0 ≤ 603072 ∧ slots + 6 + 0 ≤ 7198826; omega) hl.1 (Nat.le_of_ble_eq_true rfl) dL_law_1331 (fun r3 _ H locs hp3 hw => ?_)
  exact law_tail C hw (k := r9) e1 (fun e => (e2 e).trans (by rw [hp3])) hl ⟨by omega, by omega⟩ dL_law_1334 dL_law_1336 dL_law_1337 dL_law_1340 dL_law_1342 dL_law_1347 dL_law_1349 dL_law_1352 dL_law_1353 dL_law_1354 dL_law_1355 dL_law_1357 dL_law_1358 dL_law_1359 dL_law_1364 (by decide) (fun ls H locs hl hw => W.widen (by omega) (by omega) (kk D' _ f' f2 ls H locs hs (hw.perm (pw_M _ _ _ _ _ _ _ _ _ _ _ _ _).symm) hl))
set_option maxHeartbeats 4000000 in
set_option maxRecDepth 100000 in
theorem lc_orderAt (C : Cx l G RL cL_law 9 ret p s m meth c #[Value.ref b]) (hX : va_X b L xs s s.heap) (hbl : b < s.heap.size) (hbA : ¬ gA G b) {c9 d : Int} {D : CD} {U : MV_} (h : Sm c9 D U) (hd : c9 + 60 ≤ d) (hd4 : d ≤ 40000) {i : Nat} (hi : i + 4 < L) (hL : L ≤ 2560) {K : Nat → Nat → Nat} {r : Nat → Nat → Nat} {mo : Nat → Nat} {o o2 : Nat} {f1 : Nat → Int64} {f2 : Nat → UInt64} (hw : WH G s (lC G o f1 :: (dC G o2 f2 :: cW G K r D (moW G mo U ++ []))) H locs) (hl : lv_has ls 9 (lvL b (K 7 0) (mo 0) o o2 i)) (hc : cells ≤ 400000 ∧ slots ≤ 4000000)
    (kk : ∀ (D' : CD) (U' : MV_) (f1' : Nat → Int64) (f2' : Nat → UInt64) (ls : Array Slot) (H : Heap) (locs : List Loc), Sm d D' U' → WH G s (lC G o f1' :: (dC G o2 f2' :: cW G K r D' (moW G mo U' ++ []))) H locs → lv_has ls 9 (lvL b (K 7 0) (mo 0) o o2 i) → W p l e room_1 s m #[Value.ref b] below meth c H locs (cells + 80) (slots + 600) Q (F0 m 2825 ls [])) : W p l e room_1 s m #[Value.ref b] below meth c H locs cells slots Q (F0 m 1380 ls []) := by
  have hF := C.2.2.2.2.2.2.2.2
  refine lv_aload_n C.1 C.2.1 dL_law_1380 rfl (lv_at hl 4 rfl) ?_
  refine law_arg C hX hbl hbA hw.2.1 (k := 1) (off := 1) (by omega) hL (lv_at hl 5 rfl) (lv_at hl 0 rfl) dL_law_1381 dL_law_1382 dL_law_1384 (by decide) dL_law_1385 dL_law_1386 ?_
  refine lv_aload_n C.1 C.2.1 dL_law_1387 rfl (lv_at hl 2 rfl) ?_
  have hfin := fin_orderAt (U := U) h hd hd4 (xs (i + 1))
  refine r_hsi C hw (w_orderAt hF (f := f1) (o := o) (wA := dC G o2 f2 :: cW G K r D (moW G mo U ++ [])) (WfA := fun u => dC G o2 f2 :: cW G K r (D) (moW G mo U ++ [])) (WxA := fun _ => dC G o2 f2 :: cW G K r (D) (moW G mo U ++ [])) (x11_orderAt hF (K := K) (S := D.S) (F := D.F) (X := YA G K r D (lC G o f1) (dC G o2 f2) (moW G mo U ++ [])) h.ok (xs (i + 1))) (pw_A _ _ _ _ _ _ _ _ _ _ _ _) 19 rfl (fun u => (pw_A _ _ _ _ _ _ _ _ _ _ _ _).symm) (fun k1 hk => ⟨(hfin.2 k1 hk).1, (pw_A _ _ _ _ _ _ _ _ _ _ _ _).symm⟩)) ml_L_235 yf_L_orderAt rfl rfl ⟨Nat.le_of_ble_eq_true rfl, Nat.le_of_ble_eq_true rfl⟩ (by show cells + 1 ≤ 603072 ∧ slots + 6 ≤ 7198826; omega) hl.1 (Nat.le_of_ble_eq_true rfl) dL_law_1388 (fun r9 u9 H locs hp hw => ?_)
  obtain ⟨D', f', hw, e1, hs, e2⟩ : ∃ (D' : CD) (f' : Nat → Int64), WH G s (lC G o f' :: (dC G o2 f2 :: cW G K r D' (moW G mo U ++ []))) H locs ∧ r9 = ((mI U 2 (bI (!inR (xs (i + 1)) 0 (nI (nF (U.2 0)) - 1))), (if inR (xs (i + 1)) 0 (nI (nF (U.2 0)) - 1) = true then oF (U.2 0) (xs (i + 1)).toNatClampNeg 0 else 0))).1.1 2 ∧ Sm d D' ((mI U 2 (bI (!inR (xs (i + 1)) 0 (nI (nF (U.2 0)) - 1))), (if inR (xs (i + 1)) 0 (nI (nF (U.2 0)) - 1) = true then oF (U.2 0) (xs (i + 1)).toNatClampNeg 0 else 0))).1 ∧ (r9 = 0 → f' 0 = ((mI U 2 (bI (!inR (xs (i + 1)) 0 (nI (nF (U.2 0)) - 1))), (if inR (xs (i + 1)) 0 (nI (nF (U.2 0)) - 1) = true then oF (U.2 0) (xs (i + 1)).toNatClampNeg 0 else 0))).2.toInt64) := by
    rcases u9 with ⟨r1, u1⟩ | k1
    · obtain ⟨e, hp⟩ := hp
      obtain ⟨t1, t2, t3⟩ := hfin.1 r1 u1 hp
      exact ⟨_, _, hw, e.trans t1.symm, t3, fun _ => by rw [t2]; rfl⟩
    · obtain ⟨e, hp⟩ := hp
      obtain ⟨t0, t2, t3⟩ := hfin.2 k1 hp
      refine ⟨_, _, hw, e.trans t2, t3, fun e0 => ?_⟩
      exfalso
      rw [e] at e0
      rcases t0 with t0 <;> subst t0 <;> exact absurd e0 (by decide)
  refine lv_istore (lv' := (6, .int r9) :: lvL b (K 7 0) (mo 0) o o2 i) C.1 C.2.1 dL_law_1391 hl (by decide) rfl (fun ls hl => ?_)
  refine lv_aload_n C.1 C.2.1 dL_law_1393 rfl (lv_at hl 4 rfl) ?_
  refine law_arg C hX hbl hbA hw.2.1 (k := 1) (off := 1) (by omega) hL (lv_at hl 6 rfl) (lv_at hl 1 rfl) dL_law_1394 dL_law_1395 dL_law_1397 (by decide) dL_law_1398 dL_law_1399 ?_
  refine r_vi C (hw.perm (pw_M _ _ _ _ _ _ _ _ _ _ _ _ _)) (k12_orderAt hF (U := U) (mo := mo) h.okf (xs (i + 1))) ml_L_237 yf_X12_orderAt 0 rfl rfl (As := [.int (xs (i + 1))]) rfl rfl ⟨Nat.le_of_ble_eq_true rfl, Nat.le_of_ble_eq_true rfl⟩ (by show cells + 1 + 0 ≤ 603072 ∧ slots + 6 + 0 ≤ 7198826; omega) hl.1 (Nat.le_of_ble_eq_true rfl) dL_law_1400 (fun r3 _ H locs hp3 hw => ?_)
  exact law_tail C hw (k := r9) e1 (fun e => (e2 e).trans (by rw [hp3])) hl ⟨by omega, by omega⟩ dL_law_1403 dL_law_1405 dL_law_1406 dL_law_1409 dL_law_1411 dL_law_1416 dL_law_1418 dL_law_1421 dL_law_1422 dL_law_1423 dL_law_1424 dL_law_1426 dL_law_1427 dL_law_1428 dL_law_1433 (by decide) (fun ls H locs hl hw => W.widen (by omega) (by omega) (kk D' _ f' f2 ls H locs hs (hw.perm (pw_M _ _ _ _ _ _ _ _ _ _ _ _ _).symm) hl))
set_option maxHeartbeats 4000000 in
set_option maxRecDepth 100000 in
theorem lc_stallOf (C : Cx l G RL cL_law 9 ret p s m meth c #[Value.ref b]) (hX : va_X b L xs s s.heap) (hbl : b < s.heap.size) (hbA : ¬ gA G b) {c9 d : Int} {D : CD} {U : MV_} (h : Sm c9 D U) (hd : c9 + 60 ≤ d) (hd4 : d ≤ 40000) {i : Nat} (hi : i + 4 < L) (hL : L ≤ 2560) {K : Nat → Nat → Nat} {r : Nat → Nat → Nat} {mo : Nat → Nat} {o o2 : Nat} {f1 : Nat → Int64} {f2 : Nat → UInt64} (hw : WH G s (lC G o f1 :: (dC G o2 f2 :: cW G K r D (moW G mo U ++ []))) H locs) (hl : lv_has ls 9 (lvL b (K 7 0) (mo 0) o o2 i)) (hc : cells ≤ 400000 ∧ slots ≤ 4000000)
    (kk : ∀ (D' : CD) (U' : MV_) (f1' : Nat → Int64) (f2' : Nat → UInt64) (ls : Array Slot) (H : Heap) (locs : List Loc), Sm d D' U' → WH G s (lC G o f1' :: (dC G o2 f2' :: cW G K r D' (moW G mo U' ++ []))) H locs → lv_has ls 9 (lvL b (K 7 0) (mo 0) o o2 i) → W p l e room_1 s m #[Value.ref b] below meth c H locs (cells + 80) (slots + 600) Q (F0 m 2825 ls [])) : W p l e room_1 s m #[Value.ref b] below meth c H locs cells slots Q (F0 m 1436 ls []) := by
  have hF := C.2.2.2.2.2.2.2.2
  refine lv_aload_n C.1 C.2.1 dL_law_1436 rfl (lv_at hl 4 rfl) ?_
  refine law_arg C hX hbl hbA hw.2.1 (k := 1) (off := 1) (by omega) hL (lv_at hl 5 rfl) (lv_at hl 0 rfl) dL_law_1437 dL_law_1438 dL_law_1440 (by decide) dL_law_1441 dL_law_1442 ?_
  refine lv_aload_n C.1 C.2.1 dL_law_1443 rfl (lv_at hl 2 rfl) ?_
  have hfin := fin_stallOf (U := U) h hd hd4 (xs (i + 1))
  refine r_hsi C hw (w_stallOf hF (f := f1) (o := o) (wA := dC G o2 f2 :: cW G K r D (moW G mo U ++ [])) (WfA := fun u => dC G o2 f2 :: cW G K r (D) (moW G mo U ++ [])) (WxA := fun _ => dC G o2 f2 :: cW G K r (D) (moW G mo U ++ [])) (x11_stallOf hF (K := K) (S := D.S) (F := D.F) (X := YA G K r D (lC G o f1) (dC G o2 f2) (moW G mo U ++ [])) h.ok (xs (i + 1))) (pw_A _ _ _ _ _ _ _ _ _ _ _ _) 19 rfl (fun u => (pw_A _ _ _ _ _ _ _ _ _ _ _ _).symm) (fun k1 hk => ⟨(hfin.2 k1 hk).1, (pw_A _ _ _ _ _ _ _ _ _ _ _ _).symm⟩)) ml_L_238 yf_L_stallOf rfl rfl ⟨Nat.le_of_ble_eq_true rfl, Nat.le_of_ble_eq_true rfl⟩ (by show cells + 1 ≤ 603072 ∧ slots + 6 ≤ 7198826; omega) hl.1 (Nat.le_of_ble_eq_true rfl) dL_law_1444 (fun r9 u9 H locs hp hw => ?_)
  obtain ⟨D', f', hw, e1, hs, e2⟩ : ∃ (D' : CD) (f' : Nat → Int64), WH G s (lC G o f' :: (dC G o2 f2 :: cW G K r D' (moW G mo U ++ []))) H locs ∧ r9 = ((mI U 2 (bI (!teB (U.2 0) (xs (i + 1)))), teV (U.2 0) (xs (i + 1)) 1)).1.1 2 ∧ Sm d D' ((mI U 2 (bI (!teB (U.2 0) (xs (i + 1)))), teV (U.2 0) (xs (i + 1)) 1)).1 ∧ (r9 = 0 → f' 0 = ((mI U 2 (bI (!teB (U.2 0) (xs (i + 1)))), teV (U.2 0) (xs (i + 1)) 1)).2.toInt64) := by
    rcases u9 with ⟨r1, u1⟩ | k1
    · obtain ⟨e, hp⟩ := hp
      obtain ⟨t1, t2, t3⟩ := hfin.1 r1 u1 hp
      exact ⟨_, _, hw, e.trans t1.symm, t3, fun _ => by rw [t2]; rfl⟩
    · obtain ⟨e, hp⟩ := hp
      obtain ⟨t0, t2, t3⟩ := hfin.2 k1 hp
      refine ⟨_, _, hw, e.trans t2, t3, fun e0 => ?_⟩
      exfalso
      rw [e] at e0
      rcases t0 with t0 <;> subst t0 <;> exact absurd e0 (by decide)
  refine lv_istore (lv' := (6, .int r9) :: lvL b (K 7 0) (mo 0) o o2 i) C.1 C.2.1 dL_law_1447 hl (by decide) rfl (fun ls hl => ?_)
  refine lv_aload_n C.1 C.2.1 dL_law_1449 rfl (lv_at hl 4 rfl) ?_
  refine law_arg C hX hbl hbA hw.2.1 (k := 1) (off := 1) (by omega) hL (lv_at hl 6 rfl) (lv_at hl 1 rfl) dL_law_1450 dL_law_1451 dL_law_1453 (by decide) dL_law_1454 dL_law_1455 ?_
  refine r_vi C (hw.perm (pw_M _ _ _ _ _ _ _ _ _ _ _ _ _)) (k12_stallOf hF (U := U) (mo := mo) h.okf (xs (i + 1))) ml_L_240 yf_X12_stallOf 0 rfl rfl (As := [.int (xs (i + 1))]) rfl rfl ⟨Nat.le_of_ble_eq_true rfl, Nat.le_of_ble_eq_true rfl⟩ (by show cells + 1 + 0 ≤ 603072 ∧ slots + 6 + 0 ≤ 7198826; omega) hl.1 (Nat.le_of_ble_eq_true rfl) dL_law_1456 (fun r3 _ H locs hp3 hw => ?_)
  exact law_tail C hw (k := r9) e1 (fun e => (e2 e).trans (by rw [hp3])) hl ⟨by omega, by omega⟩ dL_law_1459 dL_law_1461 dL_law_1462 dL_law_1465 dL_law_1467 dL_law_1472 dL_law_1474 dL_law_1477 dL_law_1478 dL_law_1479 dL_law_1480 dL_law_1482 dL_law_1483 dL_law_1484 dL_law_1489 (by decide) (fun ls H locs hl hw => W.widen (by omega) (by omega) (kk D' _ f' f2 ls H locs hs (hw.perm (pw_M _ _ _ _ _ _ _ _ _ _ _ _ _).symm) hl))
set_option maxHeartbeats 4000000 in
set_option maxRecDepth 100000 in
theorem lc_priceOf (C : Cx l G RL cL_law 9 ret p s m meth c #[Value.ref b]) (hX : va_X b L xs s s.heap) (hbl : b < s.heap.size) (hbA : ¬ gA G b) {c9 d : Int} {D : CD} {U : MV_} (h : Sm c9 D U) (hd : c9 + 60 ≤ d) (hd4 : d ≤ 40000) {i : Nat} (hi : i + 4 < L) (hL : L ≤ 2560) {K : Nat → Nat → Nat} {r : Nat → Nat → Nat} {mo : Nat → Nat} {o o2 : Nat} {f1 : Nat → Int64} {f2 : Nat → UInt64} (hw : WH G s (lC G o f1 :: (dC G o2 f2 :: cW G K r D (moW G mo U ++ []))) H locs) (hl : lv_has ls 9 (lvL b (K 7 0) (mo 0) o o2 i)) (hc : cells ≤ 400000 ∧ slots ≤ 4000000)
    (kk : ∀ (D' : CD) (U' : MV_) (f1' : Nat → Int64) (f2' : Nat → UInt64) (ls : Array Slot) (H : Heap) (locs : List Loc), Sm d D' U' → WH G s (lC G o f1' :: (dC G o2 f2' :: cW G K r D' (moW G mo U' ++ []))) H locs → lv_has ls 9 (lvL b (K 7 0) (mo 0) o o2 i) → W p l e room_1 s m #[Value.ref b] below meth c H locs (cells + 80) (slots + 600) Q (F0 m 2825 ls [])) : W p l e room_1 s m #[Value.ref b] below meth c H locs cells slots Q (F0 m 1555 ls []) := by
  have hF := C.2.2.2.2.2.2.2.2
  refine lv_aload_n C.1 C.2.1 dL_law_1555 rfl (lv_at hl 4 rfl) ?_
  refine law_arg C hX hbl hbA hw.2.1 (k := 1) (off := 1) (by omega) hL (lv_at hl 5 rfl) (lv_at hl 0 rfl) dL_law_1556 dL_law_1557 dL_law_1559 (by decide) dL_law_1560 dL_law_1561 ?_
  refine lv_aload_n C.1 C.2.1 dL_law_1562 rfl (lv_at hl 2 rfl) ?_
  have hfin := fin_priceOf (U := U) h hd hd4 (xs (i + 1))
  refine r_hsi C hw (w_priceOf hF (f := f1) (o := o) (wA := dC G o2 f2 :: cW G K r D (moW G mo U ++ [])) (WfA := fun u => dC G o2 f2 :: cW G K r (D) (moW G mo U ++ [])) (WxA := fun _ => dC G o2 f2 :: cW G K r (D) (moW G mo U ++ [])) (x11_priceOf hF (K := K) (S := D.S) (F := D.F) (X := YA G K r D (lC G o f1) (dC G o2 f2) (moW G mo U ++ [])) h.ok (xs (i + 1))) (pw_A _ _ _ _ _ _ _ _ _ _ _ _) 19 rfl (fun u => (pw_A _ _ _ _ _ _ _ _ _ _ _ _).symm) (fun k1 hk => ⟨(hfin.2 k1 hk).1, (pw_A _ _ _ _ _ _ _ _ _ _ _ _).symm⟩)) ml_L_244 yf_L_priceOf rfl rfl ⟨Nat.le_of_ble_eq_true rfl, Nat.le_of_ble_eq_true rfl⟩ (by show cells + 1 ≤ 603072 ∧ slots + 6 ≤ 7198826; omega) hl.1 (Nat.le_of_ble_eq_true rfl) dL_law_1563 (fun r9 u9 H locs hp hw => ?_)
  obtain ⟨D', f', hw, e1, hs, e2⟩ : ∃ (D' : CD) (f' : Nat → Int64), WH G s (lC G o f' :: (dC G o2 f2 :: cW G K r D' (moW G mo U ++ []))) H locs ∧ r9 = ((mI U 2 (bI (!teB (U.2 0) (xs (i + 1)))), teV (U.2 0) (xs (i + 1)) 3)).1.1 2 ∧ Sm d D' ((mI U 2 (bI (!teB (U.2 0) (xs (i + 1)))), teV (U.2 0) (xs (i + 1)) 3)).1 ∧ (r9 = 0 → f' 0 = ((mI U 2 (bI (!teB (U.2 0) (xs (i + 1)))), teV (U.2 0) (xs (i + 1)) 3)).2.toInt64) := by
    rcases u9 with ⟨r1, u1⟩ | k1
    · obtain ⟨e, hp⟩ := hp
      obtain ⟨t1, t2, t3⟩ := hfin.1 r1 u1 hp
      exact ⟨_, _, hw, e.trans t1.symm, t3, fun _ => by rw [t2]; rfl⟩
    · obtain ⟨e, hp⟩ := hp
      obtain ⟨t0, t2, t3⟩ := hfin.2 k1 hp
      refine ⟨_, _, hw, e.trans t2, t3, fun e0 => ?_⟩
      exfalso
      rw [e] at e0
      rcases t0 with t0 <;> subst t0 <;> exact absurd e0 (by decide)
  refine lv_istore (lv' := (6, .int r9) :: lvL b (K 7 0) (mo 0) o o2 i) C.1 C.2.1 dL_law_1566 hl (by decide) rfl (fun ls hl => ?_)
  refine lv_aload_n C.1 C.2.1 dL_law_1568 rfl (lv_at hl 4 rfl) ?_
  refine law_arg C hX hbl hbA hw.2.1 (k := 1) (off := 1) (by omega) hL (lv_at hl 6 rfl) (lv_at hl 1 rfl) dL_law_1569 dL_law_1570 dL_law_1572 (by decide) dL_law_1573 dL_law_1574 ?_
  refine r_vi C (hw.perm (pw_M _ _ _ _ _ _ _ _ _ _ _ _ _)) (k12_priceOf hF (U := U) (mo := mo) h.okf (xs (i + 1))) ml_L_246 yf_X12_priceOf 0 rfl rfl (As := [.int (xs (i + 1))]) rfl rfl ⟨Nat.le_of_ble_eq_true rfl, Nat.le_of_ble_eq_true rfl⟩ (by show cells + 1 + 0 ≤ 603072 ∧ slots + 6 + 0 ≤ 7198826; omega) hl.1 (Nat.le_of_ble_eq_true rfl) dL_law_1575 (fun r3 _ H locs hp3 hw => ?_)
  exact law_tail C hw (k := r9) e1 (fun e => (e2 e).trans (by rw [hp3])) hl ⟨by omega, by omega⟩ dL_law_1578 dL_law_1580 dL_law_1581 dL_law_1584 dL_law_1586 dL_law_1591 dL_law_1593 dL_law_1596 dL_law_1597 dL_law_1598 dL_law_1599 dL_law_1601 dL_law_1602 dL_law_1603 dL_law_1608 (by decide) (fun ls H locs hl hw => W.widen (by omega) (by omega) (kk D' _ f' f2 ls H locs hs (hw.perm (pw_M _ _ _ _ _ _ _ _ _ _ _ _ _).symm) hl))
set_option maxHeartbeats 4000000 in
set_option maxRecDepth 100000 in
theorem lc_quantityOf (C : Cx l G RL cL_law 9 ret p s m meth c #[Value.ref b]) (hX : va_X b L xs s s.heap) (hbl : b < s.heap.size) (hbA : ¬ gA G b) {c9 d : Int} {D : CD} {U : MV_} (h : Sm c9 D U) (hd : c9 + 60 ≤ d) (hd4 : d ≤ 40000) {i : Nat} (hi : i + 4 < L) (hL : L ≤ 2560) {K : Nat → Nat → Nat} {r : Nat → Nat → Nat} {mo : Nat → Nat} {o o2 : Nat} {f1 : Nat → Int64} {f2 : Nat → UInt64} (hw : WH G s (lC G o f1 :: (dC G o2 f2 :: cW G K r D (moW G mo U ++ []))) H locs) (hl : lv_has ls 9 (lvL b (K 7 0) (mo 0) o o2 i)) (hc : cells ≤ 400000 ∧ slots ≤ 4000000)
    (kk : ∀ (D' : CD) (U' : MV_) (f1' : Nat → Int64) (f2' : Nat → UInt64) (ls : Array Slot) (H : Heap) (locs : List Loc), Sm d D' U' → WH G s (lC G o f1' :: (dC G o2 f2' :: cW G K r D' (moW G mo U' ++ []))) H locs → lv_has ls 9 (lvL b (K 7 0) (mo 0) o o2 i) → W p l e room_1 s m #[Value.ref b] below meth c H locs (cells + 80) (slots + 600) Q (F0 m 2825 ls [])) : W p l e room_1 s m #[Value.ref b] below meth c H locs cells slots Q (F0 m 1611 ls []) := by
  have hF := C.2.2.2.2.2.2.2.2
  refine lv_aload_n C.1 C.2.1 dL_law_1611 rfl (lv_at hl 4 rfl) ?_
  refine law_arg C hX hbl hbA hw.2.1 (k := 1) (off := 1) (by omega) hL (lv_at hl 5 rfl) (lv_at hl 0 rfl) dL_law_1612 dL_law_1613 dL_law_1615 (by decide) dL_law_1616 dL_law_1617 ?_
  refine lv_aload_n C.1 C.2.1 dL_law_1618 rfl (lv_at hl 2 rfl) ?_
  have hfin := fin_quantityOf (U := U) h hd hd4 (xs (i + 1))
  refine r_hsi C hw (w_quantityOf hF (f := f1) (o := o) (wA := dC G o2 f2 :: cW G K r D (moW G mo U ++ [])) (WfA := fun u => dC G o2 f2 :: cW G K r (D) (moW G mo U ++ [])) (WxA := fun _ => dC G o2 f2 :: cW G K r (D) (moW G mo U ++ [])) (x11_quantityOf hF (K := K) (S := D.S) (F := D.F) (X := YA G K r D (lC G o f1) (dC G o2 f2) (moW G mo U ++ [])) h.ok (xs (i + 1))) (pw_A _ _ _ _ _ _ _ _ _ _ _ _) 19 rfl (fun u => (pw_A _ _ _ _ _ _ _ _ _ _ _ _).symm) (fun k1 hk => ⟨(hfin.2 k1 hk).1, (pw_A _ _ _ _ _ _ _ _ _ _ _ _).symm⟩)) ml_L_247 yf_L_quantityOf rfl rfl ⟨Nat.le_of_ble_eq_true rfl, Nat.le_of_ble_eq_true rfl⟩ (by show cells + 1 ≤ 603072 ∧ slots + 6 ≤ 7198826; omega) hl.1 (Nat.le_of_ble_eq_true rfl) dL_law_1619 (fun r9 u9 H locs hp hw => ?_)
  obtain ⟨D', f', hw, e1, hs, e2⟩ : ∃ (D' : CD) (f' : Nat → Int64), WH G s (lC G o f' :: (dC G o2 f2 :: cW G K r D' (moW G mo U ++ []))) H locs ∧ r9 = ((mI U 2 (bI (!teB (U.2 0) (xs (i + 1)))), teV (U.2 0) (xs (i + 1)) 4)).1.1 2 ∧ Sm d D' ((mI U 2 (bI (!teB (U.2 0) (xs (i + 1)))), teV (U.2 0) (xs (i + 1)) 4)).1 ∧ (r9 = 0 → f' 0 = ((mI U 2 (bI (!teB (U.2 0) (xs (i + 1)))), teV (U.2 0) (xs (i + 1)) 4)).2.toInt64) := by
    rcases u9 with ⟨r1, u1⟩ | k1
    · obtain ⟨e, hp⟩ := hp
      obtain ⟨t1, t2, t3⟩ := hfin.1 r1 u1 hp
      exact ⟨_, _, hw, e.trans t1.symm, t3, fun _ => by rw [t2]; rfl⟩
    · obtain ⟨e, hp⟩ := hp
      obtain ⟨t0, t2, t3⟩ := hfin.2 k1 hp
      refine ⟨_, _, hw, e.trans t2, t3, fun e0 => ?_⟩
      exfalso
      rw [e] at e0
      rcases t0 with t0 <;> subst t0 <;> exact absurd e0 (by decide)
  refine lv_istore (lv' := (6, .int r9) :: lvL b (K 7 0) (mo 0) o o2 i) C.1 C.2.1 dL_law_1622 hl (by decide) rfl (fun ls hl => ?_)
  refine lv_aload_n C.1 C.2.1 dL_law_1624 rfl (lv_at hl 4 rfl) ?_
  refine law_arg C hX hbl hbA hw.2.1 (k := 1) (off := 1) (by omega) hL (lv_at hl 6 rfl) (lv_at hl 1 rfl) dL_law_1625 dL_law_1626 dL_law_1628 (by decide) dL_law_1629 dL_law_1630 ?_
  refine r_vi C (hw.perm (pw_M _ _ _ _ _ _ _ _ _ _ _ _ _)) (k12_quantityOf hF (U := U) (mo := mo) h.okf (xs (i + 1))) ml_L_249 yf_X12_quantityOf 0 rfl rfl (As := [.int (xs (i + 1))]) rfl rfl ⟨Nat.le_of_ble_eq_true rfl, Nat.le_of_ble_eq_true rfl⟩ (by show cells + 1 + 0 ≤ 603072 ∧ slots + 6 + 0 ≤ 7198826; omega) hl.1 (Nat.le_of_ble_eq_true rfl) dL_law_1631 (fun r3 _ H locs hp3 hw => ?_)
  exact law_tail C hw (k := r9) e1 (fun e => (e2 e).trans (by rw [hp3])) hl ⟨by omega, by omega⟩ dL_law_1634 dL_law_1636 dL_law_1637 dL_law_1640 dL_law_1642 dL_law_1647 dL_law_1649 dL_law_1652 dL_law_1653 dL_law_1654 dL_law_1655 dL_law_1657 dL_law_1658 dL_law_1659 dL_law_1664 (by decide) (fun ls H locs hl hw => W.widen (by omega) (by omega) (kk D' _ f' f2 ls H locs hs (hw.perm (pw_M _ _ _ _ _ _ _ _ _ _ _ _ _).symm) hl))
set_option maxHeartbeats 4000000 in
set_option maxRecDepth 100000 in
theorem lc_minutesLeft (C : Cx l G RL cL_law 9 ret p s m meth c #[Value.ref b]) (hX : va_X b L xs s s.heap) (hbl : b < s.heap.size) (hbA : ¬ gA G b) {c9 d : Int} {D : CD} {U : MV_} (h : Sm c9 D U) (hd : c9 + 60 ≤ d) (hd4 : d ≤ 40000) {i : Nat} (hi : i + 4 < L) (hL : L ≤ 2560) {K : Nat → Nat → Nat} {r : Nat → Nat → Nat} {mo : Nat → Nat} {o o2 : Nat} {f1 : Nat → Int64} {f2 : Nat → UInt64} (hw : WH G s (lC G o f1 :: (dC G o2 f2 :: cW G K r D (moW G mo U ++ []))) H locs) (hl : lv_has ls 9 (lvL b (K 7 0) (mo 0) o o2 i)) (hc : cells ≤ 400000 ∧ slots ≤ 4000000)
    (kk : ∀ (D' : CD) (U' : MV_) (f1' : Nat → Int64) (f2' : Nat → UInt64) (ls : Array Slot) (H : Heap) (locs : List Loc), Sm d D' U' → WH G s (lC G o f1' :: (dC G o2 f2' :: cW G K r D' (moW G mo U' ++ []))) H locs → lv_has ls 9 (lvL b (K 7 0) (mo 0) o o2 i) → W p l e room_1 s m #[Value.ref b] below meth c H locs (cells + 80) (slots + 600) Q (F0 m 2825 ls [])) : W p l e room_1 s m #[Value.ref b] below meth c H locs cells slots Q (F0 m 1667 ls []) := by
  have hF := C.2.2.2.2.2.2.2.2
  refine lv_aload_n C.1 C.2.1 dL_law_1667 rfl (lv_at hl 4 rfl) ?_
  refine law_arg C hX hbl hbA hw.2.1 (k := 1) (off := 1) (by omega) hL (lv_at hl 5 rfl) (lv_at hl 0 rfl) dL_law_1668 dL_law_1669 dL_law_1671 (by decide) dL_law_1672 dL_law_1673 ?_
  refine lv_aload_n C.1 C.2.1 dL_law_1674 rfl (lv_at hl 2 rfl) ?_
  have hfin := fin_minutesLeft (U := U) h hd hd4 (xs (i + 1))
  refine r_hsi C hw (w_minutesLeft hF (f := f1) (o := o) (wA := dC G o2 f2 :: cW G K r D (moW G mo U ++ [])) (WfA := fun u => dC G o2 f2 :: cW G K r (D) (moW G mo U ++ [])) (WxA := fun _ => dC G o2 f2 :: cW G K r (D) (moW G mo U ++ [])) (x11_minutesLeft hF (K := K) (S := D.S) (F := D.F) (X := YA G K r D (lC G o f1) (dC G o2 f2) (moW G mo U ++ [])) h.ok (xs (i + 1))) (pw_A _ _ _ _ _ _ _ _ _ _ _ _) 19 rfl (fun u => (pw_A _ _ _ _ _ _ _ _ _ _ _ _).symm) (fun k1 hk => ⟨(hfin.2 k1 hk).1, (pw_A _ _ _ _ _ _ _ _ _ _ _ _).symm⟩)) ml_L_250 yf_L_minutesLeft rfl rfl ⟨Nat.le_of_ble_eq_true rfl, Nat.le_of_ble_eq_true rfl⟩ (by show cells + 2 ≤ 603072 ∧ slots + 12 ≤ 7198826; omega) hl.1 (Nat.le_of_ble_eq_true rfl) dL_law_1675 (fun r9 u9 H locs hp hw => ?_)
  obtain ⟨D', f', hw, e1, hs, e2⟩ : ∃ (D' : CD) (f' : Nat → Int64), WH G s (lC G o f' :: (dC G o2 f2 :: cW G K r D' (moW G mo U ++ []))) H locs ∧ r9 = ((mI U 2 (miT (U.2 0) (xs (i + 1))), teV (U.2 0) (xs (i + 1)) 5)).1.1 2 ∧ Sm d D' ((mI U 2 (miT (U.2 0) (xs (i + 1))), teV (U.2 0) (xs (i + 1)) 5)).1 ∧ (r9 = 0 → f' 0 = ((mI U 2 (miT (U.2 0) (xs (i + 1))), teV (U.2 0) (xs (i + 1)) 5)).2.toInt64) := by
    rcases u9 with ⟨r1, u1⟩ | k1
    · obtain ⟨e, hp⟩ := hp
      obtain ⟨t1, t2, t3⟩ := hfin.1 r1 u1 hp
      exact ⟨_, _, hw, e.trans t1.symm, t3, fun _ => by rw [t2]; rfl⟩
    · obtain ⟨e, hp⟩ := hp
      obtain ⟨t0, t2, t3⟩ := hfin.2 k1 hp
      refine ⟨_, _, hw, e.trans t2, t3, fun e0 => ?_⟩
      exfalso
      rw [e] at e0
      rcases t0 with t0 | t0 <;> subst t0 <;> exact absurd e0 (by decide)
  refine lv_istore (lv' := (6, .int r9) :: lvL b (K 7 0) (mo 0) o o2 i) C.1 C.2.1 dL_law_1678 hl (by decide) rfl (fun ls hl => ?_)
  refine lv_aload_n C.1 C.2.1 dL_law_1680 rfl (lv_at hl 4 rfl) ?_
  refine law_arg C hX hbl hbA hw.2.1 (k := 1) (off := 1) (by omega) hL (lv_at hl 6 rfl) (lv_at hl 1 rfl) dL_law_1681 dL_law_1682 dL_law_1684 (by decide) dL_law_1685 dL_law_1686 ?_
  refine r_vi C (hw.perm (pw_M _ _ _ _ _ _ _ _ _ _ _ _ _)) (k12_minutesLeft hF (U := U) (mo := mo) h.okf (xs (i + 1))) ml_L_252 yf_X12_minutesLeft 0 rfl rfl (As := [.int (xs (i + 1))]) rfl rfl ⟨Nat.le_of_ble_eq_true rfl, Nat.le_of_ble_eq_true rfl⟩ (by show cells + 2 + 0 ≤ 603072 ∧ slots + 12 + 0 ≤ 7198826; omega) hl.1 (Nat.le_of_ble_eq_true rfl) dL_law_1687 (fun r3 _ H locs hp3 hw => ?_)
  exact law_tail C hw (k := r9) e1 (fun e => (e2 e).trans (by rw [hp3])) hl ⟨by omega, by omega⟩ dL_law_1690 dL_law_1692 dL_law_1693 dL_law_1696 dL_law_1698 dL_law_1703 dL_law_1705 dL_law_1708 dL_law_1709 dL_law_1710 dL_law_1711 dL_law_1713 dL_law_1714 dL_law_1715 dL_law_1720 (by decide) (fun ls H locs hl hw => W.widen (by omega) (by omega) (kk D' _ f' f2 ls H locs hs (hw.perm (pw_M _ _ _ _ _ _ _ _ _ _ _ _ _).symm) hl))
set_option maxHeartbeats 4000000 in
set_option maxRecDepth 100000 in
theorem lc_bestBuy (C : Cx l G RL cL_law 9 ret p s m meth c #[Value.ref b]) (hX : va_X b L xs s s.heap) (hbl : b < s.heap.size) (hbA : ¬ gA G b) {c9 d : Int} {D : CD} {U : MV_} (h : Sm c9 D U) (hd : c9 + 60 ≤ d) (hd4 : d ≤ 40000) {i : Nat} (hi : i + 4 < L) (hL : L ≤ 2560) {K : Nat → Nat → Nat} {r : Nat → Nat → Nat} {mo : Nat → Nat} {o o2 : Nat} {f1 : Nat → Int64} {f2 : Nat → UInt64} (hw : WH G s (lC G o f1 :: (dC G o2 f2 :: cW G K r D (moW G mo U ++ []))) H locs) (hl : lv_has ls 9 (lvL b (K 7 0) (mo 0) o o2 i)) (hc : cells ≤ 400000 ∧ slots ≤ 4000000)
    (kk : ∀ (D' : CD) (U' : MV_) (f1' : Nat → Int64) (f2' : Nat → UInt64) (ls : Array Slot) (H : Heap) (locs : List Loc), Sm d D' U' → WH G s (lC G o f1' :: (dC G o2 f2' :: cW G K r D' (moW G mo U' ++ []))) H locs → lv_has ls 9 (lvL b (K 7 0) (mo 0) o o2 i) → W p l e room_1 s m #[Value.ref b] below meth c H locs (cells + 80) (slots + 600) Q (F0 m 2825 ls [])) : W p l e room_1 s m #[Value.ref b] below meth c H locs cells slots Q (F0 m 1723 ls []) := by
  have hF := C.2.2.2.2.2.2.2.2
  refine lv_aload_n C.1 C.2.1 dL_law_1723 rfl (lv_at hl 4 rfl) ?_
  refine lv_aload_n C.1 C.2.1 dL_law_1724 rfl (lv_at hl 2 rfl) ?_
  have hfin := fin_bestBuy (U := U) h hd hd4 
  refine r_hsi C hw (w_bestBuy hF (f := f1) (o := o) (wA := dC G o2 f2 :: cW G K r D (moW G mo U ++ [])) (WfA := fun u => dC G o2 f2 :: cW G K r (D) (moW G mo U ++ [])) (WxA := fun _ => dC G o2 f2 :: cW G K r (D) (moW G mo U ++ [])) (x11_bestBuy hF (K := K) (S := D.S) (F := D.F) (X := YA G K r D (lC G o f1) (dC G o2 f2) (moW G mo U ++ [])) h.ok ) (pw_A _ _ _ _ _ _ _ _ _ _ _ _) 19 rfl (fun u => (pw_A _ _ _ _ _ _ _ _ _ _ _ _).symm) (fun k1 hk => ⟨(hfin.2 k1 hk).1, (pw_A _ _ _ _ _ _ _ _ _ _ _ _).symm⟩)) ml_L_253 yf_L_bestBuy rfl rfl ⟨Nat.le_of_ble_eq_true rfl, Nat.le_of_ble_eq_true rfl⟩ (by show cells + 1 ≤ 603072 ∧ slots + 6 ≤ 7198826; omega) hl.1 (Nat.le_of_ble_eq_true rfl) dL_law_1725 (fun r9 u9 H locs hp hw => ?_)
  obtain ⟨D', f', hw, e1, hs, e2⟩ : ∃ (D' : CD) (f' : Nat → Int64), WH G s (lC G o f' :: (dC G o2 f2 :: cW G K r D' (moW G mo U ++ []))) H locs ∧ r9 = ((mI U 2 (bI (!beB (U.2 0) true)), beV (U.2 0) true 0)).1.1 2 ∧ Sm d D' ((mI U 2 (bI (!beB (U.2 0) true)), beV (U.2 0) true 0)).1 ∧ (r9 = 0 → f' 0 = ((mI U 2 (bI (!beB (U.2 0) true)), beV (U.2 0) true 0)).2.toInt64) := by
    rcases u9 with ⟨r1, u1⟩ | k1
    · obtain ⟨e, hp⟩ := hp
      obtain ⟨t1, t2, t3⟩ := hfin.1 r1 u1 hp
      exact ⟨_, _, hw, e.trans t1.symm, t3, fun _ => by rw [t2]; rfl⟩
    · obtain ⟨e, hp⟩ := hp
      obtain ⟨t0, t2, t3⟩ := hfin.2 k1 hp
      refine ⟨_, _, hw, e.trans t2, t3, fun e0 => ?_⟩
      exfalso
      rw [e] at e0
      rcases t0 with t0 <;> subst t0 <;> exact absurd e0 (by decide)
  refine lv_istore (lv' := (6, .int r9) :: lvL b (K 7 0) (mo 0) o o2 i) C.1 C.2.1 dL_law_1728 hl (by decide) rfl (fun ls hl => ?_)
  refine lv_aload_n C.1 C.2.1 dL_law_1730 rfl (lv_at hl 4 rfl) ?_
  refine r_vi C (hw.perm (pw_M _ _ _ _ _ _ _ _ _ _ _ _ _)) (k12_bestBuy hF (U := U) (mo := mo) h.okf ) ml_L_255 yf_X12_bestBuy 0 rfl rfl (As := []) rfl rfl ⟨Nat.le_of_ble_eq_true rfl, Nat.le_of_ble_eq_true rfl⟩ (by show cells + 1 + 0 ≤ 603072 ∧ slots + 6 + 0 ≤ 7198826; omega) hl.1 (Nat.le_of_ble_eq_true rfl) dL_law_1731 (fun r3 _ H locs hp3 hw => ?_)
  exact law_tail C hw (k := r9) e1 (fun e => (e2 e).trans (by rw [hp3])) hl ⟨by omega, by omega⟩ dL_law_1734 dL_law_1736 dL_law_1737 dL_law_1740 dL_law_1742 dL_law_1747 dL_law_1749 dL_law_1752 dL_law_1753 dL_law_1754 dL_law_1755 dL_law_1757 dL_law_1758 dL_law_1759 dL_law_1764 (by decide) (fun ls H locs hl hw => W.widen (by omega) (by omega) (kk D' _ f' f2 ls H locs hs (hw.perm (pw_M _ _ _ _ _ _ _ _ _ _ _ _ _).symm) hl))
set_option maxHeartbeats 4000000 in
set_option maxRecDepth 100000 in
theorem lc_bestSell (C : Cx l G RL cL_law 9 ret p s m meth c #[Value.ref b]) (hX : va_X b L xs s s.heap) (hbl : b < s.heap.size) (hbA : ¬ gA G b) {c9 d : Int} {D : CD} {U : MV_} (h : Sm c9 D U) (hd : c9 + 60 ≤ d) (hd4 : d ≤ 40000) {i : Nat} (hi : i + 4 < L) (hL : L ≤ 2560) {K : Nat → Nat → Nat} {r : Nat → Nat → Nat} {mo : Nat → Nat} {o o2 : Nat} {f1 : Nat → Int64} {f2 : Nat → UInt64} (hw : WH G s (lC G o f1 :: (dC G o2 f2 :: cW G K r D (moW G mo U ++ []))) H locs) (hl : lv_has ls 9 (lvL b (K 7 0) (mo 0) o o2 i)) (hc : cells ≤ 400000 ∧ slots ≤ 4000000)
    (kk : ∀ (D' : CD) (U' : MV_) (f1' : Nat → Int64) (f2' : Nat → UInt64) (ls : Array Slot) (H : Heap) (locs : List Loc), Sm d D' U' → WH G s (lC G o f1' :: (dC G o2 f2' :: cW G K r D' (moW G mo U' ++ []))) H locs → lv_has ls 9 (lvL b (K 7 0) (mo 0) o o2 i) → W p l e room_1 s m #[Value.ref b] below meth c H locs (cells + 80) (slots + 600) Q (F0 m 2825 ls [])) : W p l e room_1 s m #[Value.ref b] below meth c H locs cells slots Q (F0 m 1767 ls []) := by
  have hF := C.2.2.2.2.2.2.2.2
  refine lv_aload_n C.1 C.2.1 dL_law_1767 rfl (lv_at hl 4 rfl) ?_
  refine lv_aload_n C.1 C.2.1 dL_law_1768 rfl (lv_at hl 2 rfl) ?_
  have hfin := fin_bestSell (U := U) h hd hd4 
  refine r_hsi C hw (w_bestSell hF (f := f1) (o := o) (wA := dC G o2 f2 :: cW G K r D (moW G mo U ++ [])) (WfA := fun u => dC G o2 f2 :: cW G K r (D) (moW G mo U ++ [])) (WxA := fun _ => dC G o2 f2 :: cW G K r (D) (moW G mo U ++ [])) (x11_bestSell hF (K := K) (S := D.S) (F := D.F) (X := YA G K r D (lC G o f1) (dC G o2 f2) (moW G mo U ++ [])) h.ok ) (pw_A _ _ _ _ _ _ _ _ _ _ _ _) 19 rfl (fun u => (pw_A _ _ _ _ _ _ _ _ _ _ _ _).symm) (fun k1 hk => ⟨(hfin.2 k1 hk).1, (pw_A _ _ _ _ _ _ _ _ _ _ _ _).symm⟩)) ml_L_256 yf_L_bestSell rfl rfl ⟨Nat.le_of_ble_eq_true rfl, Nat.le_of_ble_eq_true rfl⟩ (by show cells + 1 ≤ 603072 ∧ slots + 6 ≤ 7198826; omega) hl.1 (Nat.le_of_ble_eq_true rfl) dL_law_1769 (fun r9 u9 H locs hp hw => ?_)
  obtain ⟨D', f', hw, e1, hs, e2⟩ : ∃ (D' : CD) (f' : Nat → Int64), WH G s (lC G o f' :: (dC G o2 f2 :: cW G K r D' (moW G mo U ++ []))) H locs ∧ r9 = ((mI U 2 (bI (!beB (U.2 0) false)), beV (U.2 0) false 0)).1.1 2 ∧ Sm d D' ((mI U 2 (bI (!beB (U.2 0) false)), beV (U.2 0) false 0)).1 ∧ (r9 = 0 → f' 0 = ((mI U 2 (bI (!beB (U.2 0) false)), beV (U.2 0) false 0)).2.toInt64) := by
    rcases u9 with ⟨r1, u1⟩ | k1
    · obtain ⟨e, hp⟩ := hp
      obtain ⟨t1, t2, t3⟩ := hfin.1 r1 u1 hp
      exact ⟨_, _, hw, e.trans t1.symm, t3, fun _ => by rw [t2]; rfl⟩
    · obtain ⟨e, hp⟩ := hp
      obtain ⟨t0, t2, t3⟩ := hfin.2 k1 hp
      refine ⟨_, _, hw, e.trans t2, t3, fun e0 => ?_⟩
      exfalso
      rw [e] at e0
      rcases t0 with t0 <;> subst t0 <;> exact absurd e0 (by decide)
  refine lv_istore (lv' := (6, .int r9) :: lvL b (K 7 0) (mo 0) o o2 i) C.1 C.2.1 dL_law_1772 hl (by decide) rfl (fun ls hl => ?_)
  refine lv_aload_n C.1 C.2.1 dL_law_1774 rfl (lv_at hl 4 rfl) ?_
  refine r_vi C (hw.perm (pw_M _ _ _ _ _ _ _ _ _ _ _ _ _)) (k12_bestSell hF (U := U) (mo := mo) h.okf ) ml_L_258 yf_X12_bestSell 0 rfl rfl (As := []) rfl rfl ⟨Nat.le_of_ble_eq_true rfl, Nat.le_of_ble_eq_true rfl⟩ (by show cells + 1 + 0 ≤ 603072 ∧ slots + 6 + 0 ≤ 7198826; omega) hl.1 (Nat.le_of_ble_eq_true rfl) dL_law_1775 (fun r3 _ H locs hp3 hw => ?_)
  exact law_tail C hw (k := r9) e1 (fun e => (e2 e).trans (by rw [hp3])) hl ⟨by omega, by omega⟩ dL_law_1778 dL_law_1780 dL_law_1781 dL_law_1784 dL_law_1786 dL_law_1791 dL_law_1793 dL_law_1796 dL_law_1797 dL_law_1798 dL_law_1799 dL_law_1801 dL_law_1802 dL_law_1803 dL_law_1808 (by decide) (fun ls H locs hl hw => W.widen (by omega) (by omega) (kk D' _ f' f2 ls H locs hs (hw.perm (pw_M _ _ _ _ _ _ _ _ _ _ _ _ _).symm) hl))
set_option maxHeartbeats 4000000 in
set_option maxRecDepth 100000 in
theorem lc_spread (C : Cx l G RL cL_law 9 ret p s m meth c #[Value.ref b]) (hX : va_X b L xs s s.heap) (hbl : b < s.heap.size) (hbA : ¬ gA G b) {c9 d : Int} {D : CD} {U : MV_} (h : Sm c9 D U) (hd : c9 + 60 ≤ d) (hd4 : d ≤ 40000) {i : Nat} (hi : i + 4 < L) (hL : L ≤ 2560) {K : Nat → Nat → Nat} {r : Nat → Nat → Nat} {mo : Nat → Nat} {o o2 : Nat} {f1 : Nat → Int64} {f2 : Nat → UInt64} (hw : WH G s (lC G o f1 :: (dC G o2 f2 :: cW G K r D (moW G mo U ++ []))) H locs) (hl : lv_has ls 9 (lvL b (K 7 0) (mo 0) o o2 i)) (hc : cells ≤ 400000 ∧ slots ≤ 4000000)
    (kk : ∀ (D' : CD) (U' : MV_) (f1' : Nat → Int64) (f2' : Nat → UInt64) (ls : Array Slot) (H : Heap) (locs : List Loc), Sm d D' U' → WH G s (lC G o f1' :: (dC G o2 f2' :: cW G K r D' (moW G mo U' ++ []))) H locs → lv_has ls 9 (lvL b (K 7 0) (mo 0) o o2 i) → W p l e room_1 s m #[Value.ref b] below meth c H locs (cells + 80) (slots + 600) Q (F0 m 2825 ls [])) : W p l e room_1 s m #[Value.ref b] below meth c H locs cells slots Q (F0 m 1811 ls []) := by
  have hF := C.2.2.2.2.2.2.2.2
  refine lv_aload_n C.1 C.2.1 dL_law_1811 rfl (lv_at hl 4 rfl) ?_
  refine lv_aload_n C.1 C.2.1 dL_law_1812 rfl (lv_at hl 2 rfl) ?_
  have hfin := fin_spread (U := U) h hd hd4 
  refine r_hsi C hw (w_spread hF (f := f1) (o := o) (wA := dC G o2 f2 :: cW G K r D (moW G mo U ++ [])) (WfA := fun u => dC G o2 f2 :: cW G K r (D) (moW G mo U ++ [])) (WxA := fun _ => dC G o2 f2 :: cW G K r (D) (moW G mo U ++ [])) (x11_spread hF (K := K) (S := D.S) (F := D.F) (X := YA G K r D (lC G o f1) (dC G o2 f2) (moW G mo U ++ [])) h.ok ) (pw_A _ _ _ _ _ _ _ _ _ _ _ _) 19 rfl (fun u => (pw_A _ _ _ _ _ _ _ _ _ _ _ _).symm) (fun k1 hk => ⟨(hfin.2 k1 hk).1, (pw_A _ _ _ _ _ _ _ _ _ _ _ _).symm⟩)) ml_L_259 yf_L_spread rfl rfl ⟨Nat.le_of_ble_eq_true rfl, Nat.le_of_ble_eq_true rfl⟩ (by show cells + 1 ≤ 603072 ∧ slots + 6 ≤ 7198826; omega) hl.1 (Nat.le_of_ble_eq_true rfl) dL_law_1813 (fun r9 u9 H locs hp hw => ?_)
  obtain ⟨D', f', hw, e1, hs, e2⟩ : ∃ (D' : CD) (f' : Nat → Int64), WH G s (lC G o f' :: (dC G o2 f2 :: cW G K r D' (moW G mo U ++ []))) H locs ∧ r9 = ((mI U 2 (bI (!spB (U.2 0))), spV (U.2 0))).1.1 2 ∧ Sm d D' ((mI U 2 (bI (!spB (U.2 0))), spV (U.2 0))).1 ∧ (r9 = 0 → f' 0 = ((mI U 2 (bI (!spB (U.2 0))), spV (U.2 0))).2.toInt64) := by
    rcases u9 with ⟨r1, u1⟩ | k1
    · obtain ⟨e, hp⟩ := hp
      obtain ⟨t1, t2, t3⟩ := hfin.1 r1 u1 hp
      exact ⟨_, _, hw, e.trans t1.symm, t3, fun _ => by rw [t2]; rfl⟩
    · obtain ⟨e, hp⟩ := hp
      obtain ⟨t0, t2, t3⟩ := hfin.2 k1 hp
      refine ⟨_, _, hw, e.trans t2, t3, fun e0 => ?_⟩
      exfalso
      rw [e] at e0
      rcases t0 with t0 <;> subst t0 <;> exact absurd e0 (by decide)
  refine lv_istore (lv' := (6, .int r9) :: lvL b (K 7 0) (mo 0) o o2 i) C.1 C.2.1 dL_law_1816 hl (by decide) rfl (fun ls hl => ?_)
  refine lv_aload_n C.1 C.2.1 dL_law_1818 rfl (lv_at hl 4 rfl) ?_
  refine r_vi C (hw.perm (pw_M _ _ _ _ _ _ _ _ _ _ _ _ _)) (k12_spread hF (U := U) (mo := mo) h.okf ) ml_L_261 yf_X12_spread 0 rfl rfl (As := []) rfl rfl ⟨Nat.le_of_ble_eq_true rfl, Nat.le_of_ble_eq_true rfl⟩ (by show cells + 1 + 0 ≤ 603072 ∧ slots + 6 + 0 ≤ 7198826; omega) hl.1 (Nat.le_of_ble_eq_true rfl) dL_law_1819 (fun r3 _ H locs hp3 hw => ?_)
  exact law_tail C hw (k := r9) e1 (fun e => (e2 e).trans (by rw [hp3])) hl ⟨by omega, by omega⟩ dL_law_1822 dL_law_1824 dL_law_1825 dL_law_1828 dL_law_1830 dL_law_1835 dL_law_1837 dL_law_1840 dL_law_1841 dL_law_1842 dL_law_1843 dL_law_1845 dL_law_1846 dL_law_1847 dL_law_1852 (by decide) (fun ls H locs hl hw => W.widen (by omega) (by omega) (kk D' _ f' f2 ls H locs hs (hw.perm (pw_M _ _ _ _ _ _ _ _ _ _ _ _ _).symm) hl))
set_option maxHeartbeats 4000000 in
set_option maxRecDepth 100000 in
theorem lc_spreadBySums (C : Cx l G RL cL_law 9 ret p s m meth c #[Value.ref b]) (hX : va_X b L xs s s.heap) (hbl : b < s.heap.size) (hbA : ¬ gA G b) {c9 d : Int} {D : CD} {U : MV_} (h : Sm c9 D U) (hd : c9 + 60 ≤ d) (hd4 : d ≤ 40000) {i : Nat} (hi : i + 4 < L) (hL : L ≤ 2560) {K : Nat → Nat → Nat} {r : Nat → Nat → Nat} {mo : Nat → Nat} {o o2 : Nat} {f1 : Nat → Int64} {f2 : Nat → UInt64} (hw : WH G s (lC G o f1 :: (dC G o2 f2 :: cW G K r D (moW G mo U ++ []))) H locs) (hl : lv_has ls 9 (lvL b (K 7 0) (mo 0) o o2 i)) (hc : cells ≤ 400000 ∧ slots ≤ 4000000)
    (kk : ∀ (D' : CD) (U' : MV_) (f1' : Nat → Int64) (f2' : Nat → UInt64) (ls : Array Slot) (H : Heap) (locs : List Loc), Sm d D' U' → WH G s (lC G o f1' :: (dC G o2 f2' :: cW G K r D' (moW G mo U' ++ []))) H locs → lv_has ls 9 (lvL b (K 7 0) (mo 0) o o2 i) → W p l e room_1 s m #[Value.ref b] below meth c H locs (cells + 80) (slots + 600) Q (F0 m 2825 ls [])) : W p l e room_1 s m #[Value.ref b] below meth c H locs cells slots Q (F0 m 1855 ls []) := by
  have hF := C.2.2.2.2.2.2.2.2
  refine lv_aload_n C.1 C.2.1 dL_law_1855 rfl (lv_at hl 4 rfl) ?_
  refine lv_aload_n C.1 C.2.1 dL_law_1856 rfl (lv_at hl 2 rfl) ?_
  have hfin := fin_spreadBySums (U := U) h hd hd4 
  refine r_hsi C hw (w_spreadBySums hF (f := f1) (o := o) (wA := dC G o2 f2 :: cW G K r D (moW G mo U ++ [])) (WfA := fun u => dC G o2 f2 :: cW G K r (cdm D.S D.B D.N D.V D.nw D.dp (guR D.S D.f D.g (nO D.S)).1 (guR D.S D.f D.g (nO D.S)).2 D.ut D.LT D.vb D.p0 D.gp D.ul D.LL D.F) (moW G mo U ++ [])) (WxA := fun _ => dC G o2 f2 :: cW G K r (cdm D.S D.B D.N D.V D.nw D.dp (guR D.S D.f D.g (nO D.S)).1 (guR D.S D.f D.g (nO D.S)).2 D.ut D.LT D.vb D.p0 D.gp D.ul D.LL D.F) (moW G mo U ++ [])) (x11_spreadBySums hF (K := K) (S := D.S) (F := D.F) (f := D.f) (g := D.g) (X := YE G K r D (lC G o f1) (dC G o2 f2) (moW G mo U ++ [])) h.ok ) (pw_E _ _ _ _ _ _ _ _ _ _ _ _) 19 rfl (fun u => (pw_E _ _ _ _ _ _ _ _ _ _ _ _).symm) (fun k1 hk => ⟨(hfin.2 k1 hk).1, (pw_E _ _ _ _ _ _ _ _ _ _ _ _).symm⟩)) ml_L_262 yf_L_spreadBySums rfl rfl ⟨Nat.le_of_ble_eq_true rfl, Nat.le_of_ble_eq_true rfl⟩ (by show cells + 1 ≤ 603072 ∧ slots + 6 ≤ 7198826; omega) hl.1 (Nat.le_of_ble_eq_true rfl) dL_law_1857 (fun r9 u9 H locs hp hw => ?_)
  obtain ⟨D', f', hw, e1, hs, e2⟩ : ∃ (D' : CD) (f' : Nat → Int64), WH G s (lC G o f' :: (dC G o2 f2 :: cW G K r D' (moW G mo U ++ []))) H locs ∧ r9 = ((mI U 2 (bI (!spB (U.2 0))), spV (U.2 0))).1.1 2 ∧ Sm d D' ((mI U 2 (bI (!spB (U.2 0))), spV (U.2 0))).1 ∧ (r9 = 0 → f' 0 = ((mI U 2 (bI (!spB (U.2 0))), spV (U.2 0))).2.toInt64) := by
    rcases u9 with ⟨r1, u1⟩ | k1
    · obtain ⟨e, hp⟩ := hp
      obtain ⟨t1, t2, t3⟩ := hfin.1 r1 u1 hp
      exact ⟨_, _, hw, e.trans t1.symm, t3, fun _ => by rw [t2]; rfl⟩
    · obtain ⟨e, hp⟩ := hp
      obtain ⟨t0, t2, t3⟩ := hfin.2 k1 hp
      refine ⟨_, _, hw, e.trans t2, t3, fun e0 => ?_⟩
      exfalso
      rw [e] at e0
      rcases t0 with t0 <;> subst t0 <;> exact absurd e0 (by decide)
  refine lv_istore (lv' := (6, .int r9) :: lvL b (K 7 0) (mo 0) o o2 i) C.1 C.2.1 dL_law_1860 hl (by decide) rfl (fun ls hl => ?_)
  refine lv_aload_n C.1 C.2.1 dL_law_1862 rfl (lv_at hl 4 rfl) ?_
  refine r_vi C (hw.perm (pw_M _ _ _ _ _ _ _ _ _ _ _ _ _)) (k12_spreadBySums hF (U := U) (mo := mo) h.okf ) ml_L_264 yf_X12_spreadBySums 0 rfl rfl (As := []) rfl rfl ⟨Nat.le_of_ble_eq_true rfl, Nat.le_of_ble_eq_true rfl⟩ (by show cells + 1 + 0 ≤ 603072 ∧ slots + 6 + 0 ≤ 7198826; omega) hl.1 (Nat.le_of_ble_eq_true rfl) dL_law_1863 (fun r3 _ H locs hp3 hw => ?_)
  exact law_tail C hw (k := r9) e1 (fun e => (e2 e).trans (by rw [hp3])) hl ⟨by omega, by omega⟩ dL_law_1866 dL_law_1868 dL_law_1869 dL_law_1872 dL_law_1874 dL_law_1879 dL_law_1881 dL_law_1884 dL_law_1885 dL_law_1886 dL_law_1887 dL_law_1889 dL_law_1890 dL_law_1891 dL_law_1896 (by decide) (fun ls H locs hl hw => W.widen (by omega) (by omega) (kk D' _ f' f2 ls H locs hs (hw.perm (pw_M _ _ _ _ _ _ _ _ _ _ _ _ _).symm) hl))
end LAWC
/-! The law's cases, the third -/
section LAWC
variable {p : Program} {l : Launch} {e : Env} {s : State} {m : MethodId} {below : List Frame} {meth : Method} {c : Code} {H : Heap} {locs : List Loc} {cells slots : Nat} {Q : State → Prop}
variable {G : Gx} {ret : Option FieldType} {ls : Array Slot} {b L : Nat} {xs : Nat → Int32}
set_option maxHeartbeats 4000000 in
set_option maxRecDepth 100000 in
theorem lc_buyingAt (C : Cx l G RL cL_law 9 ret p s m meth c #[Value.ref b]) (hX : va_X b L xs s s.heap) (hbl : b < s.heap.size) (hbA : ¬ gA G b) {c9 d : Int} {D : CD} {U : MV_} (h : Sm c9 D U) (hd : c9 + 60 ≤ d) (hd4 : d ≤ 40000) {i : Nat} (hi : i + 4 < L) (hL : L ≤ 2560) {K : Nat → Nat → Nat} {r : Nat → Nat → Nat} {mo : Nat → Nat} {o o2 : Nat} {f1 : Nat → Int64} {f2 : Nat → UInt64} (hw : WH G s (lC G o f1 :: (dC G o2 f2 :: cW G K r D (moW G mo U ++ []))) H locs) (hl : lv_has ls 9 (lvL b (K 7 0) (mo 0) o o2 i)) (hc : cells ≤ 400000 ∧ slots ≤ 4000000)
    (kk : ∀ (D' : CD) (U' : MV_) (f1' : Nat → Int64) (f2' : Nat → UInt64) (ls : Array Slot) (H : Heap) (locs : List Loc), Sm d D' U' → WH G s (lC G o f1' :: (dC G o2 f2' :: cW G K r D' (moW G mo U' ++ []))) H locs → lv_has ls 9 (lvL b (K 7 0) (mo 0) o o2 i) → W p l e room_1 s m #[Value.ref b] below meth c H locs (cells + 80) (slots + 600) Q (F0 m 2825 ls [])) : W p l e room_1 s m #[Value.ref b] below meth c H locs cells slots Q (F0 m 1899 ls []) := by
  have hF := C.2.2.2.2.2.2.2.2
  refine lv_aload_n C.1 C.2.1 dL_law_1899 rfl (lv_at hl 4 rfl) ?_
  refine law_arg C hX hbl hbA hw.2.1 (k := 1) (off := 1) (by omega) hL (lv_at hl 5 rfl) (lv_at hl 0 rfl) dL_law_1900 dL_law_1901 dL_law_1903 (by decide) dL_law_1904 dL_law_1905 ?_
  refine lv_aload_n C.1 C.2.1 dL_law_1906 rfl (lv_at hl 2 rfl) ?_
  have hfin := fin_buyingAt (U := U) h hd hd4 (xs (i + 1))
  refine r_hsi C hw (w_buyingAt hF (f := f1) (o := o) (wA := dC G o2 f2 :: cW G K r D (moW G mo U ++ [])) (WfA := fun u => dC G o2 f2 :: cW G K r (D) (moW G mo U ++ [])) (WxA := fun _ => dC G o2 f2 :: cW G K r (D) (moW G mo U ++ [])) (x11_buyingAt hF (K := K) (S := D.S) (F := D.F) (X := YA G K r D (lC G o f1) (dC G o2 f2) (moW G mo U ++ [])) h.ok (xs (i + 1))) (pw_A _ _ _ _ _ _ _ _ _ _ _ _) 19 rfl (fun u => (pw_A _ _ _ _ _ _ _ _ _ _ _ _).symm) (fun k1 hk => ⟨(hfin.2 k1 hk).1, (pw_A _ _ _ _ _ _ _ _ _ _ _ _).symm⟩)) ml_L_265 yf_L_buyingAt rfl rfl ⟨Nat.le_of_ble_eq_true rfl, Nat.le_of_ble_eq_true rfl⟩ (by show cells + 1 ≤ 603072 ∧ slots + 6 ≤ 7198826; omega) hl.1 (Nat.le_of_ble_eq_true rfl) dL_law_1907 (fun r9 u9 H locs hp hw => ?_)
  obtain ⟨D', f', hw, e1, hs, e2⟩ : ∃ (D' : CD) (f' : Nat → Int64), WH G s (lC G o f' :: (dC G o2 f2 :: cW G K r D' (moW G mo U ++ []))) H locs ∧ r9 = ((mI U 2 (bI (!inR (xs (i + 1)) 1 99)), (if inR (xs (i + 1)) 1 99 = true then smF (U.2 0) true (xs (i + 1)) (xs (i + 1)) (nF (U.2 0)) else 0))).1.1 2 ∧ Sm d D' ((mI U 2 (bI (!inR (xs (i + 1)) 1 99)), (if inR (xs (i + 1)) 1 99 = true then smF (U.2 0) true (xs (i + 1)) (xs (i + 1)) (nF (U.2 0)) else 0))).1 ∧ (r9 = 0 → f' 0 = ((mI U 2 (bI (!inR (xs (i + 1)) 1 99)), (if inR (xs (i + 1)) 1 99 = true then smF (U.2 0) true (xs (i + 1)) (xs (i + 1)) (nF (U.2 0)) else 0))).2.toInt64) := by
    rcases u9 with ⟨r1, u1⟩ | k1
    · obtain ⟨e, hp⟩ := hp
      obtain ⟨t1, t2, t3⟩ := hfin.1 r1 u1 hp
      exact ⟨_, _, hw, e.trans t1.symm, t3, fun _ => by rw [t2]; rfl⟩
    · obtain ⟨e, hp⟩ := hp
      obtain ⟨t0, t2, t3⟩ := hfin.2 k1 hp
      refine ⟨_, _, hw, e.trans t2, t3, fun e0 => ?_⟩
      exfalso
      rw [e] at e0
      rcases t0 with t0 <;> subst t0 <;> exact absurd e0 (by decide)
  refine lv_istore (lv' := (6, .int r9) :: lvL b (K 7 0) (mo 0) o o2 i) C.1 C.2.1 dL_law_1910 hl (by decide) rfl (fun ls hl => ?_)
  refine lv_aload_n C.1 C.2.1 dL_law_1912 rfl (lv_at hl 4 rfl) ?_
  refine law_arg C hX hbl hbA hw.2.1 (k := 1) (off := 1) (by omega) hL (lv_at hl 6 rfl) (lv_at hl 1 rfl) dL_law_1913 dL_law_1914 dL_law_1916 (by decide) dL_law_1917 dL_law_1918 ?_
  refine r_vi C (hw.perm (pw_M _ _ _ _ _ _ _ _ _ _ _ _ _)) (k12_buyingAt hF (U := U) (mo := mo) h.okf (xs (i + 1))) ml_L_267 yf_X12_buyingAt 0 rfl rfl (As := [.int (xs (i + 1))]) rfl rfl ⟨Nat.le_of_ble_eq_true rfl, Nat.le_of_ble_eq_true rfl⟩ (by show cells + 1 + 0 ≤ 603072 ∧ slots + 6 + 0 ≤ 7198826; omega) hl.1 (Nat.le_of_ble_eq_true rfl) dL_law_1919 (fun r3 _ H locs hp3 hw => ?_)
  exact law_tail C hw (k := r9) e1 (fun e => (e2 e).trans (by rw [hp3])) hl ⟨by omega, by omega⟩ dL_law_1922 dL_law_1924 dL_law_1925 dL_law_1928 dL_law_1930 dL_law_1935 dL_law_1937 dL_law_1940 dL_law_1941 dL_law_1942 dL_law_1943 dL_law_1945 dL_law_1946 dL_law_1947 dL_law_1952 (by decide) (fun ls H locs hl hw => W.widen (by omega) (by omega) (kk D' _ f' f2 ls H locs hs (hw.perm (pw_M _ _ _ _ _ _ _ _ _ _ _ _ _).symm) hl))
set_option maxHeartbeats 4000000 in
set_option maxRecDepth 100000 in
theorem lc_sellingAt (C : Cx l G RL cL_law 9 ret p s m meth c #[Value.ref b]) (hX : va_X b L xs s s.heap) (hbl : b < s.heap.size) (hbA : ¬ gA G b) {c9 d : Int} {D : CD} {U : MV_} (h : Sm c9 D U) (hd : c9 + 60 ≤ d) (hd4 : d ≤ 40000) {i : Nat} (hi : i + 4 < L) (hL : L ≤ 2560) {K : Nat → Nat → Nat} {r : Nat → Nat → Nat} {mo : Nat → Nat} {o o2 : Nat} {f1 : Nat → Int64} {f2 : Nat → UInt64} (hw : WH G s (lC G o f1 :: (dC G o2 f2 :: cW G K r D (moW G mo U ++ []))) H locs) (hl : lv_has ls 9 (lvL b (K 7 0) (mo 0) o o2 i)) (hc : cells ≤ 400000 ∧ slots ≤ 4000000)
    (kk : ∀ (D' : CD) (U' : MV_) (f1' : Nat → Int64) (f2' : Nat → UInt64) (ls : Array Slot) (H : Heap) (locs : List Loc), Sm d D' U' → WH G s (lC G o f1' :: (dC G o2 f2' :: cW G K r D' (moW G mo U' ++ []))) H locs → lv_has ls 9 (lvL b (K 7 0) (mo 0) o o2 i) → W p l e room_1 s m #[Value.ref b] below meth c H locs (cells + 80) (slots + 600) Q (F0 m 2825 ls [])) : W p l e room_1 s m #[Value.ref b] below meth c H locs cells slots Q (F0 m 1955 ls []) := by
  have hF := C.2.2.2.2.2.2.2.2
  refine lv_aload_n C.1 C.2.1 dL_law_1955 rfl (lv_at hl 4 rfl) ?_
  refine law_arg C hX hbl hbA hw.2.1 (k := 1) (off := 1) (by omega) hL (lv_at hl 5 rfl) (lv_at hl 0 rfl) dL_law_1956 dL_law_1957 dL_law_1959 (by decide) dL_law_1960 dL_law_1961 ?_
  refine lv_aload_n C.1 C.2.1 dL_law_1962 rfl (lv_at hl 2 rfl) ?_
  have hfin := fin_sellingAt (U := U) h hd hd4 (xs (i + 1))
  refine r_hsi C hw (w_sellingAt hF (f := f1) (o := o) (wA := dC G o2 f2 :: cW G K r D (moW G mo U ++ [])) (WfA := fun u => dC G o2 f2 :: cW G K r (D) (moW G mo U ++ [])) (WxA := fun _ => dC G o2 f2 :: cW G K r (D) (moW G mo U ++ [])) (x11_sellingAt hF (K := K) (S := D.S) (F := D.F) (X := YA G K r D (lC G o f1) (dC G o2 f2) (moW G mo U ++ [])) h.ok (xs (i + 1))) (pw_A _ _ _ _ _ _ _ _ _ _ _ _) 19 rfl (fun u => (pw_A _ _ _ _ _ _ _ _ _ _ _ _).symm) (fun k1 hk => ⟨(hfin.2 k1 hk).1, (pw_A _ _ _ _ _ _ _ _ _ _ _ _).symm⟩)) ml_L_268 yf_L_sellingAt rfl rfl ⟨Nat.le_of_ble_eq_true rfl, Nat.le_of_ble_eq_true rfl⟩ (by show cells + 1 ≤ 603072 ∧ slots + 6 ≤ 7198826; omega) hl.1 (Nat.le_of_ble_eq_true rfl) dL_law_1963 (fun r9 u9 H locs hp hw => ?_)
  obtain ⟨D', f', hw, e1, hs, e2⟩ : ∃ (D' : CD) (f' : Nat → Int64), WH G s (lC G o f' :: (dC G o2 f2 :: cW G K r D' (moW G mo U ++ []))) H locs ∧ r9 = ((mI U 2 (bI (!inR (xs (i + 1)) 1 99)), (if inR (xs (i + 1)) 1 99 = true then smF (U.2 0) false (xs (i + 1)) (xs (i + 1)) (nF (U.2 0)) else 0))).1.1 2 ∧ Sm d D' ((mI U 2 (bI (!inR (xs (i + 1)) 1 99)), (if inR (xs (i + 1)) 1 99 = true then smF (U.2 0) false (xs (i + 1)) (xs (i + 1)) (nF (U.2 0)) else 0))).1 ∧ (r9 = 0 → f' 0 = ((mI U 2 (bI (!inR (xs (i + 1)) 1 99)), (if inR (xs (i + 1)) 1 99 = true then smF (U.2 0) false (xs (i + 1)) (xs (i + 1)) (nF (U.2 0)) else 0))).2.toInt64) := by
    rcases u9 with ⟨r1, u1⟩ | k1
    · obtain ⟨e, hp⟩ := hp
      obtain ⟨t1, t2, t3⟩ := hfin.1 r1 u1 hp
      exact ⟨_, _, hw, e.trans t1.symm, t3, fun _ => by rw [t2]; rfl⟩
    · obtain ⟨e, hp⟩ := hp
      obtain ⟨t0, t2, t3⟩ := hfin.2 k1 hp
      refine ⟨_, _, hw, e.trans t2, t3, fun e0 => ?_⟩
      exfalso
      rw [e] at e0
      rcases t0 with t0 <;> subst t0 <;> exact absurd e0 (by decide)
  refine lv_istore (lv' := (6, .int r9) :: lvL b (K 7 0) (mo 0) o o2 i) C.1 C.2.1 dL_law_1966 hl (by decide) rfl (fun ls hl => ?_)
  refine lv_aload_n C.1 C.2.1 dL_law_1968 rfl (lv_at hl 4 rfl) ?_
  refine law_arg C hX hbl hbA hw.2.1 (k := 1) (off := 1) (by omega) hL (lv_at hl 6 rfl) (lv_at hl 1 rfl) dL_law_1969 dL_law_1970 dL_law_1972 (by decide) dL_law_1973 dL_law_1974 ?_
  refine r_vi C (hw.perm (pw_M _ _ _ _ _ _ _ _ _ _ _ _ _)) (k12_sellingAt hF (U := U) (mo := mo) h.okf (xs (i + 1))) ml_L_270 yf_X12_sellingAt 0 rfl rfl (As := [.int (xs (i + 1))]) rfl rfl ⟨Nat.le_of_ble_eq_true rfl, Nat.le_of_ble_eq_true rfl⟩ (by show cells + 1 + 0 ≤ 603072 ∧ slots + 6 + 0 ≤ 7198826; omega) hl.1 (Nat.le_of_ble_eq_true rfl) dL_law_1975 (fun r3 _ H locs hp3 hw => ?_)
  exact law_tail C hw (k := r9) e1 (fun e => (e2 e).trans (by rw [hp3])) hl ⟨by omega, by omega⟩ dL_law_1978 dL_law_1980 dL_law_1981 dL_law_1984 dL_law_1986 dL_law_1991 dL_law_1993 dL_law_1996 dL_law_1997 dL_law_1998 dL_law_1999 dL_law_2001 dL_law_2002 dL_law_2003 dL_law_2008 (by decide) (fun ls H locs hl hw => W.widen (by omega) (by omega) (kk D' _ f' f2 ls H locs hs (hw.perm (pw_M _ _ _ _ _ _ _ _ _ _ _ _ _).symm) hl))
set_option maxHeartbeats 4000000 in
set_option maxRecDepth 100000 in
theorem lc_volumeAt (C : Cx l G RL cL_law 9 ret p s m meth c #[Value.ref b]) (hX : va_X b L xs s s.heap) (hbl : b < s.heap.size) (hbA : ¬ gA G b) {c9 d : Int} {D : CD} {U : MV_} (h : Sm c9 D U) (hd : c9 + 60 ≤ d) (hd4 : d ≤ 40000) {i : Nat} (hi : i + 4 < L) (hL : L ≤ 2560) {K : Nat → Nat → Nat} {r : Nat → Nat → Nat} {mo : Nat → Nat} {o o2 : Nat} {f1 : Nat → Int64} {f2 : Nat → UInt64} (hw : WH G s (lC G o f1 :: (dC G o2 f2 :: cW G K r D (moW G mo U ++ []))) H locs) (hl : lv_has ls 9 (lvL b (K 7 0) (mo 0) o o2 i)) (hc : cells ≤ 400000 ∧ slots ≤ 4000000)
    (kk : ∀ (D' : CD) (U' : MV_) (f1' : Nat → Int64) (f2' : Nat → UInt64) (ls : Array Slot) (H : Heap) (locs : List Loc), Sm d D' U' → WH G s (lC G o f1' :: (dC G o2 f2' :: cW G K r D' (moW G mo U' ++ []))) H locs → lv_has ls 9 (lvL b (K 7 0) (mo 0) o o2 i) → W p l e room_1 s m #[Value.ref b] below meth c H locs (cells + 80) (slots + 600) Q (F0 m 2825 ls [])) : W p l e room_1 s m #[Value.ref b] below meth c H locs cells slots Q (F0 m 2327 ls []) := by
  have hF := C.2.2.2.2.2.2.2.2
  refine lv_aload_n C.1 C.2.1 dL_law_2327 rfl (lv_at hl 4 rfl) ?_
  refine law_arg C hX hbl hbA hw.2.1 (k := 1) (off := 1) (by omega) hL (lv_at hl 5 rfl) (lv_at hl 0 rfl) dL_law_2328 dL_law_2329 dL_law_2331 (by decide) dL_law_2332 dL_law_2333 ?_
  refine lv_aload_n C.1 C.2.1 dL_law_2334 rfl (lv_at hl 2 rfl) ?_
  have hfin := fin_volumeAt (U := U) h hd hd4 (xs (i + 1))
  refine r_hsi C hw (w_volumeAt hF (f := f1) (o := o) (wA := dC G o2 f2 :: cW G K r D (moW G mo U ++ [])) (WfA := fun u => dC G o2 f2 :: cW G K r (D) (moW G mo U ++ [])) (WxA := fun _ => dC G o2 f2 :: cW G K r (D) (moW G mo U ++ [])) (x11_volumeAt hF (K := K) (S := D.S) (F := D.F) (X := YA G K r D (lC G o f1) (dC G o2 f2) (moW G mo U ++ [])) h.ok (xs (i + 1))) (pw_A _ _ _ _ _ _ _ _ _ _ _ _) 19 rfl (fun u => (pw_A _ _ _ _ _ _ _ _ _ _ _ _).symm) (fun k1 hk => ⟨(hfin.2 k1 hk).1, (pw_A _ _ _ _ _ _ _ _ _ _ _ _).symm⟩)) ml_L_305 yf_L_volumeAt rfl rfl ⟨Nat.le_of_ble_eq_true rfl, Nat.le_of_ble_eq_true rfl⟩ (by show cells + 1 ≤ 603072 ∧ slots + 6 ≤ 7198826; omega) hl.1 (Nat.le_of_ble_eq_true rfl) dL_law_2335 (fun r9 u9 H locs hp hw => ?_)
  obtain ⟨D', f', hw, e1, hs, e2⟩ : ∃ (D' : CD) (f' : Nat → Int64), WH G s (lC G o f' :: (dC G o2 f2 :: cW G K r D' (moW G mo U ++ []))) H locs ∧ r9 = ((mI U 2 (bI (!inR (xs (i + 1)) 1 99)), (if inR (xs (i + 1)) 1 99 = true then voF (U.2 0) (nF (U.2 0)) (xs (i + 1)) else 0))).1.1 2 ∧ Sm d D' ((mI U 2 (bI (!inR (xs (i + 1)) 1 99)), (if inR (xs (i + 1)) 1 99 = true then voF (U.2 0) (nF (U.2 0)) (xs (i + 1)) else 0))).1 ∧ (r9 = 0 → f' 0 = ((mI U 2 (bI (!inR (xs (i + 1)) 1 99)), (if inR (xs (i + 1)) 1 99 = true then voF (U.2 0) (nF (U.2 0)) (xs (i + 1)) else 0))).2.toInt64) := by
    rcases u9 with ⟨r1, u1⟩ | k1
    · obtain ⟨e, hp⟩ := hp
      obtain ⟨t1, t2, t3⟩ := hfin.1 r1 u1 hp
      exact ⟨_, _, hw, e.trans t1.symm, t3, fun _ => by rw [t2]; rfl⟩
    · obtain ⟨e, hp⟩ := hp
      obtain ⟨t0, t2, t3⟩ := hfin.2 k1 hp
      refine ⟨_, _, hw, e.trans t2, t3, fun e0 => ?_⟩
      exfalso
      rw [e] at e0
      rcases t0 with t0 <;> subst t0 <;> exact absurd e0 (by decide)
  refine lv_istore (lv' := (6, .int r9) :: lvL b (K 7 0) (mo 0) o o2 i) C.1 C.2.1 dL_law_2338 hl (by decide) rfl (fun ls hl => ?_)
  refine lv_aload_n C.1 C.2.1 dL_law_2340 rfl (lv_at hl 4 rfl) ?_
  refine law_arg C hX hbl hbA hw.2.1 (k := 1) (off := 1) (by omega) hL (lv_at hl 6 rfl) (lv_at hl 1 rfl) dL_law_2341 dL_law_2342 dL_law_2344 (by decide) dL_law_2345 dL_law_2346 ?_
  refine r_vi C (hw.perm (pw_M _ _ _ _ _ _ _ _ _ _ _ _ _)) (k12_volumeAt hF (U := U) (mo := mo) h.okf (xs (i + 1))) ml_L_307 yf_X12_volumeAt 0 rfl rfl (As := [.int (xs (i + 1))]) rfl rfl ⟨Nat.le_of_ble_eq_true rfl, Nat.le_of_ble_eq_true rfl⟩ (by show cells + 1 + 0 ≤ 603072 ∧ slots + 6 + 0 ≤ 7198826; omega) hl.1 (Nat.le_of_ble_eq_true rfl) dL_law_2347 (fun r3 _ H locs hp3 hw => ?_)
  exact law_tail C hw (k := r9) e1 (fun e => (e2 e).trans (by rw [hp3])) hl ⟨by omega, by omega⟩ dL_law_2350 dL_law_2352 dL_law_2353 dL_law_2356 dL_law_2358 dL_law_2363 dL_law_2365 dL_law_2368 dL_law_2369 dL_law_2370 dL_law_2371 dL_law_2373 dL_law_2374 dL_law_2375 dL_law_2380 (by decide) (fun ls H locs hl hw => W.widen (by omega) (by omega) (kk D' _ f' f2 ls H locs hs (hw.perm (pw_M _ _ _ _ _ _ _ _ _ _ _ _ _).symm) hl))
set_option maxHeartbeats 4000000 in
set_option maxRecDepth 100000 in
theorem lc_lastPrice (C : Cx l G RL cL_law 9 ret p s m meth c #[Value.ref b]) (hX : va_X b L xs s s.heap) (hbl : b < s.heap.size) (hbA : ¬ gA G b) {c9 d : Int} {D : CD} {U : MV_} (h : Sm c9 D U) (hd : c9 + 60 ≤ d) (hd4 : d ≤ 40000) {i : Nat} (hi : i + 4 < L) (hL : L ≤ 2560) {K : Nat → Nat → Nat} {r : Nat → Nat → Nat} {mo : Nat → Nat} {o o2 : Nat} {f1 : Nat → Int64} {f2 : Nat → UInt64} (hw : WH G s (lC G o f1 :: (dC G o2 f2 :: cW G K r D (moW G mo U ++ []))) H locs) (hl : lv_has ls 9 (lvL b (K 7 0) (mo 0) o o2 i)) (hc : cells ≤ 400000 ∧ slots ≤ 4000000)
    (kk : ∀ (D' : CD) (U' : MV_) (f1' : Nat → Int64) (f2' : Nat → UInt64) (ls : Array Slot) (H : Heap) (locs : List Loc), Sm d D' U' → WH G s (lC G o f1' :: (dC G o2 f2' :: cW G K r D' (moW G mo U' ++ []))) H locs → lv_has ls 9 (lvL b (K 7 0) (mo 0) o o2 i) → W p l e room_1 s m #[Value.ref b] below meth c H locs (cells + 80) (slots + 600) Q (F0 m 2825 ls [])) : W p l e room_1 s m #[Value.ref b] below meth c H locs cells slots Q (F0 m 2011 ls []) := by
  have hF := C.2.2.2.2.2.2.2.2
  refine lv_aload_n C.1 C.2.1 dL_law_2011 rfl (lv_at hl 4 rfl) ?_
  refine lv_aload_n C.1 C.2.1 dL_law_2012 rfl (lv_at hl 2 rfl) ?_
  have hfin := fin_lastPrice (U := U) h hd hd4 
  refine r_hsi C hw (w_lastPrice hF (f := f1) (o := o) (wA := dC G o2 f2 :: cW G K r D (moW G mo U ++ [])) (WfA := fun u => dC G o2 f2 :: cW G K r (D) (moW G mo U ++ [])) (WxA := fun _ => dC G o2 f2 :: cW G K r (D) (moW G mo U ++ [])) (x11_lastPrice hF (K := K) (S := D.S) (F := D.F) (X := YA G K r D (lC G o f1) (dC G o2 f2) (moW G mo U ++ []))  ) (pw_A _ _ _ _ _ _ _ _ _ _ _ _) 19 rfl (fun u => (pw_A _ _ _ _ _ _ _ _ _ _ _ _).symm) (fun k1 hk => ⟨(hfin.2 k1 hk).1, (pw_A _ _ _ _ _ _ _ _ _ _ _ _).symm⟩)) ml_L_271 yf_L_lastPrice rfl rfl ⟨Nat.le_of_ble_eq_true rfl, Nat.le_of_ble_eq_true rfl⟩ (by show cells + 1 ≤ 603072 ∧ slots + 6 ≤ 7198826; omega) hl.1 (Nat.le_of_ble_eq_true rfl) dL_law_2013 (fun r9 u9 H locs hp hw => ?_)
  obtain ⟨D', f', hw, e1, hs, e2⟩ : ∃ (D' : CD) (f' : Nat → Int64), WH G s (lC G o f' :: (dC G o2 f2 :: cW G K r D' (moW G mo U ++ []))) H locs ∧ r9 = ((mI U 2 (bI (!laB (U.2 0))), (if laB (U.2 0) = true then (U.2 0) 5 else 0))).1.1 2 ∧ Sm d D' ((mI U 2 (bI (!laB (U.2 0))), (if laB (U.2 0) = true then (U.2 0) 5 else 0))).1 ∧ (r9 = 0 → f' 0 = ((mI U 2 (bI (!laB (U.2 0))), (if laB (U.2 0) = true then (U.2 0) 5 else 0))).2.toInt64) := by
    rcases u9 with ⟨r1, u1⟩ | k1
    · obtain ⟨e, hp⟩ := hp
      obtain ⟨t1, t2, t3⟩ := hfin.1 r1 u1 hp
      exact ⟨_, _, hw, e.trans t1.symm, t3, fun _ => by rw [t2]; rfl⟩
    · obtain ⟨e, hp⟩ := hp
      obtain ⟨t0, t2, t3⟩ := hfin.2 k1 hp
      refine ⟨_, _, hw, e.trans t2, t3, fun e0 => ?_⟩
      exfalso
      rw [e] at e0
      rcases t0 with t0 <;> subst t0 <;> exact absurd e0 (by decide)
  refine lv_istore (lv' := (6, .int r9) :: lvL b (K 7 0) (mo 0) o o2 i) C.1 C.2.1 dL_law_2016 hl (by decide) rfl (fun ls hl => ?_)
  refine lv_aload_n C.1 C.2.1 dL_law_2018 rfl (lv_at hl 4 rfl) ?_
  refine r_vi C (hw.perm (pw_M _ _ _ _ _ _ _ _ _ _ _ _ _)) (k12_lastPrice hF (U := U) (mo := mo)  ) ml_L_273 yf_X12_lastPrice 0 rfl rfl (As := []) rfl rfl ⟨Nat.le_of_ble_eq_true rfl, Nat.le_of_ble_eq_true rfl⟩ (by show cells + 1 + 0 ≤ 603072 ∧ slots + 6 + 0 ≤ 7198826; omega) hl.1 (Nat.le_of_ble_eq_true rfl) dL_law_2019 (fun r3 _ H locs hp3 hw => ?_)
  exact law_tail C hw (k := r9) e1 (fun e => (e2 e).trans (by rw [hp3])) hl ⟨by omega, by omega⟩ dL_law_2022 dL_law_2024 dL_law_2025 dL_law_2028 dL_law_2030 dL_law_2035 dL_law_2037 dL_law_2040 dL_law_2041 dL_law_2042 dL_law_2043 dL_law_2045 dL_law_2046 dL_law_2047 dL_law_2052 (by decide) (fun ls H locs hl hw => W.widen (by omega) (by omega) (kk D' _ f' f2 ls H locs hs (hw.perm (pw_M _ _ _ _ _ _ _ _ _ _ _ _ _).symm) hl))
set_option maxHeartbeats 4000000 in
set_option maxRecDepth 100000 in
theorem lc_poolPrice (C : Cx l G RL cL_law 9 ret p s m meth c #[Value.ref b]) (hX : va_X b L xs s s.heap) (hbl : b < s.heap.size) (hbA : ¬ gA G b) {c9 d : Int} {D : CD} {U : MV_} (h : Sm c9 D U) (hd : c9 + 60 ≤ d) (hd4 : d ≤ 40000) {i : Nat} (hi : i + 4 < L) (hL : L ≤ 2560) {K : Nat → Nat → Nat} {r : Nat → Nat → Nat} {mo : Nat → Nat} {o o2 : Nat} {f1 : Nat → Int64} {f2 : Nat → UInt64} (hw : WH G s (lC G o f1 :: (dC G o2 f2 :: cW G K r D (moW G mo U ++ []))) H locs) (hl : lv_has ls 9 (lvL b (K 7 0) (mo 0) o o2 i)) (hc : cells ≤ 400000 ∧ slots ≤ 4000000)
    (kk : ∀ (D' : CD) (U' : MV_) (f1' : Nat → Int64) (f2' : Nat → UInt64) (ls : Array Slot) (H : Heap) (locs : List Loc), Sm d D' U' → WH G s (lC G o f1' :: (dC G o2 f2' :: cW G K r D' (moW G mo U' ++ []))) H locs → lv_has ls 9 (lvL b (K 7 0) (mo 0) o o2 i) → W p l e room_1 s m #[Value.ref b] below meth c H locs (cells + 80) (slots + 600) Q (F0 m 2825 ls [])) : W p l e room_1 s m #[Value.ref b] below meth c H locs cells slots Q (F0 m 2239 ls []) := by
  have hF := C.2.2.2.2.2.2.2.2
  refine lv_aload_n C.1 C.2.1 dL_law_2239 rfl (lv_at hl 4 rfl) ?_
  refine lv_aload_n C.1 C.2.1 dL_law_2240 rfl (lv_at hl 2 rfl) ?_
  have hfin := fin_poolPrice (U := U) h hd hd4 
  refine r_hsi C hw (w_poolPrice hF (f := f1) (o := o) (wA := dC G o2 f2 :: cW G K r D (moW G mo U ++ [])) (WfA := fun u => dC G o2 f2 :: cW G K r (D) (moW G mo U ++ [])) (WxA := fun _ => dC G o2 f2 :: cW G K r (D) (moW G mo U ++ [])) (x11_poolPrice hF (K := K) (S := D.S) (F := D.F) (X := YA G K r D (lC G o f1) (dC G o2 f2) (moW G mo U ++ [])) h.ok ) (pw_A _ _ _ _ _ _ _ _ _ _ _ _) 19 rfl (fun u => (pw_A _ _ _ _ _ _ _ _ _ _ _ _).symm) (fun k1 hk => ⟨(hfin.2 k1 hk).1, (pw_A _ _ _ _ _ _ _ _ _ _ _ _).symm⟩)) ml_L_299 yf_L_poolPrice rfl rfl ⟨Nat.le_of_ble_eq_true rfl, Nat.le_of_ble_eq_true rfl⟩ (by show cells + 2 ≤ 603072 ∧ slots + 9 ≤ 7198826; omega) hl.1 (Nat.le_of_ble_eq_true rfl) dL_law_2241 (fun r9 u9 H locs hp hw => ?_)
  obtain ⟨D', f', hw, e1, hs, e2⟩ : ∃ (D' : CD) (f' : Nat → Int64), WH G s (lC G o f' :: (dC G o2 f2 :: cW G K r D' (moW G mo U ++ []))) H locs ∧ r9 = ((mI U 2 (bI (!ppB (U.2 0))), (if ppB (U.2 0) = true then clP (U.2 0) else 0))).1.1 2 ∧ Sm d D' ((mI U 2 (bI (!ppB (U.2 0))), (if ppB (U.2 0) = true then clP (U.2 0) else 0))).1 ∧ (r9 = 0 → f' 0 = ((mI U 2 (bI (!ppB (U.2 0))), (if ppB (U.2 0) = true then clP (U.2 0) else 0))).2.toInt64) := by
    rcases u9 with ⟨r1, u1⟩ | k1
    · obtain ⟨e, hp⟩ := hp
      obtain ⟨t1, t2, t3⟩ := hfin.1 r1 u1 hp
      exact ⟨_, _, hw, e.trans t1.symm, t3, fun _ => by rw [t2]; rfl⟩
    · obtain ⟨e, hp⟩ := hp
      obtain ⟨t0, t2, t3⟩ := hfin.2 k1 hp
      refine ⟨_, _, hw, e.trans t2, t3, fun e0 => ?_⟩
      exfalso
      rw [e] at e0
      rcases t0 with t0 <;> subst t0 <;> exact absurd e0 (by decide)
  refine lv_istore (lv' := (6, .int r9) :: lvL b (K 7 0) (mo 0) o o2 i) C.1 C.2.1 dL_law_2244 hl (by decide) rfl (fun ls hl => ?_)
  refine lv_aload_n C.1 C.2.1 dL_law_2246 rfl (lv_at hl 4 rfl) ?_
  refine r_vi C (hw.perm (pw_M _ _ _ _ _ _ _ _ _ _ _ _ _)) (k12_poolPrice hF (U := U) (mo := mo) h.okf ) ml_L_301 yf_X12_poolPrice 0 rfl rfl (As := []) rfl rfl ⟨Nat.le_of_ble_eq_true rfl, Nat.le_of_ble_eq_true rfl⟩ (by show cells + 2 + 0 ≤ 603072 ∧ slots + 9 + 0 ≤ 7198826; omega) hl.1 (Nat.le_of_ble_eq_true rfl) dL_law_2247 (fun r3 _ H locs hp3 hw => ?_)
  exact law_tail C hw (k := r9) e1 (fun e => (e2 e).trans (by rw [hp3])) hl ⟨by omega, by omega⟩ dL_law_2250 dL_law_2252 dL_law_2253 dL_law_2256 dL_law_2258 dL_law_2263 dL_law_2265 dL_law_2268 dL_law_2269 dL_law_2270 dL_law_2271 dL_law_2273 dL_law_2274 dL_law_2275 dL_law_2280 (by decide) (fun ls H locs hl hw => W.widen (by omega) (by omega) (kk D' _ f' f2 ls H locs hs (hw.perm (pw_M _ _ _ _ _ _ _ _ _ _ _ _ _).symm) hl))
set_option maxHeartbeats 4000000 in
set_option maxRecDepth 100000 in
theorem lc_poolPriceBySums (C : Cx l G RL cL_law 9 ret p s m meth c #[Value.ref b]) (hX : va_X b L xs s s.heap) (hbl : b < s.heap.size) (hbA : ¬ gA G b) {c9 d : Int} {D : CD} {U : MV_} (h : Sm c9 D U) (hd : c9 + 60 ≤ d) (hd4 : d ≤ 40000) {i : Nat} (hi : i + 4 < L) (hL : L ≤ 2560) {K : Nat → Nat → Nat} {r : Nat → Nat → Nat} {mo : Nat → Nat} {o o2 : Nat} {f1 : Nat → Int64} {f2 : Nat → UInt64} (hw : WH G s (lC G o f1 :: (dC G o2 f2 :: cW G K r D (moW G mo U ++ []))) H locs) (hl : lv_has ls 9 (lvL b (K 7 0) (mo 0) o o2 i)) (hc : cells ≤ 400000 ∧ slots ≤ 4000000)
    (kk : ∀ (D' : CD) (U' : MV_) (f1' : Nat → Int64) (f2' : Nat → UInt64) (ls : Array Slot) (H : Heap) (locs : List Loc), Sm d D' U' → WH G s (lC G o f1' :: (dC G o2 f2' :: cW G K r D' (moW G mo U' ++ []))) H locs → lv_has ls 9 (lvL b (K 7 0) (mo 0) o o2 i) → W p l e room_1 s m #[Value.ref b] below meth c H locs (cells + 80) (slots + 600) Q (F0 m 2825 ls [])) : W p l e room_1 s m #[Value.ref b] below meth c H locs cells slots Q (F0 m 2283 ls []) := by
  have hF := C.2.2.2.2.2.2.2.2
  refine lv_aload_n C.1 C.2.1 dL_law_2283 rfl (lv_at hl 4 rfl) ?_
  refine lv_aload_n C.1 C.2.1 dL_law_2284 rfl (lv_at hl 2 rfl) ?_
  have hfin := fin_poolPriceBySums (U := U) h hd hd4 
  refine r_hsi C hw (w_poolPriceBySums hF (f := f1) (o := o) (wA := dC G o2 f2 :: cW G K r D (moW G mo U ++ [])) (WfA := fun u => dC G o2 f2 :: cW G K r (cdm D.S D.B D.N D.V D.nw D.dp (guR D.S D.f D.g (nO D.S)).1 (guR D.S D.f D.g (nO D.S)).2 D.ut D.LT D.vb D.p0 D.gp D.ul D.LL D.F) (moW G mo U ++ [])) (WxA := fun _ => dC G o2 f2 :: cW G K r (cdm D.S D.B D.N D.V D.nw D.dp (guR D.S D.f D.g (nO D.S)).1 (guR D.S D.f D.g (nO D.S)).2 D.ut D.LT D.vb D.p0 D.gp D.ul D.LL D.F) (moW G mo U ++ [])) (x11_poolPriceBySums hF (K := K) (S := D.S) (F := D.F) (f := D.f) (g := D.g) (X := YE G K r D (lC G o f1) (dC G o2 f2) (moW G mo U ++ [])) h.ok ) (pw_E _ _ _ _ _ _ _ _ _ _ _ _) 19 rfl (fun u => (pw_E _ _ _ _ _ _ _ _ _ _ _ _).symm) (fun k1 hk => ⟨(hfin.2 k1 hk).1, ((List.perm_append_comm_assoc _ _ _).append_left _).trans ((pw_E _ _ _ _ _ _ _ _ _ _ _ _).symm)⟩)) ml_L_302 yf_L_poolPriceBySums rfl rfl ⟨Nat.le_of_ble_eq_true rfl, Nat.le_of_ble_eq_true rfl⟩ (by show cells + 2 ≤ 603072 ∧ slots + 9 ≤ 7198826; omega) hl.1 (Nat.le_of_ble_eq_true rfl) dL_law_2285 (fun r9 u9 H locs hp hw => ?_)
  obtain ⟨D', f', hw, e1, hs, e2⟩ : ∃ (D' : CD) (f' : Nat → Int64), WH G s (lC G o f' :: (dC G o2 f2 :: cW G K r D' (moW G mo U ++ []))) H locs ∧ r9 = ((mI U 2 (bI (!ppB (U.2 0))), (if ppB (U.2 0) = true then clP (U.2 0) else 0))).1.1 2 ∧ Sm d D' ((mI U 2 (bI (!ppB (U.2 0))), (if ppB (U.2 0) = true then clP (U.2 0) else 0))).1 ∧ (r9 = 0 → f' 0 = ((mI U 2 (bI (!ppB (U.2 0))), (if ppB (U.2 0) = true then clP (U.2 0) else 0))).2.toInt64) := by
    rcases u9 with ⟨r1, u1⟩ | k1
    · obtain ⟨e, hp⟩ := hp
      obtain ⟨t1, t2, t3⟩ := hfin.1 r1 u1 hp
      exact ⟨_, _, hw, e.trans t1.symm, t3, fun _ => by rw [t2]; rfl⟩
    · obtain ⟨e, hp⟩ := hp
      obtain ⟨t0, t2, t3⟩ := hfin.2 k1 hp
      refine ⟨_, _, hw, e.trans t2, t3, fun e0 => ?_⟩
      exfalso
      rw [e] at e0
      rcases t0 with t0 <;> subst t0 <;> exact absurd e0 (by decide)
  refine lv_istore (lv' := (6, .int r9) :: lvL b (K 7 0) (mo 0) o o2 i) C.1 C.2.1 dL_law_2288 hl (by decide) rfl (fun ls hl => ?_)
  refine lv_aload_n C.1 C.2.1 dL_law_2290 rfl (lv_at hl 4 rfl) ?_
  refine r_vi C (hw.perm (pw_M _ _ _ _ _ _ _ _ _ _ _ _ _)) (k12_poolPriceBySums hF (U := U) (mo := mo) h.okf ) ml_L_304 yf_X12_poolPriceBySums 0 rfl rfl (As := []) rfl rfl ⟨Nat.le_of_ble_eq_true rfl, Nat.le_of_ble_eq_true rfl⟩ (by show cells + 2 + 0 ≤ 603072 ∧ slots + 9 + 0 ≤ 7198826; omega) hl.1 (Nat.le_of_ble_eq_true rfl) dL_law_2291 (fun r3 _ H locs hp3 hw => ?_)
  exact law_tail C hw (k := r9) e1 (fun e => (e2 e).trans (by rw [hp3])) hl ⟨by omega, by omega⟩ dL_law_2294 dL_law_2296 dL_law_2297 dL_law_2300 dL_law_2302 dL_law_2307 dL_law_2309 dL_law_2312 dL_law_2313 dL_law_2314 dL_law_2315 dL_law_2317 dL_law_2318 dL_law_2319 dL_law_2324 (by decide) (fun ls H locs hl hw => W.widen (by omega) (by omega) (kk D' _ f' f2 ls H locs hs (hw.perm (pw_M _ _ _ _ _ _ _ _ _ _ _ _ _).symm) hl))
set_option maxHeartbeats 4000000 in
set_option maxRecDepth 100000 in
theorem lc_errorPosition (C : Cx l G RL cL_law 9 ret p s m meth c #[Value.ref b]) (hX : va_X b L xs s s.heap) (hbl : b < s.heap.size) (hbA : ¬ gA G b) {c9 d : Int} {D : CD} {U : MV_} (h : Sm c9 D U) (hd : c9 + 60 ≤ d) (hd4 : d ≤ 40000) {i : Nat} (hi : i + 4 < L) (hL : L ≤ 2560) {K : Nat → Nat → Nat} {r : Nat → Nat → Nat} {mo : Nat → Nat} {o o2 : Nat} {f1 : Nat → Int64} {f2 : Nat → UInt64} (hw : WH G s (lC G o f1 :: (dC G o2 f2 :: cW G K r D (moW G mo U ++ []))) H locs) (hl : lv_has ls 9 (lvL b (K 7 0) (mo 0) o o2 i)) (hc : cells ≤ 400000 ∧ slots ≤ 4000000)
    (kk : ∀ (D' : CD) (U' : MV_) (f1' : Nat → Int64) (f2' : Nat → UInt64) (ls : Array Slot) (H : Heap) (locs : List Loc), Sm d D' U' → WH G s (lC G o f1' :: (dC G o2 f2' :: cW G K r D' (moW G mo U' ++ []))) H locs → lv_has ls 9 (lvL b (K 7 0) (mo 0) o o2 i) → W p l e room_1 s m #[Value.ref b] below meth c H locs (cells + 80) (slots + 600) Q (F0 m 2825 ls [])) : W p l e room_1 s m #[Value.ref b] below meth c H locs cells slots Q (F0 m 2636 ls []) := by
  have hF := C.2.2.2.2.2.2.2.2
  refine lv_aload_n C.1 C.2.1 dL_law_2636 rfl (lv_at hl 4 rfl) ?_
  refine lv_aload_n C.1 C.2.1 dL_law_2637 rfl (lv_at hl 2 rfl) ?_
  have hfin := fin_errorPosition (U := U) h hd hd4 
  refine r_hsi C hw (w_errorPosition hF (f := f1) (o := o) (wA := dC G o2 f2 :: cW G K r D (moW G mo U ++ [])) (WfA := fun u => dC G o2 f2 :: cW G K r (D) (moW G mo U ++ [])) (WxA := fun _ => dC G o2 f2 :: cW G K r (D) (moW G mo U ++ [])) (x11_errorPosition hF (K := K) (S := D.S) (F := D.F) (X := YA G K r D (lC G o f1) (dC G o2 f2) (moW G mo U ++ []))  ) (pw_A _ _ _ _ _ _ _ _ _ _ _ _) 19 rfl (fun u => (pw_A _ _ _ _ _ _ _ _ _ _ _ _).symm) (fun k1 hk => ⟨(hfin.2 k1 hk).1, (pw_A _ _ _ _ _ _ _ _ _ _ _ _).symm⟩)) ml_L_333 yf_L_errorPosition rfl rfl ⟨Nat.le_of_ble_eq_true rfl, Nat.le_of_ble_eq_true rfl⟩ (by show cells + 1 ≤ 603072 ∧ slots + 6 ≤ 7198826; omega) hl.1 (Nat.le_of_ble_eq_true rfl) dL_law_2638 (fun r9 u9 H locs hp hw => ?_)
  obtain ⟨D', f', hw, e1, hs, e2⟩ : ∃ (D' : CD) (f' : Nat → Int64), WH G s (lC G o f' :: (dC G o2 f2 :: cW G K r D' (moW G mo U ++ []))) H locs ∧ r9 = ((mI U 2 (bI (!(!decide (U.1 7 < 0)))), (if (!decide (U.1 7 < 0)) = true then U.1 7 else 0))).1.1 2 ∧ Sm d D' ((mI U 2 (bI (!(!decide (U.1 7 < 0)))), (if (!decide (U.1 7 < 0)) = true then U.1 7 else 0))).1 ∧ (r9 = 0 → f' 0 = ((mI U 2 (bI (!(!decide (U.1 7 < 0)))), (if (!decide (U.1 7 < 0)) = true then U.1 7 else 0))).2.toInt64) := by
    rcases u9 with ⟨r1, u1⟩ | k1
    · obtain ⟨e, hp⟩ := hp
      obtain ⟨t1, t2, t3⟩ := hfin.1 r1 u1 hp
      exact ⟨_, _, hw, e.trans t1.symm, t3, fun _ => by rw [t2]; rfl⟩
    · obtain ⟨e, hp⟩ := hp
      obtain ⟨t0, t2, t3⟩ := hfin.2 k1 hp
      refine ⟨_, _, hw, e.trans t2, t3, fun e0 => ?_⟩
      exfalso
      rw [e] at e0
      rcases t0 with t0 <;> subst t0 <;> exact absurd e0 (by decide)
  refine lv_istore (lv' := (6, .int r9) :: lvL b (K 7 0) (mo 0) o o2 i) C.1 C.2.1 dL_law_2641 hl (by decide) rfl (fun ls hl => ?_)
  refine lv_aload_n C.1 C.2.1 dL_law_2643 rfl (lv_at hl 4 rfl) ?_
  refine r_vi C (hw.perm (pw_M _ _ _ _ _ _ _ _ _ _ _ _ _)) (k12_errorPosition hF (U := U) (mo := mo)  ) ml_L_335 yf_X12_errorPosition 0 rfl rfl (As := []) rfl rfl ⟨Nat.le_of_ble_eq_true rfl, Nat.le_of_ble_eq_true rfl⟩ (by show cells + 1 + 0 ≤ 603072 ∧ slots + 6 + 0 ≤ 7198826; omega) hl.1 (Nat.le_of_ble_eq_true rfl) dL_law_2644 (fun r3 _ H locs hp3 hw => ?_)
  exact law_tail C hw (k := r9) e1 (fun e => (e2 e).trans (by rw [hp3])) hl ⟨by omega, by omega⟩ dL_law_2647 dL_law_2649 dL_law_2650 dL_law_2653 dL_law_2655 dL_law_2660 dL_law_2662 dL_law_2665 dL_law_2666 dL_law_2667 dL_law_2668 dL_law_2670 dL_law_2671 dL_law_2672 dL_law_2677 (by decide) (fun ls H locs hl hw => W.widen (by omega) (by omega) (kk D' _ f' f2 ls H locs hs (hw.perm (pw_M _ _ _ _ _ _ _ _ _ _ _ _ _).symm) hl))
set_option maxHeartbeats 4000000 in
set_option maxRecDepth 100000 in
theorem lc_failedCommand (C : Cx l G RL cL_law 9 ret p s m meth c #[Value.ref b]) (hX : va_X b L xs s s.heap) (hbl : b < s.heap.size) (hbA : ¬ gA G b) {c9 d : Int} {D : CD} {U : MV_} (h : Sm c9 D U) (hd : c9 + 60 ≤ d) (hd4 : d ≤ 40000) {i : Nat} (hi : i + 4 < L) (hL : L ≤ 2560) {K : Nat → Nat → Nat} {r : Nat → Nat → Nat} {mo : Nat → Nat} {o o2 : Nat} {f1 : Nat → Int64} {f2 : Nat → UInt64} (hw : WH G s (lC G o f1 :: (dC G o2 f2 :: cW G K r D (moW G mo U ++ []))) H locs) (hl : lv_has ls 9 (lvL b (K 7 0) (mo 0) o o2 i)) (hc : cells ≤ 400000 ∧ slots ≤ 4000000)
    (kk : ∀ (D' : CD) (U' : MV_) (f1' : Nat → Int64) (f2' : Nat → UInt64) (ls : Array Slot) (H : Heap) (locs : List Loc), Sm d D' U' → WH G s (lC G o f1' :: (dC G o2 f2' :: cW G K r D' (moW G mo U' ++ []))) H locs → lv_has ls 9 (lvL b (K 7 0) (mo 0) o o2 i) → W p l e room_1 s m #[Value.ref b] below meth c H locs (cells + 80) (slots + 600) Q (F0 m 2825 ls [])) : W p l e room_1 s m #[Value.ref b] below meth c H locs cells slots Q (F0 m 2680 ls []) := by
  have hF := C.2.2.2.2.2.2.2.2
  refine lv_aload_n C.1 C.2.1 dL_law_2680 rfl (lv_at hl 4 rfl) ?_
  refine lv_aload_n C.1 C.2.1 dL_law_2681 rfl (lv_at hl 2 rfl) ?_
  have hfin := fin_failedCommand (U := U) h hd hd4 
  refine r_hsi C hw (w_failedCommand hF (f := f1) (o := o) (wA := dC G o2 f2 :: cW G K r D (moW G mo U ++ [])) (WfA := fun u => dC G o2 f2 :: cW G K r (D) (moW G mo U ++ [])) (WxA := fun _ => dC G o2 f2 :: cW G K r (D) (moW G mo U ++ [])) (x11_failedCommand hF (K := K) (S := D.S) (F := D.F) (X := YA G K r D (lC G o f1) (dC G o2 f2) (moW G mo U ++ []))  ) (pw_A _ _ _ _ _ _ _ _ _ _ _ _) 19 rfl (fun u => (pw_A _ _ _ _ _ _ _ _ _ _ _ _).symm) (fun k1 hk => ⟨(hfin.2 k1 hk).1, (pw_A _ _ _ _ _ _ _ _ _ _ _ _).symm⟩)) ml_L_336 yf_L_failedCommand rfl rfl ⟨Nat.le_of_ble_eq_true rfl, Nat.le_of_ble_eq_true rfl⟩ (by show cells + 1 ≤ 603072 ∧ slots + 6 ≤ 7198826; omega) hl.1 (Nat.le_of_ble_eq_true rfl) dL_law_2682 (fun r9 u9 H locs hp hw => ?_)
  obtain ⟨D', f', hw, e1, hs, e2⟩ : ∃ (D' : CD) (f' : Nat → Int64), WH G s (lC G o f' :: (dC G o2 f2 :: cW G K r D' (moW G mo U ++ []))) H locs ∧ r9 = ((mI U 2 (bI (!(!decide (U.1 8 < 0)))), (if (!decide (U.1 8 < 0)) = true then U.1 8 else 0))).1.1 2 ∧ Sm d D' ((mI U 2 (bI (!(!decide (U.1 8 < 0)))), (if (!decide (U.1 8 < 0)) = true then U.1 8 else 0))).1 ∧ (r9 = 0 → f' 0 = ((mI U 2 (bI (!(!decide (U.1 8 < 0)))), (if (!decide (U.1 8 < 0)) = true then U.1 8 else 0))).2.toInt64) := by
    rcases u9 with ⟨r1, u1⟩ | k1
    · obtain ⟨e, hp⟩ := hp
      obtain ⟨t1, t2, t3⟩ := hfin.1 r1 u1 hp
      exact ⟨_, _, hw, e.trans t1.symm, t3, fun _ => by rw [t2]; rfl⟩
    · obtain ⟨e, hp⟩ := hp
      obtain ⟨t0, t2, t3⟩ := hfin.2 k1 hp
      refine ⟨_, _, hw, e.trans t2, t3, fun e0 => ?_⟩
      exfalso
      rw [e] at e0
      rcases t0 with t0 <;> subst t0 <;> exact absurd e0 (by decide)
  refine lv_istore (lv' := (6, .int r9) :: lvL b (K 7 0) (mo 0) o o2 i) C.1 C.2.1 dL_law_2685 hl (by decide) rfl (fun ls hl => ?_)
  refine lv_aload_n C.1 C.2.1 dL_law_2687 rfl (lv_at hl 4 rfl) ?_
  refine r_vi C (hw.perm (pw_M _ _ _ _ _ _ _ _ _ _ _ _ _)) (k12_failedCommand hF (U := U) (mo := mo)  ) ml_L_338 yf_X12_failedCommand 0 rfl rfl (As := []) rfl rfl ⟨Nat.le_of_ble_eq_true rfl, Nat.le_of_ble_eq_true rfl⟩ (by show cells + 1 + 0 ≤ 603072 ∧ slots + 6 + 0 ≤ 7198826; omega) hl.1 (Nat.le_of_ble_eq_true rfl) dL_law_2688 (fun r3 _ H locs hp3 hw => ?_)
  exact law_tail C hw (k := r9) e1 (fun e => (e2 e).trans (by rw [hp3])) hl ⟨by omega, by omega⟩ dL_law_2691 dL_law_2693 dL_law_2694 dL_law_2697 dL_law_2699 dL_law_2704 dL_law_2706 dL_law_2709 dL_law_2710 dL_law_2711 dL_law_2712 dL_law_2714 dL_law_2715 dL_law_2716 dL_law_2721 (by decide) (fun ls H locs hl hw => W.widen (by omega) (by omega) (kk D' _ f' f2 ls H locs hs (hw.perm (pw_M _ _ _ _ _ _ _ _ _ _ _ _ _).symm) hl))
set_option maxHeartbeats 4000000 in
set_option maxRecDepth 100000 in
theorem lc_undo (C : Cx l G RL cL_law 9 ret p s m meth c #[Value.ref b]) (hX : va_X b L xs s s.heap) (hbl : b < s.heap.size) (hbA : ¬ gA G b) {c9 d : Int} {D : CD} {U : MV_} (h : Sm c9 D U) (hd : c9 + 60 ≤ d) (hd4 : d ≤ 40000) {i : Nat} (hi : i + 4 < L) (hL : L ≤ 2560) {K : Nat → Nat → Nat} {r : Nat → Nat → Nat} {mo : Nat → Nat} {o o2 : Nat} {f1 : Nat → Int64} {f2 : Nat → UInt64} (hw : WH G s (lC G o f1 :: (dC G o2 f2 :: cW G K r D (moW G mo U ++ []))) H locs) (hl : lv_has ls 9 (lvL b (K 7 0) (mo 0) o o2 i)) (hc : cells ≤ 400000 ∧ slots ≤ 4000000)
    (kk : ∀ (D' : CD) (U' : MV_) (f1' : Nat → Int64) (f2' : Nat → UInt64) (ls : Array Slot) (H : Heap) (locs : List Loc), Sm d D' U' → WH G s (lC G o f1' :: (dC G o2 f2' :: cW G K r D' (moW G mo U' ++ []))) H locs → lv_has ls 9 (lvL b (K 7 0) (mo 0) o o2 i) → W p l e room_1 s m #[Value.ref b] below meth c H locs (cells + 80) (slots + 600) Q (F0 m 2825 ls [])) : W p l e room_1 s m #[Value.ref b] below meth c H locs cells slots Q (F0 m 2724 ls []) := by
  have hF := C.2.2.2.2.2.2.2.2
  refine lv_aload_n C.1 C.2.1 dL_law_2724 rfl (lv_at hl 4 rfl) ?_
  refine lv_aload_n C.1 C.2.1 dL_law_2725 rfl (lv_at hl 2 rfl) ?_
  have hfin := fin_undo (U := U) h hd hd4 
  refine r_hsi C hw (w_undo hF (f := f1) (o := o) (wA := dC G o2 f2 :: cW G K r D (moW G mo U ++ [])) (WfA := fun u => dC G o2 f2 :: cW G K r (cdm (D.V D.nw) D.B D.N D.V (rgP D.nw) (D.dp - 1) D.f D.g D.ut D.LT D.vb D.p0 D.gp D.ul D.LL D.F) (moW G mo U ++ [])) (WxA := fun _ => dC G o2 f2 :: cW G K r (D) (moW G mo U ++ [])) (x11_undo hF (K := K) (S := D.S) (r := r) (V := D.V) (nw := D.nw) (dp := D.dp) (F := D.F) (X := YB G K r D (lC G o f1) (dC G o2 f2) (moW G mo U ++ [])) h.nw h.dp h.vb2 ) (pw_B _ _ _ _ _ _ _ _ _ _ _ _) 19 rfl (fun u => (pw_B _ _ _ _ _ _ _ _ _ _ _ _).symm) (fun k1 hk => ⟨(hfin.2 k1 hk).1, (pw_B _ _ _ _ _ _ _ _ _ _ _ _).symm⟩)) ml_L_339 yf_L_undo rfl rfl ⟨Nat.le_of_ble_eq_true rfl, Nat.le_of_ble_eq_true rfl⟩ (by show cells + 1 ≤ 603072 ∧ slots + 6 ≤ 7198826; omega) hl.1 (Nat.le_of_ble_eq_true rfl) dL_law_2726 (fun r9 u9 H locs hp hw => ?_)
  obtain ⟨D', f', hw, e1, hs, e2⟩ : ∃ (D' : CD) (f' : Nat → Int64), WH G s (lC G o f' :: (dC G o2 f2 :: cW G K r D' (moW G mo U ++ []))) H locs ∧ r9 = ((unM U D.dp)).1.1 2 ∧ Sm d D' ((unM U D.dp)).1 ∧ (r9 = 0 → f' 0 = ((unM U D.dp)).2.toInt64) := by
    rcases u9 with ⟨r1, u1⟩ | k1
    · obtain ⟨e, hp⟩ := hp
      obtain ⟨t1, t2, t3⟩ := hfin.1 r1 u1 hp
      exact ⟨_, _, hw, e.trans t1.symm, t3, fun _ => by rw [t2]; rfl⟩
    · obtain ⟨e, hp⟩ := hp
      obtain ⟨t0, t2, t3⟩ := hfin.2 k1 hp
      refine ⟨_, _, hw, e.trans t2, t3, fun e0 => ?_⟩
      exfalso
      rw [e] at e0
      rcases t0 with t0 <;> subst t0 <;> exact absurd e0 (by decide)
  refine lv_istore (lv' := (6, .int r9) :: lvL b (K 7 0) (mo 0) o o2 i) C.1 C.2.1 dL_law_2729 hl (by decide) rfl (fun ls hl => ?_)
  refine lv_aload_n C.1 C.2.1 dL_law_2731 rfl (lv_at hl 4 rfl) ?_
  refine r_vi C (hw.perm (pw_M _ _ _ _ _ _ _ _ _ _ _ _ _)) (k12_undo hF (U := U) (mo := mo) h.pm h.dp ) ml_L_341 yf_X12_undo 0 rfl rfl (As := []) rfl rfl ⟨Nat.le_of_ble_eq_true rfl, Nat.le_of_ble_eq_true rfl⟩ (by show cells + 1 + 0 ≤ 603072 ∧ slots + 6 + 0 ≤ 7198826; omega) hl.1 (Nat.le_of_ble_eq_true rfl) dL_law_2732 (fun r3 _ H locs hp3 hw => ?_)
  exact law_tail C hw (k := r9) e1 (fun e => (e2 e).trans (by rw [hp3])) hl ⟨by omega, by omega⟩ dL_law_2735 dL_law_2737 dL_law_2738 dL_law_2741 dL_law_2743 dL_law_2748 dL_law_2750 dL_law_2753 dL_law_2754 dL_law_2755 dL_law_2756 dL_law_2758 dL_law_2759 dL_law_2760 dL_law_2765 (by decide) (fun ls H locs hl hw => W.widen (by omega) (by omega) (kk D' _ f' f2 ls H locs hs (hw.perm (pw_M _ _ _ _ _ _ _ _ _ _ _ _ _).symm) hl))
set_option maxHeartbeats 4000000 in
set_option maxRecDepth 100000 in
theorem lc_restore (C : Cx l G RL cL_law 9 ret p s m meth c #[Value.ref b]) (hX : va_X b L xs s s.heap) (hbl : b < s.heap.size) (hbA : ¬ gA G b) {c9 d : Int} {D : CD} {U : MV_} (h : Sm c9 D U) (hd : c9 + 60 ≤ d) (hd4 : d ≤ 40000) {i : Nat} (hi : i + 4 < L) (hL : L ≤ 2560) {K : Nat → Nat → Nat} {r : Nat → Nat → Nat} {mo : Nat → Nat} {o o2 : Nat} {f1 : Nat → Int64} {f2 : Nat → UInt64} (hw : WH G s (lC G o f1 :: (dC G o2 f2 :: cW G K r D (moW G mo U ++ []))) H locs) (hl : lv_has ls 9 (lvL b (K 7 0) (mo 0) o o2 i)) (hc : cells ≤ 400000 ∧ slots ≤ 4000000)
    (kk : ∀ (D' : CD) (U' : MV_) (f1' : Nat → Int64) (f2' : Nat → UInt64) (ls : Array Slot) (H : Heap) (locs : List Loc), Sm d D' U' → WH G s (lC G o f1' :: (dC G o2 f2' :: cW G K r D' (moW G mo U' ++ []))) H locs → lv_has ls 9 (lvL b (K 7 0) (mo 0) o o2 i) → W p l e room_1 s m #[Value.ref b] below meth c H locs (cells + 80) (slots + 600) Q (F0 m 2825 ls [])) : W p l e room_1 s m #[Value.ref b] below meth c H locs cells slots Q (F0 m 2781 ls []) := by
  have hF := C.2.2.2.2.2.2.2.2
  refine lv_aload_n C.1 C.2.1 dL_law_2781 rfl (lv_at hl 4 rfl) ?_
  refine lv_aload_n C.1 C.2.1 dL_law_2782 rfl (lv_at hl 2 rfl) ?_
  have hfin := fin_restore (U := U) h hd hd4 
  refine r_hsi C hw (w_restore hF (f := f1) (o := o) (wA := dC G o2 f2 :: cW G K r D (moW G mo U ++ [])) (WfA := fun u => dC G o2 f2 :: cW G K r (cdm D.N D.B D.N D.V D.nw 0 D.f D.g D.ut D.LT D.vb D.p0 D.gp D.ul D.LL D.F) (moW G mo U ++ [])) (WxA := fun _ => dC G o2 f2 :: cW G K r (D) (moW G mo U ++ [])) (x11_restore hF (K := K) (S := D.S) (N := D.N) (r := r) (V := D.V) (nw := D.nw) (dp := D.dp) (F := D.F) (X := YD G K r D (lC G o f1) (dC G o2 f2) (moW G mo U ++ [])) h.nb2 ) (pw_D _ _ _ _ _ _ _ _ _ _ _ _) 19 rfl (fun u => (pw_D _ _ _ _ _ _ _ _ _ _ _ _).symm) (fun k1 hk => ⟨(hfin.2 k1 hk).1, (pw_D _ _ _ _ _ _ _ _ _ _ _ _).symm⟩)) ml_L_346 yf_L_restore rfl rfl ⟨Nat.le_of_ble_eq_true rfl, Nat.le_of_ble_eq_true rfl⟩ (by show cells + 1 ≤ 603072 ∧ slots + 6 ≤ 7198826; omega) hl.1 (Nat.le_of_ble_eq_true rfl) dL_law_2783 (fun r9 u9 H locs hp hw => ?_)
  obtain ⟨D', f', hw, e1, hs, e2⟩ : ∃ (D' : CD) (f' : Nat → Int64), WH G s (lC G o f' :: (dC G o2 f2 :: cW G K r D' (moW G mo U ++ []))) H locs ∧ r9 = ((reM U)).1.1 2 ∧ Sm d D' ((reM U)).1 ∧ (r9 = 0 → f' 0 = ((reM U)).2.toInt64) := by
    rcases u9 with ⟨r1, u1⟩ | k1
    · obtain ⟨e, hp⟩ := hp
      obtain ⟨t1, t2, t3⟩ := hfin.1 r1 u1 hp
      exact ⟨_, _, hw, e.trans t1.symm, t3, fun _ => by rw [t2]; rfl⟩
    · obtain ⟨e, hp⟩ := hp
      obtain ⟨t0, t2, t3⟩ := hfin.2 k1 hp
      refine ⟨_, _, hw, e.trans t2, t3, fun e0 => ?_⟩
      exfalso
      rw [e] at e0
      rcases t0 with t0 <;> subst t0 <;> exact absurd e0 (by decide)
  refine lv_istore (lv' := (6, .int r9) :: lvL b (K 7 0) (mo 0) o o2 i) C.1 C.2.1 dL_law_2786 hl (by decide) rfl (fun ls hl => ?_)
  refine lv_aload_n C.1 C.2.1 dL_law_2788 rfl (lv_at hl 4 rfl) ?_
  refine r_vi C (hw.perm (pw_M _ _ _ _ _ _ _ _ _ _ _ _ _)) (k12_restore hF (U := U) (mo := mo)  ) ml_L_348 yf_X12_restore 0 rfl rfl (As := []) rfl rfl ⟨Nat.le_of_ble_eq_true rfl, Nat.le_of_ble_eq_true rfl⟩ (by show cells + 1 + 0 ≤ 603072 ∧ slots + 6 + 0 ≤ 7198826; omega) hl.1 (Nat.le_of_ble_eq_true rfl) dL_law_2789 (fun r3 _ H locs hp3 hw => ?_)
  exact law_tail C hw (k := r9) e1 (fun e => (e2 e).trans (by rw [hp3])) hl ⟨by omega, by omega⟩ dL_law_2792 dL_law_2794 dL_law_2795 dL_law_2798 dL_law_2800 dL_law_2805 dL_law_2807 dL_law_2810 dL_law_2811 dL_law_2812 dL_law_2813 dL_law_2815 dL_law_2816 dL_law_2817 dL_law_2822 (by decide) (fun ls H locs hl hw => W.widen (by omega) (by omega) (kk D' _ f' f2 ls H locs hs (hw.perm (pw_M _ _ _ _ _ _ _ _ _ _ _ _ _).symm) hl))
set_option maxHeartbeats 4000000 in
set_option maxRecDepth 100000 in
theorem lc_type (C : Cx l G RL cL_law 9 ret p s m meth c #[Value.ref b]) (hX : va_X b L xs s s.heap) (hbl : b < s.heap.size) (hbA : ¬ gA G b) {c9 d : Int} {D : CD} {U : MV_} (h : Sm c9 D U) (hd : c9 + 60 ≤ d) (hd4 : d ≤ 40000) {i : Nat} (hi : i + 4 < L) (hL : L ≤ 2560) {K : Nat → Nat → Nat} {r : Nat → Nat → Nat} {mo : Nat → Nat} {o o2 : Nat} {f1 : Nat → Int64} {f2 : Nat → UInt64} (hw : WH G s (lC G o f1 :: (dC G o2 f2 :: cW G K r D (moW G mo U ++ []))) H locs) (hl : lv_has ls 9 (lvL b (K 7 0) (mo 0) o o2 i)) (hc : cells ≤ 400000 ∧ slots ≤ 4000000)
    (kk : ∀ (D' : CD) (U' : MV_) (f1' : Nat → Int64) (f2' : Nat → UInt64) (ls : Array Slot) (H : Heap) (locs : List Loc), Sm d D' U' → WH G s (lC G o f1' :: (dC G o2 f2' :: cW G K r D' (moW G mo U' ++ []))) H locs → lv_has ls 9 (lvL b (K 7 0) (mo 0) o o2 i) → W p l e room_1 s m #[Value.ref b] below meth c H locs (cells + 80) (slots + 600) Q (F0 m 2825 ls [])) : W p l e room_1 s m #[Value.ref b] below meth c H locs cells slots Q (F0 m 2534 ls []) := by
  have hF := C.2.2.2.2.2.2.2.2
  refine lv_aload_n C.1 C.2.1 dL_law_2534 rfl (lv_at hl 4 rfl) ?_
  refine law_arg C hX hbl hbA hw.2.1 (k := 1) (off := 1) (by omega) hL (lv_at hl 5 rfl) (lv_at hl 0 rfl) dL_law_2535 dL_law_2536 dL_law_2538 (by decide) dL_law_2539 dL_law_2540 ?_
  refine lv_i2c (v := ((xs (i + 1)).toUInt32 % 65536).toInt32) C.1 C.2.1 dL_law_2541 rfl ?_
  refine lv_aload_n C.1 C.2.1 dL_law_2542 rfl (lv_at hl 2 rfl) ?_
  have hfin := fin_type (U := U) h hd hd4 ((xs (i + 1)).toUInt32 % 65536).toInt32
  refine r_hsi C hw (w_type hF (f := f1) (o := o) (wA := dC G o2 f2 :: cW G K r D (moW G mo U ++ [])) (WfA := fun u => dC G o2 f2 :: cW G K r (cdm D.S D.B D.N D.V D.nw D.dp D.f D.g u (D.LT ++ [((xs (i + 1)).toUInt32 % 65536).toInt32]) D.vb D.p0 D.gp D.ul D.LL D.F) (moW G mo U ++ [])) (WxA := fun _ => dC G o2 f2 :: cW G K r (D) (moW G mo U ++ [])) (x11_type hF (K := K) (F := D.F) (u := D.ut) (L := D.LT) (vb := D.vb) (p0 := D.p0) (g := D.gp) (X := YG G K r D (lC G o f1) (dC G o2 f2) (moW G mo U ++ [])) h.tt h.t7 h.tl ((xs (i + 1)).toUInt32 % 65536).toInt32) (pw_G _ _ _ _ _ _ _ _ _ _ _ _) 5 rfl (fun u => (pw_G _ _ _ _ _ _ _ _ _ _ _ _).symm) (fun k1 hk => ⟨(hfin.2 k1 hk).1, (pw_G _ _ _ _ _ _ _ _ _ _ _ _).symm⟩)) ml_L_326 yf_L_type rfl rfl ⟨Nat.le_of_ble_eq_true rfl, Nat.le_of_ble_eq_true rfl⟩ (by show cells + 2 ≤ 603072 ∧ slots + 76 ≤ 7198826; omega) hl.1 (Nat.le_of_ble_eq_true rfl) dL_law_2543 (fun r9 u9 H locs hp hw => ?_)
  obtain ⟨D', f', hw, e1, hs, e2⟩ : ∃ (D' : CD) (f' : Nat → Int64), WH G s (lC G o f' :: (dC G o2 f2 :: cW G K r D' (moW G mo U ++ []))) H locs ∧ r9 = ((tyM U ((xs (i + 1)).toUInt32 % 65536).toInt32 D.LT.length)).1.1 2 ∧ Sm d D' ((tyM U ((xs (i + 1)).toUInt32 % 65536).toInt32 D.LT.length)).1 ∧ (r9 = 0 → f' 0 = ((tyM U ((xs (i + 1)).toUInt32 % 65536).toInt32 D.LT.length)).2.toInt64) := by
    rcases u9 with ⟨r1, u1⟩ | k1
    · obtain ⟨e, hp⟩ := hp
      obtain ⟨t1, t2, t3⟩ := hfin.1 r1 u1 hp
      exact ⟨_, _, hw, e.trans t1.symm, t3, fun _ => by rw [t2]; rfl⟩
    · obtain ⟨e, hp⟩ := hp
      obtain ⟨t0, t2, t3⟩ := hfin.2 k1 hp
      refine ⟨_, _, hw, e.trans t2, t3, fun e0 => ?_⟩
      exfalso
      rw [e] at e0
      rcases t0 with t0 | t0 <;> subst t0 <;> exact absurd e0 (by decide)
  refine lv_istore (lv' := (6, .int r9) :: lvL b (K 7 0) (mo 0) o o2 i) C.1 C.2.1 dL_law_2546 hl (by decide) rfl (fun ls hl => ?_)
  refine lv_aload_n C.1 C.2.1 dL_law_2548 rfl (lv_at hl 4 rfl) ?_
  refine law_arg C hX hbl hbA hw.2.1 (k := 1) (off := 1) (by omega) hL (lv_at hl 6 rfl) (lv_at hl 1 rfl) dL_law_2549 dL_law_2550 dL_law_2552 (by decide) dL_law_2553 dL_law_2554 ?_
  refine lv_i2c (v := ((xs (i + 1)).toUInt32 % 65536).toInt32) C.1 C.2.1 dL_law_2555 rfl ?_
  refine r_vi C (hw.perm (pw_M _ _ _ _ _ _ _ _ _ _ _ _ _)) (k12_type hF (U := U) (mo := mo) h.tn h.tl ((xs (i + 1)).toUInt32 % 65536).toInt32) ml_L_329 yf_X12_type 0 rfl rfl (As := [.int (((xs (i + 1)).toUInt32 % 65536).toInt32)]) rfl rfl ⟨Nat.le_of_ble_eq_true rfl, Nat.le_of_ble_eq_true rfl⟩ (by show cells + 2 + 0 ≤ 603072 ∧ slots + 76 + 0 ≤ 7198826; omega) hl.1 (Nat.le_of_ble_eq_true rfl) dL_law_2556 (fun r3 _ H locs hp3 hw => ?_)
  exact law_tail C hw (k := r9) e1 (fun e => (e2 e).trans (by rw [hp3])) hl ⟨by omega, by omega⟩ dL_law_2559 dL_law_2561 dL_law_2562 dL_law_2565 dL_law_2567 dL_law_2572 dL_law_2574 dL_law_2577 dL_law_2578 dL_law_2579 dL_law_2580 dL_law_2582 dL_law_2583 dL_law_2584 dL_law_2589 (by decide) (fun ls H locs hl hw => W.widen (by omega) (by omega) (kk D' _ f' f2 ls H locs hs (hw.perm (pw_M _ _ _ _ _ _ _ _ _ _ _ _ _).symm) hl))
set_option maxHeartbeats 4000000 in
set_option maxRecDepth 100000 in
theorem lc_writeOrder (C : Cx l G RL cL_law 9 ret p s m meth c #[Value.ref b]) (hX : va_X b L xs s s.heap) (hbl : b < s.heap.size) (hbA : ¬ gA G b) {c9 d : Int} {D : CD} {U : MV_} (h : Sm c9 D U) (hd : c9 + 60 ≤ d) (hd4 : d ≤ 40000) {i : Nat} (hi : i + 4 < L) (hL : L ≤ 2560) {K : Nat → Nat → Nat} {r : Nat → Nat → Nat} {mo : Nat → Nat} {o o2 : Nat} {f1 : Nat → Int64} {f2 : Nat → UInt64} (hw : WH G s (lC G o f1 :: (dC G o2 f2 :: cW G K r D (moW G mo U ++ []))) H locs) (hl : lv_has ls 9 (lvL b (K 7 0) (mo 0) o o2 i)) (hc : cells ≤ 400000 ∧ slots ≤ 4000000)
    (kk : ∀ (D' : CD) (U' : MV_) (f1' : Nat → Int64) (f2' : Nat → UInt64) (ls : Array Slot) (H : Heap) (locs : List Loc), Sm d D' U' → WH G s (lC G o f1' :: (dC G o2 f2' :: cW G K r D' (moW G mo U' ++ []))) H locs → lv_has ls 9 (lvL b (K 7 0) (mo 0) o o2 i) → W p l e room_1 s m #[Value.ref b] below meth c H locs (cells + 80) (slots + 600) Q (F0 m 2825 ls [])) : W p l e room_1 s m #[Value.ref b] below meth c H locs cells slots Q (F0 m 2396 ls []) := by
  have hF := C.2.2.2.2.2.2.2.2
  refine lv_aload_n C.1 C.2.1 dL_law_2396 rfl (lv_at hl 4 rfl) ?_
  refine law_arg C hX hbl hbA hw.2.1 (k := 1) (off := 1) (by omega) hL (lv_at hl 5 rfl) (lv_at hl 0 rfl) dL_law_2397 dL_law_2398 dL_law_2400 (by decide) dL_law_2401 dL_law_2402 ?_
  refine lv_aload_n C.1 C.2.1 dL_law_2403 rfl (lv_at hl 2 rfl) ?_
  have hfin := fin_writeOrder (U := U) h hd hd4 (xs (i + 1))
  refine r_hsi C hw (w_writeOrder hF (f := f1) (o := o) (wA := dC G o2 f2 :: cW G K r D (moW G mo U ++ [])) (WfA := fun u => dC G o2 f2 :: cW G K r (cdm D.S D.B D.N D.V D.nw D.dp D.f D.g D.ut D.LT D.vb D.p0 D.gp u.2 ((((dgN (xs (i + 1)) ++ [if buyS D.S u.1 = true then nI 98 else nI 115]) ++ dgN (D.S.2.1 6 u.1)) ++ [nI 120]) ++ dgN (D.S.2.1 5 u.1)) D.F) (moW G mo U ++ [])) (WxA := fun _ => dC G o2 f2 :: cW G K r (D) (moW G mo U ++ [])) (x11_writeOrder hF (K := K) (S := D.S) (F := D.F) (u := D.ul) (L := D.LL) (X := YF G K r D (lC G o f1) (dC G o2 f2) (moW G mo U ++ [])) h.lt h.ok (xs (i + 1)) ((smN_ok h.rl h.iz).2 (xs (i + 1)))) (pw_F _ _ _ _ _ _ _ _ _ _ _ _) 19 rfl (fun u => (pw_F _ _ _ _ _ _ _ _ _ _ _ _).symm) (fun k1 hk => ⟨(hfin.2 k1 hk).1, (pw_F _ _ _ _ _ _ _ _ _ _ _ _).symm⟩)) ml_L_312 yf_L_writeOrder rfl rfl ⟨Nat.le_of_ble_eq_true rfl, Nat.le_of_ble_eq_true rfl⟩ (by show cells + 7 ≤ 603072 ∧ slots + 426 ≤ 7198826; omega) hl.1 (Nat.le_of_ble_eq_true rfl) dL_law_2404 (fun r9 u9 H locs hp hw => ?_)
  obtain ⟨D', f', hw, e1, hs, e2⟩ : ∃ (D' : CD) (f' : Nat → Int64), WH G s (lC G o f' :: (dC G o2 f2 :: cW G K r D' (moW G mo U ++ []))) H locs ∧ r9 = ((woM U (xs (i + 1)))).1.1 2 ∧ Sm d D' ((woM U (xs (i + 1)))).1 ∧ (r9 = 0 → f' 0 = ((woM U (xs (i + 1)))).2.toInt64) := by
    rcases u9 with ⟨r1, u1⟩ | k1
    · obtain ⟨e, hp⟩ := hp
      obtain ⟨t1, t2, t3⟩ := hfin.1 r1 u1 hp
      exact ⟨_, _, hw, e.trans t1.symm, t3, fun _ => by rw [t2]; rfl⟩
    · obtain ⟨e, hp⟩ := hp
      obtain ⟨t0, t2, t3⟩ := hfin.2 k1 hp
      refine ⟨_, _, hw, e.trans t2, t3, fun e0 => ?_⟩
      exfalso
      rw [e] at e0
      rcases t0 with t0 <;> subst t0 <;> exact absurd e0 (by decide)
  refine lv_istore (lv' := (6, .int r9) :: lvL b (K 7 0) (mo 0) o o2 i) C.1 C.2.1 dL_law_2407 hl (by decide) rfl (fun ls hl => ?_)
  refine lv_aload_n C.1 C.2.1 dL_law_2409 rfl (lv_at hl 4 rfl) ?_
  refine law_arg C hX hbl hbA hw.2.1 (k := 1) (off := 1) (by omega) hL (lv_at hl 6 rfl) (lv_at hl 1 rfl) dL_law_2410 dL_law_2411 dL_law_2413 (by decide) dL_law_2414 dL_law_2415 ?_
  refine r_vi C (hw.perm (pw_M _ _ _ _ _ _ _ _ _ _ _ _ _)) (k12_writeOrder hF (U := U) (mo := mo) h.okf (okL_ok h.iz) (xs (i + 1))) ml_L_314 yf_X12_writeOrder 0 rfl rfl (As := [.int (xs (i + 1))]) rfl rfl ⟨Nat.le_of_ble_eq_true rfl, Nat.le_of_ble_eq_true rfl⟩ (by show cells + 7 + 0 ≤ 603072 ∧ slots + 426 + 0 ≤ 7198826; omega) hl.1 (Nat.le_of_ble_eq_true rfl) dL_law_2416 (fun r3 _ H locs hp3 hw => ?_)
  exact law_tail C hw (k := r9) e1 (fun e => (e2 e).trans (by rw [hp3])) hl ⟨by omega, by omega⟩ dL_law_2419 dL_law_2421 dL_law_2422 dL_law_2425 dL_law_2427 dL_law_2432 dL_law_2434 dL_law_2437 dL_law_2438 dL_law_2439 dL_law_2440 dL_law_2442 dL_law_2443 dL_law_2444 dL_law_2449 (by decide) (fun ls H locs hl hw => W.widen (by omega) (by omega) (kk D' _ f' f2 ls H locs hs (hw.perm (pw_M _ _ _ _ _ _ _ _ _ _ _ _ _).symm) hl))
set_option maxHeartbeats 4000000 in
set_option maxRecDepth 100000 in
theorem lc_lineAt (C : Cx l G RL cL_law 9 ret p s m meth c #[Value.ref b]) (hX : va_X b L xs s s.heap) (hbl : b < s.heap.size) (hbA : ¬ gA G b) {c9 d : Int} {D : CD} {U : MV_} (h : Sm c9 D U) (hd : c9 + 60 ≤ d) (hd4 : d ≤ 40000) {i : Nat} (hi : i + 4 < L) (hL : L ≤ 2560) {K : Nat → Nat → Nat} {r : Nat → Nat → Nat} {mo : Nat → Nat} {o o2 : Nat} {f1 : Nat → Int64} {f2 : Nat → UInt64} (hw : WH G s (lC G o f1 :: (dC G o2 f2 :: cW G K r D (moW G mo U ++ []))) H locs) (hl : lv_has ls 9 (lvL b (K 7 0) (mo 0) o o2 i)) (hc : cells ≤ 400000 ∧ slots ≤ 4000000)
    (kk : ∀ (D' : CD) (U' : MV_) (f1' : Nat → Int64) (f2' : Nat → UInt64) (ls : Array Slot) (H : Heap) (locs : List Loc), Sm d D' U' → WH G s (lC G o f1' :: (dC G o2 f2' :: cW G K r D' (moW G mo U' ++ []))) H locs → lv_has ls 9 (lvL b (K 7 0) (mo 0) o o2 i) → W p l e room_1 s m #[Value.ref b] below meth c H locs (cells + 80) (slots + 600) Q (F0 m 2825 ls [])) : W p l e room_1 s m #[Value.ref b] below meth c H locs cells slots Q (F0 m 2465 ls []) := by
  have hF := C.2.2.2.2.2.2.2.2
  refine lv_aload_n C.1 C.2.1 dL_law_2465 rfl (lv_at hl 4 rfl) ?_
  refine law_arg C hX hbl hbA hw.2.1 (k := 1) (off := 1) (by omega) hL (lv_at hl 5 rfl) (lv_at hl 0 rfl) dL_law_2466 dL_law_2467 dL_law_2469 (by decide) dL_law_2470 dL_law_2471 ?_
  refine lv_aload_n C.1 C.2.1 dL_law_2472 rfl (lv_at hl 2 rfl) ?_
  have hfin := fin_lineAt (U := U) h hd hd4 (xs (i + 1))
  refine r_hsi C hw (w_lineAt hF (f := f1) (o := o) (wA := dC G o2 f2 :: cW G K r D (moW G mo U ++ [])) (WfA := fun u => dC G o2 f2 :: cW G K r (D) (moW G mo U ++ [])) (WxA := fun _ => dC G o2 f2 :: cW G K r (D) (moW G mo U ++ [])) (x11_lineAt hF (K := K) (S := D.S) (F := D.F) (u := D.ul) (L := D.LL) (X := YF G K r D (lC G o f1) (dC G o2 f2) (moW G mo U ++ [])) h.lt h.l7 (show D.LL.length ≤ 70 by have := h.ll; omega) (xs (i + 1))) (pw_F _ _ _ _ _ _ _ _ _ _ _ _) 19 rfl (fun u => (pw_F _ _ _ _ _ _ _ _ _ _ _ _).symm) (fun k1 hk => ⟨(hfin.2 k1 hk).1, (pw_F _ _ _ _ _ _ _ _ _ _ _ _).symm⟩)) ml_L_319 yf_L_lineAt rfl rfl ⟨Nat.le_of_ble_eq_true rfl, Nat.le_of_ble_eq_true rfl⟩ (by show cells + 1 ≤ 603072 ∧ slots + 6 ≤ 7198826; omega) hl.1 (Nat.le_of_ble_eq_true rfl) dL_law_2473 (fun r9 u9 H locs hp hw => ?_)
  obtain ⟨D', f', hw, e1, hs, e2⟩ : ∃ (D' : CD) (f' : Nat → Int64), WH G s (lC G o f' :: (dC G o2 f2 :: cW G K r D' (moW G mo U ++ []))) H locs ∧ r9 = ((mI U 2 (bI (!inR (xs (i + 1)) 0 (nI D.LL.length - 1))), (if inR (xs (i + 1)) 0 (nI D.LL.length - 1) = true then U.2 4 (xs (i + 1)).toNatClampNeg else 32))).1.1 2 ∧ Sm d D' ((mI U 2 (bI (!inR (xs (i + 1)) 0 (nI D.LL.length - 1))), (if inR (xs (i + 1)) 0 (nI D.LL.length - 1) = true then U.2 4 (xs (i + 1)).toNatClampNeg else 32))).1 ∧ (r9 = 0 → f' 0 = ((mI U 2 (bI (!inR (xs (i + 1)) 0 (nI D.LL.length - 1))), (if inR (xs (i + 1)) 0 (nI D.LL.length - 1) = true then U.2 4 (xs (i + 1)).toNatClampNeg else 32))).2.toInt64) := by
    rcases u9 with ⟨r1, u1⟩ | k1
    · obtain ⟨e, hp⟩ := hp
      obtain ⟨t1, t2, t3⟩ := hfin.1 r1 u1 hp
      exact ⟨_, _, hw, e.trans t1.symm, t3, fun _ => by rw [t2]; rfl⟩
    · obtain ⟨e, hp⟩ := hp
      obtain ⟨t0, t2, t3⟩ := hfin.2 k1 hp
      refine ⟨_, _, hw, e.trans t2, t3, fun e0 => ?_⟩
      exfalso
      rw [e] at e0
      rcases t0 with t0 <;> subst t0 <;> exact absurd e0 (by decide)
  refine lv_istore (lv' := (6, .int r9) :: lvL b (K 7 0) (mo 0) o o2 i) C.1 C.2.1 dL_law_2476 hl (by decide) rfl (fun ls hl => ?_)
  refine lv_aload_n C.1 C.2.1 dL_law_2478 rfl (lv_at hl 4 rfl) ?_
  refine law_arg C hX hbl hbA hw.2.1 (k := 1) (off := 1) (by omega) hL (lv_at hl 6 rfl) (lv_at hl 1 rfl) dL_law_2479 dL_law_2480 dL_law_2482 (by decide) dL_law_2483 dL_law_2484 ?_
  refine r_vi C (hw.perm (pw_M _ _ _ _ _ _ _ _ _ _ _ _ _)) (k12_lineAt hF (U := U) (mo := mo) h.ln h.ll h.lh (xs (i + 1))) ml_L_321 yf_X12_lineAt 0 rfl rfl (As := [.int (xs (i + 1))]) rfl rfl ⟨Nat.le_of_ble_eq_true rfl, Nat.le_of_ble_eq_true rfl⟩ (by show cells + 1 + 0 ≤ 603072 ∧ slots + 6 + 0 ≤ 7198826; omega) hl.1 (Nat.le_of_ble_eq_true rfl) dL_law_2485 (fun r3 _ H locs hp3 hw => ?_)
  exact law_tail C hw (k := r9) e1 (fun e => (e2 e).trans (by rw [hp3])) hl ⟨by omega, by omega⟩ dL_law_2488 dL_law_2490 dL_law_2491 dL_law_2494 dL_law_2496 dL_law_2501 dL_law_2503 dL_law_2506 dL_law_2507 dL_law_2508 dL_law_2509 dL_law_2511 dL_law_2512 dL_law_2513 dL_law_2518 (by decide) (fun ls H locs hl hw => W.widen (by omega) (by omega) (kk D' _ f' f2 ls H locs hs (hw.perm (pw_M _ _ _ _ _ _ _ _ _ _ _ _ _).symm) hl))
end LAWC
