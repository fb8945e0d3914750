/-! Constructors of History and DropMarket -/
section DMC
variable {p : Program} {l : Launch} {e : Env} {R : Room} {s : State} {m : MethodId} {args : Array Value} {below : List Frame} {meth : Method} {c : Code} {H : Heap} {locs : List Loc} {cells slots : Nat} {Q : State → Prop}
variable {G : Gx} {own : String} {cc : ByteArray} {nL : Nat} {ret : Option FieldType} {pc : Nat} {ls : Array Slot} {rest st : List Value} {w : va_W}
theorem r_newq (C : Cx l G own cc nL ret p s m meth c args) (hw : WH G s w H locs) {index : Nat} (t0 : Nat) (ht : (gT G)[t0]? = some (G.2.2.1 t0, .object "DropMarket$State")) (hcl : Cond.classLink own index "DropMarket$State" ∈ LW) {n : Nat} (hn : n < 2 ^ 31) {w' : Nat → va_W} (hp : ∀ q, List.Perm (w ++ [(q, .inl (G.2.2.1 t0, n, .inr (.inr (.inr (.inr (fun _ => none))))))]) (w' q)) (hbytes : n * 4 ≤ 536870912) (hcells : cells + 1 ≤ R.cells) (hslots : slots + n ≤ R.slots) (hdg : decode cc pc = .ok (.anewarray index, 3))
    (kk : ∀ (q : Nat) (H : Heap) (locs : List Loc), WH G s (w' q) H locs → W p l e R s m args below meth c H locs (cells + 1) (slots + n) Q (F0 m (pc + 3) ls (.ref q :: rest))) : W p l e R s m args below meth c H locs cells slots Q (F0 m pc ls (.int (nI n) :: rest)) := by
  obtain ⟨b, hb0, -⟩ := C.2.2.2.2.2.2.2.2.2.2.2.2
  have hao : va_AO "DropMarket$State" s := va_AO.moved C.2.2.2.2.2.2.2.1.alike (va_AO.of (hb0 _ (tb1 _ (List.mem_of_getElem? (i := 177) rfl))))
  refine va_newq (D := G.1) C.1 C.2.1 C.2.2.2.2.1 (C.2.2.2.2.2.1 _ hcl) hao C.K hw.2.2.1 hw.2.2.2 hw.2.1 (fun q h => Nat.le_trans hw.1.1 h) (nI_pos hn) (nI_clamp hn) hbytes hcells hslots hdg (fun q cA H1 hK hP hD hS => ?_)
  have e1 : va_RA s (G.2.2.1 t0) (.object "DropMarket$State") := ((C.K).2 t0 _ ht).2
  have e2 : va_RA s cA (.object "DropMarket$State") := (hK.2 (gT G).length (cA, .object "DropMarket$State") (by rw [List.getElem?_append_right (Nat.le_refl _), Nat.sub_self]; rfl)).2
  rw [ra_eq e1 e2] at hP hD
  exact kk q H1 _ (WH.perm ⟨hw.1, hS, hP, hD⟩ (hp q))
theorem r_aast (C : Cx l G own cc nL ret p s m meth c args) (hw : WH G s w H locs) {a v n : Nat} {f : Nat → Option Nat} {vs : List Value} {T : u_T} {N : Nat} (q0 qk ci : Nat) (hc : vwCl[ci]? = some ("DropMarket$State", T, N)) (he : w[q0]? = some (a, .inl (G.2.2.1 3, n, .inr (.inr (.inr (.inr f)))))) (hv : w[qk]? = some (v, .inr (ci, vs))) {i : Int32} (hi : vp_in i n) {w' : va_W} (hw' : w.set q0 (a, .inl (G.2.2.1 3, n, .inr (.inr (.inr (.inr (va_up f i.toNatClampNeg (some v))))))) = w') (hdg : decode cc pc = .ok (.aastore, 1))
    (kk : ∀ (H : Heap) (locs : List Loc), WH G s w' H locs → W p l e R s m args below meth c H locs cells slots Q (F0 m (pc + 1) ls rest)) : W p l e R s m args below meth c H locs cells slots Q (F0 m pc ls (.ref v :: .int i :: .ref a :: rest)) :=
  va_astq (D := G.1) C.1 C.2.1 C.K hw.2.2.1 hw.2.2.2 hw.2.1 q0 3 qk ci he rfl hv hc hi hdg (fun H1 locs1 hP hD hS => kk H1 locs1 ⟨hw.1, hS, hw' ▸ hP, hw' ▸ hD⟩)
theorem arrV_congr {cA n : Nat} {f g : Nat → Value} (h : ∀ j, j < n → f j = g j) : arrV cA n f = arrV cA n g := by
  have e : (fun j : Fin n => f j.val) = fun j => g j.val := funext fun i => h i.1 i.2
  unfold arrV
  rw [e]
/-- an array's cells beyond its length say nothing -/
theorem WH.arq {a n cA : Nat} {f g : Nat → Option Nat} {x : Nat × va_E} {X : va_W} (h : WH G s (x :: (a, .inl (cA, n, .inr (.inr (.inr (.inr f))))) :: X) H locs) (hfg : ∀ j, j < n → f j = g j) : WH G s (x :: (a, .inl (cA, n, .inr (.inr (.inr (.inr g))))) :: X) H locs := by
  have e1 : vp_cell cA (n, .inr (.inr (.inr (.inr f)))) = vp_cell cA (n, .inr (.inr (.inr (.inr g)))) := by
    rw [vp_cell_q, vp_cell_q]
    exact arrV_congr (fun j hj => by rw [hfg j hj])
  refine ⟨h.1, h.2.1, ?_, ?_⟩
  · intro k q hk
    match k, hk with
    | 0, hk => exact h.2.2.1 0 q hk
    | 1, hk =>
      cases hk
      show H[a]? = some (vp_cell cA _)
      rw [← e1]
      exact h.2.2.1 1 _ rfl
    | k + 2, hk => exact h.2.2.1 (k + 2) q hk
  · exact h.2.2.2.set (p := 1) (e := .inl (cA, n, .inr (.inr (.inr (.inr g))))) rfl
end DMC
def hi8 (u_0 u_1 u_2 u_3 u_4 u_5 u_6 u_7 : Nat → Nat) : Nat → Nat → Nat := fun i => match i with | 0 => u_0 | 1 => u_1 | 2 => u_2 | 3 => u_3 | 4 => u_4 | 5 => u_5 | 6 => u_6 | _ => u_7
theorem hi8_up (u_0 u_1 u_2 u_3 u_4 u_5 u_6 u_7 : Nat → Nat) : ∀ j, j < 8 → (va_up (va_up (va_up (va_up (va_up (va_up (va_up (va_up (fun _ => none) 0 (some (u_0 0))) 1 (some (u_1 0))) 2 (some (u_2 0))) 3 (some (u_3 0))) 4 (some (u_4 0))) 5 (some (u_5 0))) 6 (some (u_6 0))) 7 (some (u_7 0))) j = (fun i => some (hi8 u_0 u_1 u_2 u_3 u_4 u_5 u_6 u_7 i 0)) j := by
  intro j hj
  rcases (show j = 0 ∨ j = 1 ∨ j = 2 ∨ j = 3 ∨ j = 4 ∨ j = 5 ∨ j = 6 ∨ j = 7 by omega) with rfl | rfl | rfl | rfl | rfl | rfl | rfl | rfl <;> rfl
theorem hi_rev (A0 A1 A2 A3 A4 A5 A6 A7 Z : va_W) : List.Perm (A7 ++ (A6 ++ (A5 ++ (A4 ++ (A3 ++ (A2 ++ (A1 ++ (A0 ++ Z)))))))) ((A0 ++ (A1 ++ (A2 ++ (A3 ++ (A4 ++ (A5 ++ (A6 ++ (A7 ++ [])))))))) ++ Z) := by
  simp only [List.append_assoc, List.nil_append]
  exact (rp_7 A7 A6 A5 A4 A3 A2 A1 A0 Z).trans (List.Perm.append_left A0 ((rp_6 A7 A6 A5 A4 A3 A2 A1 [] Z).trans (List.Perm.append_left A1 ((rp_5 A7 A6 A5 A4 A3 A2 [] [] Z).trans (List.Perm.append_left A2 ((rp_4 A7 A6 A5 A4 A3 [] [] [] Z).trans (List.Perm.append_left A3 ((rp_3 A7 A6 A5 A4 [] [] [] [] Z).trans (List.Perm.append_left A4 ((rp_2 A7 A6 A5 [] [] [] [] [] Z).trans (List.Perm.append_left A5 (rp_1 A7 A6 [] [] [] [] [] [] Z))))))))))))

set_option maxHeartbeats 4000000 in
set_option maxRecDepth 100000 in
theorem c4_init {l : Launch} {G : Gx} (hF : SF l G) {X : va_W} {q : Nat} : MV l G yX4_init cX4_init 2 4 153 1280 [.ref q] ((q, .inr (6, [.null, .int 0, .int 0])) :: X) (fun u : (Nat → Nat) × (Nat → Nat → Nat) => u.1 0 = q) (fun u => hiW G u.1 u.2 (fun _ => st0) (nI 0) (nI 0) ++ X) := by
  refine mt_of hF (by decide) (Nat.le_of_ble_eq_true rfl) ?_
  intro p e s m below meth c C hin ls hl H locs hw
  have hl : lv_has ls 2 [(0, .ref q)] := hl
  refine lv_aload_n C.1 C.2.1 dX4_init_0 rfl (lv_at hl 0 rfl) ?_
  refine r_objInit C ml_X4_3 obj_i1 obj_i2 hl.1 dX4_init_1 (Nat.le_of_ble_eq_true rfl) (Nat.le_of_ble_eq_true rfl) ?_
  refine lv_aload_n C.1 C.2.1 dX4_init_4 rfl (lv_at hl 0 rfl) ?_
  refine lv_bipush (v := 8) C.1 C.2.1 dX4_init_5 (by decide) ?_
  refine r_toe (show _ = nI 8 from by decide) ?_
  refine r_newq C hw 3 rfl cl_X4_9 (n := 8) (by decide) (w' := fun z => (q, .inr (6, [.null, .int 0, .int 0])) :: ((z, .inl (G.2.2.1 3, 8, .inr (.inr (.inr (.inr (fun _ => none)))))) :: X)) (fun z => (List.perm_append_singleton _ _).trans (List.Perm.swap _ _ _)) (by decide) (Nat.le_of_ble_eq_true rfl) (Nat.le_of_ble_eq_true rfl) dX4_init_7 (fun z H locs hw => ?_)
  refine r_putF C hw 0 rfl rfl in_X4 tyX4 tyX4_ok nmX4 0 (by decide) fl_X4_11 rfl rfl hin rfl rfl rfl (Nat.le_of_ble_eq_true rfl) (w' := (q, .inr (6, [.ref z, .int 0, .int 0])) :: ((z, .inl (G.2.2.1 3, 8, .inr (.inr (.inr (.inr (fun _ => none)))))) :: X)) rfl dX4_init_10 (fun H locs hw => ?_)
  refine lv_aload_n C.1 C.2.1 dX4_init_13 rfl (lv_at hl 0 rfl) ?_
  refine lv_iconst (v := 0) C.1 C.2.1 dX4_init_14 (by decide) ?_
  refine r_put C hw 0 rfl rfl in_X4 tyX4 tyX4_ok nmX4 1 (by decide) fl_X4_17 rfl rfl rfl rfl (Nat.le_of_ble_eq_true rfl) (w' := (q, .inr (6, [.ref z, .int 0, .int 0])) :: ((z, .inl (G.2.2.1 3, 8, .inr (.inr (.inr (.inr (fun _ => none)))))) :: X)) rfl dX4_init_15 (fun H locs hw => ?_)
  refine lv_aload_n C.1 C.2.1 dX4_init_18 rfl (lv_at hl 0 rfl) ?_
  refine lv_iconst (v := 0) C.1 C.2.1 dX4_init_19 (by decide) ?_
  refine r_put C hw 0 rfl rfl in_X4 tyX4 tyX4_ok nmX4 2 (by decide) fl_X4_21 rfl rfl rfl rfl (Nat.le_of_ble_eq_true rfl) (w' := (q, .inr (6, [.ref z, .int 0, .int 0])) :: ((z, .inl (G.2.2.1 3, 8, .inr (.inr (.inr (.inr (fun _ => none)))))) :: X)) rfl dX4_init_20 (fun H locs hw => ?_)
  refine lv_iconst (v := 0) C.1 C.2.1 dX4_init_23 (by decide) ?_
  refine lv_istore_n (lv' := [(1, .int 0), (0, .ref q)]) C.1 C.2.1 dX4_init_24 rfl hl (by decide) rfl (fun ls hl => ?_)
  refine lv_iload_n C.1 C.2.1 dX4_init_25 rfl (lv_at hl 0 rfl) ?_
  refine lv_aload_n C.1 C.2.1 dX4_init_26 rfl (lv_at hl 1 rfl) ?_
  refine r_get C hw 0 rfl rfl in_X4 0 (by decide) fl_X4_11 rfl (v := .ref z) rfl dX4_init_27 ?_
  refine r_alen C hw 3 1 rfl rfl dX4_init_30 ?_
  refine lv_icmp_ge (tgt := 53) C.1 C.2.1 dX4_init_31 (by decide) (fun c_31 => absurd c_31 (by decide)) (fun c_31 => ?_)
  refine lv_aload_n C.1 C.2.1 dX4_init_34 rfl (lv_at hl 1 rfl) ?_
  refine r_get C hw 0 rfl rfl in_X4 0 (by decide) fl_X4_11 rfl (v := .ref z) rfl dX4_init_35 ?_
  refine lv_iload_n C.1 C.2.1 dX4_init_38 rfl (lv_at hl 0 rfl) ?_
  refine r_new C hw cl_X4_9 isb_X9 ini_X9 (ci := 11) rfl in_X9 tyX9 tyX9_ok (fs := [.null, .null, .int 0, .int 0, .int 0, .int 0, .int 0, .int 0, .long 0]) (by decide) (w' := fun zz => (zz, .inr (11, [.null, .null, .int 0, .int 0, .int 0, .int 0, .int 0, .int 0, .long 0])) :: ((q, .inr (6, [.ref z, .int 0, .int 0])) :: ((z, .inl (G.2.2.1 3, 8, .inr (.inr (.inr (.inr (fun _ => none)))))) :: X))) (fun _ => List.perm_append_singleton _ _) (Nat.le_of_ble_eq_true rfl) (Nat.le_of_ble_eq_true rfl) dX4_init_39 (fun o_0 H locs hw => ?_)
  refine lv_dup C.1 C.2.1 dX4_init_42 rfl ?_
  refine r_nv C hw (c9_init hF (X := (q, .inr (6, [.ref z, .int 0, .int 0])) :: ((z, .inl (G.2.2.1 3, 8, .inr (.inr (.inr (.inr (fun _ => none)))))) :: X)) (q := o_0)) mn_X4_24 yf_X9_init rfl (As := []) rfl rfl ⟨(Nat.le_of_ble_eq_true rfl), (Nat.le_of_ble_eq_true rfl)⟩ ⟨(Nat.le_of_ble_eq_true rfl), (Nat.le_of_ble_eq_true rfl)⟩ hl.1 (Nat.le_of_ble_eq_true rfl) dX4_init_43 (fun u_0 H locs hp_0 hw => ?_)
  rw [show o_0 = u_0 0 from hp_0.symm]
  refine r_aast C hw 20 0 11 rfl rfl rfl (n := 8) (i := 0) (show ¬ ((0 : Int32) < 0 ∨ 8 ≤ (0 : Int32).toNatClampNeg) by decide) (w' := stW G u_0 st0 ++ ((q, .inr (6, [.ref z, .int 0, .int 0])) :: ((z, .inl (G.2.2.1 3, 8, .inr (.inr (.inr (.inr (va_up (fun _ => none) 0 (some (u_0 0)))))))) :: X))) rfl dX4_init_46 (fun H locs hw => ?_)
  replace hw : WH G s ((q, .inr (6, [.ref z, .int 0, .int 0])) :: ((z, .inl (G.2.2.1 3, 8, .inr (.inr (.inr (.inr (va_up (fun _ => none) 0 (some (u_0 0)))))))) :: (stW G u_0 st0 ++ X))) H locs := hw.perm ((List.perm_middle (l₁ := stW G u_0 st0)).trans ((List.perm_middle (l₁ := stW G u_0 st0)).cons _))
  refine lv_iinc (v := 1) (lv' := [(1, .int 1), (0, .ref q)]) C.1 C.2.1 dX4_init_47 hl (k := 0) rfl (by decide) (by decide) rfl (fun ls hl => ?_)
  refine lv_goto (tgt := 25) C.1 C.2.1 dX4_init_50 (by decide) ?_
  refine lv_iload_n C.1 C.2.1 dX4_init_25 rfl (lv_at hl 0 rfl) ?_
  refine lv_aload_n C.1 C.2.1 dX4_init_26 rfl (lv_at hl 1 rfl) ?_
  refine r_get C hw 0 rfl rfl in_X4 0 (by decide) fl_X4_11 rfl (v := .ref z) rfl dX4_init_27 ?_
  refine r_alen C hw 3 1 rfl rfl dX4_init_30 ?_
  refine lv_icmp_ge (tgt := 53) C.1 C.2.1 dX4_init_31 (by decide) (fun c_31 => absurd c_31 (by decide)) (fun c_31 => ?_)
  refine lv_aload_n C.1 C.2.1 dX4_init_34 rfl (lv_at hl 1 rfl) ?_
  refine r_get C hw 0 rfl rfl in_X4 0 (by decide) fl_X4_11 rfl (v := .ref z) rfl dX4_init_35 ?_
  refine lv_iload_n C.1 C.2.1 dX4_init_38 rfl (lv_at hl 0 rfl) ?_
  refine r_new C hw cl_X4_9 isb_X9 ini_X9 (ci := 11) rfl in_X9 tyX9 tyX9_ok (fs := [.null, .null, .int 0, .int 0, .int 0, .int 0, .int 0, .int 0, .long 0]) (by decide) (w' := fun zz => (zz, .inr (11, [.null, .null, .int 0, .int 0, .int 0, .int 0, .int 0, .int 0, .long 0])) :: ((q, .inr (6, [.ref z, .int 0, .int 0])) :: ((z, .inl (G.2.2.1 3, 8, .inr (.inr (.inr (.inr (va_up (fun _ => none) 0 (some (u_0 0)))))))) :: (stW G u_0 st0 ++ X)))) (fun _ => List.perm_append_singleton _ _) (Nat.le_of_ble_eq_true rfl) (Nat.le_of_ble_eq_true rfl) dX4_init_39 (fun o_1 H locs hw => ?_)
  refine lv_dup C.1 C.2.1 dX4_init_42 rfl ?_
  refine r_nv C hw (c9_init hF (X := (q, .inr (6, [.ref z, .int 0, .int 0])) :: ((z, .inl (G.2.2.1 3, 8, .inr (.inr (.inr (.inr (va_up (fun _ => none) 0 (some (u_0 0)))))))) :: (stW G u_0 st0 ++ X))) (q := o_1)) mn_X4_24 yf_X9_init rfl (As := []) rfl rfl ⟨(Nat.le_of_ble_eq_true rfl), (Nat.le_of_ble_eq_true rfl)⟩ ⟨(Nat.le_of_ble_eq_true rfl), (Nat.le_of_ble_eq_true rfl)⟩ hl.1 (Nat.le_of_ble_eq_true rfl) dX4_init_43 (fun u_1 H locs hp_1 hw => ?_)
  rw [show o_1 = u_1 0 from hp_1.symm]
  refine r_aast C hw 20 0 11 rfl rfl rfl (n := 8) (i := 1) (show ¬ ((1 : Int32) < 0 ∨ 8 ≤ (1 : Int32).toNatClampNeg) by decide) (w' := stW G u_1 st0 ++ ((q, .inr (6, [.ref z, .int 0, .int 0])) :: ((z, .inl (G.2.2.1 3, 8, .inr (.inr (.inr (.inr (va_up (va_up (fun _ => none) 0 (some (u_0 0))) 1 (some (u_1 0)))))))) :: (stW G u_0 st0 ++ X)))) rfl dX4_init_46 (fun H locs hw => ?_)
  replace hw : WH G s ((q, .inr (6, [.ref z, .int 0, .int 0])) :: ((z, .inl (G.2.2.1 3, 8, .inr (.inr (.inr (.inr (va_up (va_up (fun _ => none) 0 (some (u_0 0))) 1 (some (u_1 0)))))))) :: (stW G u_1 st0 ++ (stW G u_0 st0 ++ X)))) H locs := hw.perm ((List.perm_middle (l₁ := stW G u_1 st0)).trans ((List.perm_middle (l₁ := stW G u_1 st0)).cons _))
  refine lv_iinc (v := 2) (lv' := [(1, .int 2), (0, .ref q)]) C.1 C.2.1 dX4_init_47 hl (k := 0) rfl (by decide) (by decide) rfl (fun ls hl => ?_)
  refine lv_goto (tgt := 25) C.1 C.2.1 dX4_init_50 (by decide) ?_
  refine lv_iload_n C.1 C.2.1 dX4_init_25 rfl (lv_at hl 0 rfl) ?_
  refine lv_aload_n C.1 C.2.1 dX4_init_26 rfl (lv_at hl 1 rfl) ?_
  refine r_get C hw 0 rfl rfl in_X4 0 (by decide) fl_X4_11 rfl (v := .ref z) rfl dX4_init_27 ?_
  refine r_alen C hw 3 1 rfl rfl dX4_init_30 ?_
  refine lv_icmp_ge (tgt := 53) C.1 C.2.1 dX4_init_31 (by decide) (fun c_31 => absurd c_31 (by decide)) (fun c_31 => ?_)
  refine lv_aload_n C.1 C.2.1 dX4_init_34 rfl (lv_at hl 1 rfl) ?_
  refine r_get C hw 0 rfl rfl in_X4 0 (by decide) fl_X4_11 rfl (v := .ref z) rfl dX4_init_35 ?_
  refine lv_iload_n C.1 C.2.1 dX4_init_38 rfl (lv_at hl 0 rfl) ?_
  refine r_new C hw cl_X4_9 isb_X9 ini_X9 (ci := 11) rfl in_X9 tyX9 tyX9_ok (fs := [.null, .null, .int 0, .int 0, .int 0, .int 0, .int 0, .int 0, .long 0]) (by decide) (w' := fun zz => (zz, .inr (11, [.null, .null, .int 0, .int 0, .int 0, .int 0, .int 0, .int 0, .long 0])) :: ((q, .inr (6, [.ref z, .int 0, .int 0])) :: ((z, .inl (G.2.2.1 3, 8, .inr (.inr (.inr (.inr (va_up (va_up (fun _ => none) 0 (some (u_0 0))) 1 (some (u_1 0)))))))) :: (stW G u_1 st0 ++ (stW G u_0 st0 ++ X))))) (fun _ => List.perm_append_singleton _ _) (Nat.le_of_ble_eq_true rfl) (Nat.le_of_ble_eq_true rfl) dX4_init_39 (fun o_2 H locs hw => ?_)
  refine lv_dup C.1 C.2.1 dX4_init_42 rfl ?_
  refine r_nv C hw (c9_init hF (X := (q, .inr (6, [.ref z, .int 0, .int 0])) :: ((z, .inl (G.2.2.1 3, 8, .inr (.inr (.inr (.inr (va_up (va_up (fun _ => none) 0 (some (u_0 0))) 1 (some (u_1 0)))))))) :: (stW G u_1 st0 ++ (stW G u_0 st0 ++ X)))) (q := o_2)) mn_X4_24 yf_X9_init rfl (As := []) rfl rfl ⟨(Nat.le_of_ble_eq_true rfl), (Nat.le_of_ble_eq_true rfl)⟩ ⟨(Nat.le_of_ble_eq_true rfl), (Nat.le_of_ble_eq_true rfl)⟩ hl.1 (Nat.le_of_ble_eq_true rfl) dX4_init_43 (fun u_2 H locs hp_2 hw => ?_)
  rw [show o_2 = u_2 0 from hp_2.symm]
  refine r_aast C hw 20 0 11 rfl rfl rfl (n := 8) (i := 2) (show ¬ ((2 : Int32) < 0 ∨ 8 ≤ (2 : Int32).toNatClampNeg) by decide) (w' := stW G u_2 st0 ++ ((q, .inr (6, [.ref z, .int 0, .int 0])) :: ((z, .inl (G.2.2.1 3, 8, .inr (.inr (.inr (.inr (va_up (va_up (va_up (fun _ => none) 0 (some (u_0 0))) 1 (some (u_1 0))) 2 (some (u_2 0)))))))) :: (stW G u_1 st0 ++ (stW G u_0 st0 ++ X))))) rfl dX4_init_46 (fun H locs hw => ?_)
  replace hw : WH G s ((q, .inr (6, [.ref z, .int 0, .int 0])) :: ((z, .inl (G.2.2.1 3, 8, .inr (.inr (.inr (.inr (va_up (va_up (va_up (fun _ => none) 0 (some (u_0 0))) 1 (some (u_1 0))) 2 (some (u_2 0)))))))) :: (stW G u_2 st0 ++ (stW G u_1 st0 ++ (stW G u_0 st0 ++ X))))) H locs := hw.perm ((List.perm_middle (l₁ := stW G u_2 st0)).trans ((List.perm_middle (l₁ := stW G u_2 st0)).cons _))
  refine lv_iinc (v := 3) (lv' := [(1, .int 3), (0, .ref q)]) C.1 C.2.1 dX4_init_47 hl (k := 0) rfl (by decide) (by decide) rfl (fun ls hl => ?_)
  refine lv_goto (tgt := 25) C.1 C.2.1 dX4_init_50 (by decide) ?_
  refine lv_iload_n C.1 C.2.1 dX4_init_25 rfl (lv_at hl 0 rfl) ?_
  refine lv_aload_n C.1 C.2.1 dX4_init_26 rfl (lv_at hl 1 rfl) ?_
  refine r_get C hw 0 rfl rfl in_X4 0 (by decide) fl_X4_11 rfl (v := .ref z) rfl dX4_init_27 ?_
  refine r_alen C hw 3 1 rfl rfl dX4_init_30 ?_
  refine lv_icmp_ge (tgt := 53) C.1 C.2.1 dX4_init_31 (by decide) (fun c_31 => absurd c_31 (by decide)) (fun c_31 => ?_)
  refine lv_aload_n C.1 C.2.1 dX4_init_34 rfl (lv_at hl 1 rfl) ?_
  refine r_get C hw 0 rfl rfl in_X4 0 (by decide) fl_X4_11 rfl (v := .ref z) rfl dX4_init_35 ?_
  refine lv_iload_n C.1 C.2.1 dX4_init_38 rfl (lv_at hl 0 rfl) ?_
  refine r_new C hw cl_X4_9 isb_X9 ini_X9 (ci := 11) rfl in_X9 tyX9 tyX9_ok (fs := [.null, .null, .int 0, .int 0, .int 0, .int 0, .int 0, .int 0, .long 0]) (by decide) (w' := fun zz => (zz, .inr (11, [.null, .null, .int 0, .int 0, .int 0, .int 0, .int 0, .int 0, .long 0])) :: ((q, .inr (6, [.ref z, .int 0, .int 0])) :: ((z, .inl (G.2.2.1 3, 8, .inr (.inr (.inr (.inr (va_up (va_up (va_up (fun _ => none) 0 (some (u_0 0))) 1 (some (u_1 0))) 2 (some (u_2 0)))))))) :: (stW G u_2 st0 ++ (stW G u_1 st0 ++ (stW G u_0 st0 ++ X)))))) (fun _ => List.perm_append_singleton _ _) (Nat.le_of_ble_eq_true rfl) (Nat.le_of_ble_eq_true rfl) dX4_init_39 (fun o_3 H locs hw => ?_)
  refine lv_dup C.1 C.2.1 dX4_init_42 rfl ?_
  refine r_nv C hw (c9_init hF (X := (q, .inr (6, [.ref z, .int 0, .int 0])) :: ((z, .inl (G.2.2.1 3, 8, .inr (.inr (.inr (.inr (va_up (va_up (va_up (fun _ => none) 0 (some (u_0 0))) 1 (some (u_1 0))) 2 (some (u_2 0)))))))) :: (stW G u_2 st0 ++ (stW G u_1 st0 ++ (stW G u_0 st0 ++ X))))) (q := o_3)) mn_X4_24 yf_X9_init rfl (As := []) rfl rfl ⟨(Nat.le_of_ble_eq_true rfl), (Nat.le_of_ble_eq_true rfl)⟩ ⟨(Nat.le_of_ble_eq_true rfl), (Nat.le_of_ble_eq_true rfl)⟩ hl.1 (Nat.le_of_ble_eq_true rfl) dX4_init_43 (fun u_3 H locs hp_3 hw => ?_)
  rw [show o_3 = u_3 0 from hp_3.symm]
  refine r_aast C hw 20 0 11 rfl rfl rfl (n := 8) (i := 3) (show ¬ ((3 : Int32) < 0 ∨ 8 ≤ (3 : Int32).toNatClampNeg) by decide) (w' := stW G u_3 st0 ++ ((q, .inr (6, [.ref z, .int 0, .int 0])) :: ((z, .inl (G.2.2.1 3, 8, .inr (.inr (.inr (.inr (va_up (va_up (va_up (va_up (fun _ => none) 0 (some (u_0 0))) 1 (some (u_1 0))) 2 (some (u_2 0))) 3 (some (u_3 0)))))))) :: (stW G u_2 st0 ++ (stW G u_1 st0 ++ (stW G u_0 st0 ++ X)))))) rfl dX4_init_46 (fun H locs hw => ?_)
  replace hw : WH G s ((q, .inr (6, [.ref z, .int 0, .int 0])) :: ((z, .inl (G.2.2.1 3, 8, .inr (.inr (.inr (.inr (va_up (va_up (va_up (va_up (fun _ => none) 0 (some (u_0 0))) 1 (some (u_1 0))) 2 (some (u_2 0))) 3 (some (u_3 0)))))))) :: (stW G u_3 st0 ++ (stW G u_2 st0 ++ (stW G u_1 st0 ++ (stW G u_0 st0 ++ X)))))) H locs := hw.perm ((List.perm_middle (l₁ := stW G u_3 st0)).trans ((List.perm_middle (l₁ := stW G u_3 st0)).cons _))
  refine lv_iinc (v := 4) (lv' := [(1, .int 4), (0, .ref q)]) C.1 C.2.1 dX4_init_47 hl (k := 0) rfl (by decide) (by decide) rfl (fun ls hl => ?_)
  refine lv_goto (tgt := 25) C.1 C.2.1 dX4_init_50 (by decide) ?_
  refine lv_iload_n C.1 C.2.1 dX4_init_25 rfl (lv_at hl 0 rfl) ?_
  refine lv_aload_n C.1 C.2.1 dX4_init_26 rfl (lv_at hl 1 rfl) ?_
  refine r_get C hw 0 rfl rfl in_X4 0 (by decide) fl_X4_11 rfl (v := .ref z) rfl dX4_init_27 ?_
  refine r_alen C hw 3 1 rfl rfl dX4_init_30 ?_
  refine lv_icmp_ge (tgt := 53) C.1 C.2.1 dX4_init_31 (by decide) (fun c_31 => absurd c_31 (by decide)) (fun c_31 => ?_)
  refine lv_aload_n C.1 C.2.1 dX4_init_34 rfl (lv_at hl 1 rfl) ?_
  refine r_get C hw 0 rfl rfl in_X4 0 (by decide) fl_X4_11 rfl (v := .ref z) rfl dX4_init_35 ?_
  refine lv_iload_n C.1 C.2.1 dX4_init_38 rfl (lv_at hl 0 rfl) ?_
  refine r_new C hw cl_X4_9 isb_X9 ini_X9 (ci := 11) rfl in_X9 tyX9 tyX9_ok (fs := [.null, .null, .int 0, .int 0, .int 0, .int 0, .int 0, .int 0, .long 0]) (by decide) (w' := fun zz => (zz, .inr (11, [.null, .null, .int 0, .int 0, .int 0, .int 0, .int 0, .int 0, .long 0])) :: ((q, .inr (6, [.ref z, .int 0, .int 0])) :: ((z, .inl (G.2.2.1 3, 8, .inr (.inr (.inr (.inr (va_up (va_up (va_up (va_up (fun _ => none) 0 (some (u_0 0))) 1 (some (u_1 0))) 2 (some (u_2 0))) 3 (some (u_3 0)))))))) :: (stW G u_3 st0 ++ (stW G u_2 st0 ++ (stW G u_1 st0 ++ (stW G u_0 st0 ++ X))))))) (fun _ => List.perm_append_singleton _ _) (Nat.le_of_ble_eq_true rfl) (Nat.le_of_ble_eq_true rfl) dX4_init_39 (fun o_4 H locs hw => ?_)
  refine lv_dup C.1 C.2.1 dX4_init_42 rfl ?_
  refine r_nv C hw (c9_init hF (X := (q, .inr (6, [.ref z, .int 0, .int 0])) :: ((z, .inl (G.2.2.1 3, 8, .inr (.inr (.inr (.inr (va_up (va_up (va_up (va_up (fun _ => none) 0 (some (u_0 0))) 1 (some (u_1 0))) 2 (some (u_2 0))) 3 (some (u_3 0)))))))) :: (stW G u_3 st0 ++ (stW G u_2 st0 ++ (stW G u_1 st0 ++ (stW G u_0 st0 ++ X)))))) (q := o_4)) mn_X4_24 yf_X9_init rfl (As := []) rfl rfl ⟨(Nat.le_of_ble_eq_true rfl), (Nat.le_of_ble_eq_true rfl)⟩ ⟨(Nat.le_of_ble_eq_true rfl), (Nat.le_of_ble_eq_true rfl)⟩ hl.1 (Nat.le_of_ble_eq_true rfl) dX4_init_43 (fun u_4 H locs hp_4 hw => ?_)
  rw [show o_4 = u_4 0 from hp_4.symm]
  refine r_aast C hw 20 0 11 rfl rfl rfl (n := 8) (i := 4) (show ¬ ((4 : Int32) < 0 ∨ 8 ≤ (4 : Int32).toNatClampNeg) by decide) (w' := stW G u_4 st0 ++ ((q, .inr (6, [.ref z, .int 0, .int 0])) :: ((z, .inl (G.2.2.1 3, 8, .inr (.inr (.inr (.inr (va_up (va_up (va_up (va_up (va_up (fun _ => none) 0 (some (u_0 0))) 1 (some (u_1 0))) 2 (some (u_2 0))) 3 (some (u_3 0))) 4 (some (u_4 0)))))))) :: (stW G u_3 st0 ++ (stW G u_2 st0 ++ (stW G u_1 st0 ++ (stW G u_0 st0 ++ X))))))) rfl dX4_init_46 (fun H locs hw => ?_)
  replace hw : WH G s ((q, .inr (6, [.ref z, .int 0, .int 0])) :: ((z, .inl (G.2.2.1 3, 8, .inr (.inr (.inr (.inr (va_up (va_up (va_up (va_up (va_up (fun _ => none) 0 (some (u_0 0))) 1 (some (u_1 0))) 2 (some (u_2 0))) 3 (some (u_3 0))) 4 (some (u_4 0)))))))) :: (stW G u_4 st0 ++ (stW G u_3 st0 ++ (stW G u_2 st0 ++ (stW G u_1 st0 ++ (stW G u_0 st0 ++ X))))))) H locs := hw.perm ((List.perm_middle (l₁ := stW G u_4 st0)).trans ((List.perm_middle (l₁ := stW G u_4 st0)).cons _))
  refine lv_iinc (v := 5) (lv' := [(1, .int 5), (0, .ref q)]) C.1 C.2.1 dX4_init_47 hl (k := 0) rfl (by decide) (by decide) rfl (fun ls hl => ?_)
  refine lv_goto (tgt := 25) C.1 C.2.1 dX4_init_50 (by decide) ?_
  refine lv_iload_n C.1 C.2.1 dX4_init_25 rfl (lv_at hl 0 rfl) ?_
  refine lv_aload_n C.1 C.2.1 dX4_init_26 rfl (lv_at hl 1 rfl) ?_
  refine r_get C hw 0 rfl rfl in_X4 0 (by decide) fl_X4_11 rfl (v := .ref z) rfl dX4_init_27 ?_
  refine r_alen C hw 3 1 rfl rfl dX4_init_30 ?_
  refine lv_icmp_ge (tgt := 53) C.1 C.2.1 dX4_init_31 (by decide) (fun c_31 => absurd c_31 (by decide)) (fun c_31 => ?_)
  refine lv_aload_n C.1 C.2.1 dX4_init_34 rfl (lv_at hl 1 rfl) ?_
  refine r_get C hw 0 rfl rfl in_X4 0 (by decide) fl_X4_11 rfl (v := .ref z) rfl dX4_init_35 ?_
  refine lv_iload_n C.1 C.2.1 dX4_init_38 rfl (lv_at hl 0 rfl) ?_
  refine r_new C hw cl_X4_9 isb_X9 ini_X9 (ci := 11) rfl in_X9 tyX9 tyX9_ok (fs := [.null, .null, .int 0, .int 0, .int 0, .int 0, .int 0, .int 0, .long 0]) (by decide) (w' := fun zz => (zz, .inr (11, [.null, .null, .int 0, .int 0, .int 0, .int 0, .int 0, .int 0, .long 0])) :: ((q, .inr (6, [.ref z, .int 0, .int 0])) :: ((z, .inl (G.2.2.1 3, 8, .inr (.inr (.inr (.inr (va_up (va_up (va_up (va_up (va_up (fun _ => none) 0 (some (u_0 0))) 1 (some (u_1 0))) 2 (some (u_2 0))) 3 (some (u_3 0))) 4 (some (u_4 0)))))))) :: (stW G u_4 st0 ++ (stW G u_3 st0 ++ (stW G u_2 st0 ++ (stW G u_1 st0 ++ (stW G u_0 st0 ++ X)))))))) (fun _ => List.perm_append_singleton _ _) (Nat.le_of_ble_eq_true rfl) (Nat.le_of_ble_eq_true rfl) dX4_init_39 (fun o_5 H locs hw => ?_)
  refine lv_dup C.1 C.2.1 dX4_init_42 rfl ?_
  refine r_nv C hw (c9_init hF (X := (q, .inr (6, [.ref z, .int 0, .int 0])) :: ((z, .inl (G.2.2.1 3, 8, .inr (.inr (.inr (.inr (va_up (va_up (va_up (va_up (va_up (fun _ => none) 0 (some (u_0 0))) 1 (some (u_1 0))) 2 (some (u_2 0))) 3 (some (u_3 0))) 4 (some (u_4 0)))))))) :: (stW G u_4 st0 ++ (stW G u_3 st0 ++ (stW G u_2 st0 ++ (stW G u_1 st0 ++ (stW G u_0 st0 ++ X))))))) (q := o_5)) mn_X4_24 yf_X9_init rfl (As := []) rfl rfl ⟨(Nat.le_of_ble_eq_true rfl), (Nat.le_of_ble_eq_true rfl)⟩ ⟨(Nat.le_of_ble_eq_true rfl), (Nat.le_of_ble_eq_true rfl)⟩ hl.1 (Nat.le_of_ble_eq_true rfl) dX4_init_43 (fun u_5 H locs hp_5 hw => ?_)
  rw [show o_5 = u_5 0 from hp_5.symm]
  refine r_aast C hw 20 0 11 rfl rfl rfl (n := 8) (i := 5) (show ¬ ((5 : Int32) < 0 ∨ 8 ≤ (5 : Int32).toNatClampNeg) by decide) (w' := stW G u_5 st0 ++ ((q, .inr (6, [.ref z, .int 0, .int 0])) :: ((z, .inl (G.2.2.1 3, 8, .inr (.inr (.inr (.inr (va_up (va_up (va_up (va_up (va_up (va_up (fun _ => none) 0 (some (u_0 0))) 1 (some (u_1 0))) 2 (some (u_2 0))) 3 (some (u_3 0))) 4 (some (u_4 0))) 5 (some (u_5 0)))))))) :: (stW G u_4 st0 ++ (stW G u_3 st0 ++ (stW G u_2 st0 ++ (stW G u_1 st0 ++ (stW G u_0 st0 ++ X)))))))) rfl dX4_init_46 (fun H locs hw => ?_)
  replace hw : WH G s ((q, .inr (6, [.ref z, .int 0, .int 0])) :: ((z, .inl (G.2.2.1 3, 8, .inr (.inr (.inr (.inr (va_up (va_up (va_up (va_up (va_up (va_up (fun _ => none) 0 (some (u_0 0))) 1 (some (u_1 0))) 2 (some (u_2 0))) 3 (some (u_3 0))) 4 (some (u_4 0))) 5 (some (u_5 0)))))))) :: (stW G u_5 st0 ++ (stW G u_4 st0 ++ (stW G u_3 st0 ++ (stW G u_2 st0 ++ (stW G u_1 st0 ++ (stW G u_0 st0 ++ X)))))))) H locs := hw.perm ((List.perm_middle (l₁ := stW G u_5 st0)).trans ((List.perm_middle (l₁ := stW G u_5 st0)).cons _))
  refine lv_iinc (v := 6) (lv' := [(1, .int 6), (0, .ref q)]) C.1 C.2.1 dX4_init_47 hl (k := 0) rfl (by decide) (by decide) rfl (fun ls hl => ?_)
  refine lv_goto (tgt := 25) C.1 C.2.1 dX4_init_50 (by decide) ?_
  refine lv_iload_n C.1 C.2.1 dX4_init_25 rfl (lv_at hl 0 rfl) ?_
  refine lv_aload_n C.1 C.2.1 dX4_init_26 rfl (lv_at hl 1 rfl) ?_
  refine r_get C hw 0 rfl rfl in_X4 0 (by decide) fl_X4_11 rfl (v := .ref z) rfl dX4_init_27 ?_
  refine r_alen C hw 3 1 rfl rfl dX4_init_30 ?_
  refine lv_icmp_ge (tgt := 53) C.1 C.2.1 dX4_init_31 (by decide) (fun c_31 => absurd c_31 (by decide)) (fun c_31 => ?_)
  refine lv_aload_n C.1 C.2.1 dX4_init_34 rfl (lv_at hl 1 rfl) ?_
  refine r_get C hw 0 rfl rfl in_X4 0 (by decide) fl_X4_11 rfl (v := .ref z) rfl dX4_init_35 ?_
  refine lv_iload_n C.1 C.2.1 dX4_init_38 rfl (lv_at hl 0 rfl) ?_
  refine r_new C hw cl_X4_9 isb_X9 ini_X9 (ci := 11) rfl in_X9 tyX9 tyX9_ok (fs := [.null, .null, .int 0, .int 0, .int 0, .int 0, .int 0, .int 0, .long 0]) (by decide) (w' := fun zz => (zz, .inr (11, [.null, .null, .int 0, .int 0, .int 0, .int 0, .int 0, .int 0, .long 0])) :: ((q, .inr (6, [.ref z, .int 0, .int 0])) :: ((z, .inl (G.2.2.1 3, 8, .inr (.inr (.inr (.inr (va_up (va_up (va_up (va_up (va_up (va_up (fun _ => none) 0 (some (u_0 0))) 1 (some (u_1 0))) 2 (some (u_2 0))) 3 (some (u_3 0))) 4 (some (u_4 0))) 5 (some (u_5 0)))))))) :: (stW G u_5 st0 ++ (stW G u_4 st0 ++ (stW G u_3 st0 ++ (stW G u_2 st0 ++ (stW G u_1 st0 ++ (stW G u_0 st0 ++ X))))))))) (fun _ => List.perm_append_singleton _ _) (Nat.le_of_ble_eq_true rfl) (Nat.le_of_ble_eq_true rfl) dX4_init_39 (fun o_6 H locs hw => ?_)
  refine lv_dup C.1 C.2.1 dX4_init_42 rfl ?_
  refine r_nv C hw (c9_init hF (X := (q, .inr (6, [.ref z, .int 0, .int 0])) :: ((z, .inl (G.2.2.1 3, 8, .inr (.inr (.inr (.inr (va_up (va_up (va_up (va_up (va_up (va_up (fun _ => none) 0 (some (u_0 0))) 1 (some (u_1 0))) 2 (some (u_2 0))) 3 (some (u_3 0))) 4 (some (u_4 0))) 5 (some (u_5 0)))))))) :: (stW G u_5 st0 ++ (stW G u_4 st0 ++ (stW G u_3 st0 ++ (stW G u_2 st0 ++ (stW G u_1 st0 ++ (stW G u_0 st0 ++ X)))))))) (q := o_6)) mn_X4_24 yf_X9_init rfl (As := []) rfl rfl ⟨(Nat.le_of_ble_eq_true rfl), (Nat.le_of_ble_eq_true rfl)⟩ ⟨(Nat.le_of_ble_eq_true rfl), (Nat.le_of_ble_eq_true rfl)⟩ hl.1 (Nat.le_of_ble_eq_true rfl) dX4_init_43 (fun u_6 H locs hp_6 hw => ?_)
  rw [show o_6 = u_6 0 from hp_6.symm]
  refine r_aast C hw 20 0 11 rfl rfl rfl (n := 8) (i := 6) (show ¬ ((6 : Int32) < 0 ∨ 8 ≤ (6 : Int32).toNatClampNeg) by decide) (w' := stW G u_6 st0 ++ ((q, .inr (6, [.ref z, .int 0, .int 0])) :: ((z, .inl (G.2.2.1 3, 8, .inr (.inr (.inr (.inr (va_up (va_up (va_up (va_up (va_up (va_up (va_up (fun _ => none) 0 (some (u_0 0))) 1 (some (u_1 0))) 2 (some (u_2 0))) 3 (some (u_3 0))) 4 (some (u_4 0))) 5 (some (u_5 0))) 6 (some (u_6 0)))))))) :: (stW G u_5 st0 ++ (stW G u_4 st0 ++ (stW G u_3 st0 ++ (stW G u_2 st0 ++ (stW G u_1 st0 ++ (stW G u_0 st0 ++ X))))))))) rfl dX4_init_46 (fun H locs hw => ?_)
  replace hw : WH G s ((q, .inr (6, [.ref z, .int 0, .int 0])) :: ((z, .inl (G.2.2.1 3, 8, .inr (.inr (.inr (.inr (va_up (va_up (va_up (va_up (va_up (va_up (va_up (fun _ => none) 0 (some (u_0 0))) 1 (some (u_1 0))) 2 (some (u_2 0))) 3 (some (u_3 0))) 4 (some (u_4 0))) 5 (some (u_5 0))) 6 (some (u_6 0)))))))) :: (stW G u_6 st0 ++ (stW G u_5 st0 ++ (stW G u_4 st0 ++ (stW G u_3 st0 ++ (stW G u_2 st0 ++ (stW G u_1 st0 ++ (stW G u_0 st0 ++ X))))))))) H locs := hw.perm ((List.perm_middle (l₁ := stW G u_6 st0)).trans ((List.perm_middle (l₁ := stW G u_6 st0)).cons _))
  refine lv_iinc (v := 7) (lv' := [(1, .int 7), (0, .ref q)]) C.1 C.2.1 dX4_init_47 hl (k := 0) rfl (by decide) (by decide) rfl (fun ls hl => ?_)
  refine lv_goto (tgt := 25) C.1 C.2.1 dX4_init_50 (by decide) ?_
  refine lv_iload_n C.1 C.2.1 dX4_init_25 rfl (lv_at hl 0 rfl) ?_
  refine lv_aload_n C.1 C.2.1 dX4_init_26 rfl (lv_at hl 1 rfl) ?_
  refine r_get C hw 0 rfl rfl in_X4 0 (by decide) fl_X4_11 rfl (v := .ref z) rfl dX4_init_27 ?_
  refine r_alen C hw 3 1 rfl rfl dX4_init_30 ?_
  refine lv_icmp_ge (tgt := 53) C.1 C.2.1 dX4_init_31 (by decide) (fun c_31 => absurd c_31 (by decide)) (fun c_31 => ?_)
  refine lv_aload_n C.1 C.2.1 dX4_init_34 rfl (lv_at hl 1 rfl) ?_
  refine r_get C hw 0 rfl rfl in_X4 0 (by decide) fl_X4_11 rfl (v := .ref z) rfl dX4_init_35 ?_
  refine lv_iload_n C.1 C.2.1 dX4_init_38 rfl (lv_at hl 0 rfl) ?_
  refine r_new C hw cl_X4_9 isb_X9 ini_X9 (ci := 11) rfl in_X9 tyX9 tyX9_ok (fs := [.null, .null, .int 0, .int 0, .int 0, .int 0, .int 0, .int 0, .long 0]) (by decide) (w' := fun zz => (zz, .inr (11, [.null, .null, .int 0, .int 0, .int 0, .int 0, .int 0, .int 0, .long 0])) :: ((q, .inr (6, [.ref z, .int 0, .int 0])) :: ((z, .inl (G.2.2.1 3, 8, .inr (.inr (.inr (.inr (va_up (va_up (va_up (va_up (va_up (va_up (va_up (fun _ => none) 0 (some (u_0 0))) 1 (some (u_1 0))) 2 (some (u_2 0))) 3 (some (u_3 0))) 4 (some (u_4 0))) 5 (some (u_5 0))) 6 (some (u_6 0)))))))) :: (stW G u_6 st0 ++ (stW G u_5 st0 ++ (stW G u_4 st0 ++ (stW G u_3 st0 ++ (stW G u_2 st0 ++ (stW G u_1 st0 ++ (stW G u_0 st0 ++ X)))))))))) (fun _ => List.perm_append_singleton _ _) (Nat.le_of_ble_eq_true rfl) (Nat.le_of_ble_eq_true rfl) dX4_init_39 (fun o_7 H locs hw => ?_)
  refine lv_dup C.1 C.2.1 dX4_init_42 rfl ?_
  refine r_nv C hw (c9_init hF (X := (q, .inr (6, [.ref z, .int 0, .int 0])) :: ((z, .inl (G.2.2.1 3, 8, .inr (.inr (.inr (.inr (va_up (va_up (va_up (va_up (va_up (va_up (va_up (fun _ => none) 0 (some (u_0 0))) 1 (some (u_1 0))) 2 (some (u_2 0))) 3 (some (u_3 0))) 4 (some (u_4 0))) 5 (some (u_5 0))) 6 (some (u_6 0)))))))) :: (stW G u_6 st0 ++ (stW G u_5 st0 ++ (stW G u_4 st0 ++ (stW G u_3 st0 ++ (stW G u_2 st0 ++ (stW G u_1 st0 ++ (stW G u_0 st0 ++ X))))))))) (q := o_7)) mn_X4_24 yf_X9_init rfl (As := []) rfl rfl ⟨(Nat.le_of_ble_eq_true rfl), (Nat.le_of_ble_eq_true rfl)⟩ ⟨(Nat.le_of_ble_eq_true rfl), (Nat.le_of_ble_eq_true rfl)⟩ hl.1 (Nat.le_of_ble_eq_true rfl) dX4_init_43 (fun u_7 H locs hp_7 hw => ?_)
  rw [show o_7 = u_7 0 from hp_7.symm]
  refine r_aast C hw 20 0 11 rfl rfl rfl (n := 8) (i := 7) (show ¬ ((7 : Int32) < 0 ∨ 8 ≤ (7 : Int32).toNatClampNeg) by decide) (w' := stW G u_7 st0 ++ ((q, .inr (6, [.ref z, .int 0, .int 0])) :: ((z, .inl (G.2.2.1 3, 8, .inr (.inr (.inr (.inr (va_up (va_up (va_up (va_up (va_up (va_up (va_up (va_up (fun _ => none) 0 (some (u_0 0))) 1 (some (u_1 0))) 2 (some (u_2 0))) 3 (some (u_3 0))) 4 (some (u_4 0))) 5 (some (u_5 0))) 6 (some (u_6 0))) 7 (some (u_7 0)))))))) :: (stW G u_6 st0 ++ (stW G u_5 st0 ++ (stW G u_4 st0 ++ (stW G u_3 st0 ++ (stW G u_2 st0 ++ (stW G u_1 st0 ++ (stW G u_0 st0 ++ X)))))))))) rfl dX4_init_46 (fun H locs hw => ?_)
  replace hw : WH G s ((q, .inr (6, [.ref z, .int 0, .int 0])) :: ((z, .inl (G.2.2.1 3, 8, .inr (.inr (.inr (.inr (va_up (va_up (va_up (va_up (va_up (va_up (va_up (va_up (fun _ => none) 0 (some (u_0 0))) 1 (some (u_1 0))) 2 (some (u_2 0))) 3 (some (u_3 0))) 4 (some (u_4 0))) 5 (some (u_5 0))) 6 (some (u_6 0))) 7 (some (u_7 0)))))))) :: (stW G u_7 st0 ++ (stW G u_6 st0 ++ (stW G u_5 st0 ++ (stW G u_4 st0 ++ (stW G u_3 st0 ++ (stW G u_2 st0 ++ (stW G u_1 st0 ++ (stW G u_0 st0 ++ X)))))))))) H locs := hw.perm ((List.perm_middle (l₁ := stW G u_7 st0)).trans ((List.perm_middle (l₁ := stW G u_7 st0)).cons _))
  refine lv_iinc (v := 8) (lv' := [(1, .int 8), (0, .ref q)]) C.1 C.2.1 dX4_init_47 hl (k := 0) rfl (by decide) (by decide) rfl (fun ls hl => ?_)
  refine lv_goto (tgt := 25) C.1 C.2.1 dX4_init_50 (by decide) ?_
  refine lv_iload_n C.1 C.2.1 dX4_init_25 rfl (lv_at hl 0 rfl) ?_
  refine lv_aload_n C.1 C.2.1 dX4_init_26 rfl (lv_at hl 1 rfl) ?_
  refine r_get C hw 0 rfl rfl in_X4 0 (by decide) fl_X4_11 rfl (v := .ref z) rfl dX4_init_27 ?_
  refine r_alen C hw 3 1 rfl rfl dX4_init_30 ?_
  refine lv_icmp_ge (tgt := 53) C.1 C.2.1 dX4_init_31 (by decide) (fun c_31 => ?_) (fun c_31 => absurd (by decide) c_31)
  have hz := hi8_up u_0 u_1 u_2 u_3 u_4 u_5 u_6 u_7
  have hw2 := hw.arq hz
  replace hw2 : WH G s (hiW G (fun k => if k = 0 then q else z) (hi8 u_0 u_1 u_2 u_3 u_4 u_5 u_6 u_7) (fun _ => st0) (nI 0) (nI 0) ++ X) H locs := hw2.perm (((hi_rev _ _ _ _ _ _ _ _ _).cons _).cons _)
  exact r_vret C hw2 rfl ((fun k => if k = 0 then q else z), (hi8 u_0 u_1 u_2 u_3 u_4 u_5 u_6 u_7)) rfl rfl (Nat.le_of_ble_eq_true rfl) (Nat.le_of_ble_eq_true rfl) dX4_init_53

