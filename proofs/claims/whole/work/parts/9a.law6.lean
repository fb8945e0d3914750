/-! The law's other cases -/
theorem con_ok {c : Int} {D : CD} {U : MV_} (h : Sm c D U) : bI (decide (sprS D.S (nO D.S) = ssR (guR D.S D.f D.g (nO D.S)).1 (guR D.S D.f D.g (nO D.S)).2) && (decide ((poolS D.S (nO D.S)).1 = (psR (guR D.S D.f D.g (nO D.S)).1 (guR D.S D.f D.g (nO D.S)).2 99).1) && covS D.S)) = 1 := by
  have g := gu_su h.rl h.iz.1 D.f D.g
  rw [decide_eq_true (su_ss h.rl h.iz.1 g).1.symm, decide_eq_true (show (poolS D.S (nO D.S)).1 = (psR (guR D.S D.f D.g (nO D.S)).1 (guR D.S D.f D.g (nO D.S)).2 99).1 by rw [pool_rl h.rl h.iz.1, su_pool h.iz.1 g]), cov_ok h.rl h.iz]
  rfl
theorem mean_ok {c : Int} {D : CD} {U : MV_} (h : Sm c D U) : (D.S.1 7 = 0 → laB (U.2 0) = false) ∧ (D.S.1 7 ≠ 0 → laB (U.2 0) = true) := by
  have f6 := h.iz.2.2.2.2.1.2
  rw [h.rl.1.2.2.2.2.2.2.2]
  unfold laB
  refine ⟨fun e => ?_, fun e => ?_⟩
  · have e7 := congrArg Int32.toInt e
    rw [i_0] at e7
    have : U.2 0 6 ≤ 0 := by rw [i_le, i_0]; omega
    rw [decide_eq_true this]; rfl
  · have e7 : (U.2 0 7).toInt ≠ 0 := fun a => e (i_ext (by rw [i_0]; exact a))
    have : ¬ U.2 0 6 ≤ 0 := by rw [i_le, i_0]; omega
    rw [decide_eq_false this]; rfl
theorem mean_d {c : Int} {D : CD} {U : MV_} (h : Sm c D U) : ¬ U.2 0 6 ≤ 0 → U.2 0 7 ≠ 0 := fun a e => by
  have f6 := h.iz.2.2.2.2.1.2
  have e7 := congrArg Int32.toInt e
  rw [i_0] at e7
  rw [i_le, i_0] at a
  omega
theorem share_ok {c : Int} {D : CD} {U : MV_} (h : Sm c D U) : (D.S.1 1 = 0 → decide (0 < nF (U.2 0)) = false) ∧ (D.S.1 1 ≠ 0 → decide (0 < nF (U.2 0)) = true) := by
  have h20 := h.okf.2.1
  rw [h.rl.1.2.1, h.okf.1]
  refine ⟨fun e => decide_eq_false (fun a => ?_), fun e => decide_eq_true (Decidable.byContradiction fun a => ?_)⟩
  · have : nI (nF (U.2 0)) = nI 0 := e
    have := nI_ij (by omega) (by omega) this
    omega
  · exact e (by rw [show nF (U.2 0) = 0 by omega]; rfl)
theorem share_n {c : Int} {D : CD} {U : MV_} (h : Sm c D U) (e : D.S.1 1 ≠ 0) : 0 < nF (U.2 0) ∧ nF (U.2 0) < 21 := ⟨of_decide_eq_true ((share_ok h).2 e), by have := h.okf.2.1; omega⟩
theorem share_nn {c : Int} {D : CD} {U : MV_} (h : Sm c D U) {z : Nat} (hz : z < 21) (e : D.S.1 1 ≠ 0) : vf_n64 (FP.f2d (FP.fdiv (FP.i2f (nI z)) (FP.i2f (nI (nF (U.2 0)))))) := by
  have := share_n h e
  exact (fp_fdiv z _ hz this.2 this.1).2
theorem fp_deq : ∀ a b : Nat, a < 21 → b < 21 → 0 < b → cmpValue (FP.dcmp (FP.f2d (FP.fdiv (FP.i2f (nI a)) (FP.i2f (nI b)))) (FP.f2d (FP.fdiv (FP.i2f (nI a)) (FP.i2f (nI b))))) .l = 0 := by
  have key : ∀ a : Fin 21, ∀ b : Fin 21, 0 < b.val → cmpValue (FP.dcmp (FP.f2d (FP.fdiv (FP.i2f (nI a.val)) (FP.i2f (nI b.val)))) (FP.f2d (FP.fdiv (FP.i2f (nI a.val)) (FP.i2f (nI b.val))))) .l = 0 := by decide +kernel
  intro a b ha hb h0
  exact key ⟨a, ha⟩ ⟨b, hb⟩ h0
theorem share_eq {c : Int} {D : CD} {U : MV_} (h : Sm c D U) {z : Nat} (hz : z < 21) (e : D.S.1 1 ≠ 0) : cmpValue (FP.dcmp (FP.f2d (FP.fdiv (FP.i2f (nI z)) (FP.i2f (nI (nF (U.2 0)))))) (FP.f2d (FP.fdiv (FP.i2f (nI z)) (FP.i2f (nI (nF (U.2 0))))))) .l = 0 := by
  have := share_n h e
  exact fp_deq z _ hz this.2 this.1
section DROWS
variable {p : Program} {l : Launch} {e : Env} {R : Room} {s : State} {m : MethodId} {args : Array Value} {below : List Frame} {meth : Method} {c : Code} {H : Heap} {locs : List Loc} {cells slots : Nat} {Q : State → Prop}
variable {G : Gx} {own : String} {cc : ByteArray} {nL : Nat} {ret : Option FieldType} {pc : Nat} {ls : Array Slot} {rest st : List Value} {w : va_W}
theorem r_vd (C : Cx l G own cc nL ret p s m meth c args) (hw : WH G s w H locs) {y : MethodName} {bytes : ByteArray} {maxL d k z n index : Nat} {As : List Value} {S : Type}  {post : UInt64 → S → Prop} {Wf : S → va_W} {b ci : Nat} {fs : List Value} (hM : MD_ l G y bytes maxL  d k z (.ref b :: As) w post Wf) (ml : Cond.methodLink own index y ∈ LW) (yf : YfV y bytes maxL (some .double) n) (q0 : Nat) (he : w[q0]? = some (b, .inr (ci, fs))) {T : u_T} {N : Nat} (hci : vwCl[ci]? = some (y.cls, T, N)) (hn : As.length = n) (hst : st = As.reverse ++ .ref b :: rest) (hR : d + 1 ≤ R.frames ∧ 8 + (maxL + 11) + 64 * d ≤ R.locals) (hf : cells + k ≤ R.cells ∧ slots + z ≤ R.slots) (hsz : ls.size = nL) (hrest : (rest.map fun v => v.category).sum ≤ 8) (hdg : decode cc pc = .ok (.invokevirtual index, 3))
    (kk : ∀ (r : UInt64) (u : S) (H : Heap) (locs : List Loc), post r u → WH G s (Wf u) H locs → W p l e R s m args below meth c H locs (cells + k) (slots + z) Q (F0 m (pc + 3) ls (.double r :: rest))) : W p l e R s m args below meth c H locs cells slots Q (F0 m pc ls st) :=
  va_calld (va_runV (As := As) (rest := rest) (n := n) ⟨C.1, C.2.1, C.2.2.2.1, C.2.2.2.2.1, C.2.2.2.2.2.1⟩ hM (cwV n C.2.2.2.2.2.1 (gi_V ml yf) rfl rfl rfl ⟨rfl, yf.2⟩ hR) ⟨Inv.blind, va_recv C.K hw.2.2.1 hci he, fun U hU hW => ⟨rfl, hw.inv C hU hW⟩⟩ rfl hn hsz hst (lv_room hrest) hdg hf) hw.2.1 (fun q _ h => h) (fun q h => h) (fun r u t H1 locs1 ht hvm hp hB _ _ hS => kk r u H1 locs1 hp ⟨hw.1, hS, ht ▸ hB.2.2.1, hB.2.2.2⟩)
theorem r_vf (C : Cx l G own cc nL ret p s m meth c args) (hw : WH G s w H locs) {y : MethodName} {bytes : ByteArray} {maxL d k z n index : Nat} {As : List Value} {S : Type}  {post : UInt32 → S → Prop} {Wf : S → va_W} {b ci : Nat} {fs : List Value} (hM : MF_ l G y bytes maxL  d k z (.ref b :: As) w post Wf) (ml : Cond.methodLink own index y ∈ LW) (yf : YfV y bytes maxL (some .float) n) (q0 : Nat) (he : w[q0]? = some (b, .inr (ci, fs))) {T : u_T} {N : Nat} (hci : vwCl[ci]? = some (y.cls, T, N)) (hn : As.length = n) (hst : st = As.reverse ++ .ref b :: rest) (hR : d + 1 ≤ R.frames ∧ 8 + (maxL + 11) + 64 * d ≤ R.locals) (hf : cells + k ≤ R.cells ∧ slots + z ≤ R.slots) (hsz : ls.size = nL) (hrest : (rest.map fun v => v.category).sum ≤ 8) (hdg : decode cc pc = .ok (.invokevirtual index, 3))
    (kk : ∀ (r : UInt32) (u : S) (H : Heap) (locs : List Loc), post r u → WH G s (Wf u) H locs → W p l e R s m args below meth c H locs (cells + k) (slots + z) Q (F0 m (pc + 3) ls (.float r :: rest))) : W p l e R s m args below meth c H locs cells slots Q (F0 m pc ls st) :=
  va_callf (va_runV (As := As) (rest := rest) (n := n) ⟨C.1, C.2.1, C.2.2.2.1, C.2.2.2.2.1, C.2.2.2.2.2.1⟩ hM (cwV n C.2.2.2.2.2.1 (gi_V ml yf) rfl rfl rfl ⟨rfl, yf.2⟩ hR) ⟨Inv.blind, va_recv C.K hw.2.2.1 hci he, fun U hU hW => ⟨rfl, hw.inv C hU hW⟩⟩ rfl hn hsz hst (lv_room hrest) hdg hf) hw.2.1 (fun q _ h => h) (fun q h => h) (fun r u t H1 locs1 ht hvm hp hB _ _ hS => kk r u H1 locs1 hp ⟨hw.1, hS, ht ▸ hB.2.2.1, hB.2.2.2⟩)
end DROWS
section LAWC
variable {p : Program} {l : Launch} {e : Env} {s : State} {m : MethodId} {below : List Frame} {meth : Method} {c : Code} {H : Heap} {locs : List Loc} {cells slots : Nat} {Q : State → Prop}
variable {G : Gx} {ret : Option FieldType} {ls : Array Slot} {b L : Nat} {xs : Nat → Int32}
set_option maxHeartbeats 4000000 in
set_option maxRecDepth 100000 in
theorem lc_stallCount (C : Cx l G RL cL_law 9 ret p s m meth c #[Value.ref b]) (hX : va_X b L xs s s.heap) (hbl : b < s.heap.size) (hbA : ¬ gA G b) {c9 d : Int} {D : CD} {U : MV_} (h : Sm c9 D U) (hd : c9 + 60 ≤ d) (hd4 : d ≤ 40000) {i : Nat} (hi : i + 4 < L) (hL : L ≤ 2560) {K : Nat → Nat → Nat} {r : Nat → Nat → Nat} {mo : Nat → Nat} {o o2 : Nat} {f1 : Nat → Int64} {f2 : Nat → UInt64} (hw : WH G s (lC G o f1 :: (dC G o2 f2 :: cW G K r D (moW G mo U ++ []))) H locs) (hl : lv_has ls 9 (lvL b (K 7 0) (mo 0) o o2 i)) (hc : cells ≤ 400000 ∧ slots ≤ 4000000)
    (kk : ∀ (D' : CD) (U' : MV_) (f1' : Nat → Int64) (f2' : Nat → UInt64) (ls : Array Slot) (H : Heap) (locs : List Loc), Sm d D' U' → WH G s (lC G o f1' :: (dC G o2 f2' :: cW G K r D' (moW G mo U' ++ []))) H locs → lv_has ls 9 (lvL b (K 7 0) (mo 0) o o2 i) → W p l e room_1 s m #[Value.ref b] below meth c H locs (cells + 80) (slots + 600) Q (F0 m 2825 ls [])) : W p l e room_1 s m #[Value.ref b] below meth c H locs cells slots Q (F0 m 1048 ls []) := by
  have hF := C.2.2.2.2.2.2.2.2
  refine lv_aload_n C.1 C.2.1 dL_law_1048 rfl (lv_at hl 4 rfl) ?_
  refine r_vi C (hw.perm (pw_A _ _ _ _ _ _ _ _ _ _ _ _)) (k11_stallCount hF (K := K) (S := D.S) (F := D.F) (X := YA G K r D (lC G o f1) (dC G o2 f2) (moW G mo U ++ [])) ) ml_L_204 yf_X11_stallCount 19 rfl rfl (As := []) rfl rfl ⟨Nat.le_of_ble_eq_true rfl, Nat.le_of_ble_eq_true rfl⟩ (by show cells + 0 ≤ 603072 ∧ slots + 0 ≤ 7198826; omega) hl.1 (Nat.le_of_ble_eq_true rfl) dL_law_1049 (fun r1 u1 H locs hp1 hw => ?_)
  have hw : WH G s (lC G o f1 :: (dC G o2 f2 :: cW G K r (D) (moW G mo U ++ []))) H locs := hw.perm (pw_A _ _ _ _ _ _ _ _ _ _ _ _).symm
  refine lv_aload_n C.1 C.2.1 dL_law_1052 rfl (lv_at hl 3 rfl) ?_
  refine r_vi C (hw.perm (pw_M _ _ _ _ _ _ _ _ _ _ _ _ _)) (k12_stallCount hF (U := U) (mo := mo)  ) ml_L_207 yf_X12_stallCount 0 rfl rfl (As := []) (rest := [.int r1]) rfl rfl ⟨Nat.le_of_ble_eq_true rfl, Nat.le_of_ble_eq_true rfl⟩ (by show cells + 0 + 0 ≤ 603072 ∧ slots + 0 + 0 ≤ 7198826; omega) hl.1 (Nat.le_of_ble_eq_true rfl) dL_law_1053 (fun r2 _ H locs hp2 hw => ?_)
  have e : r1 = r2 := by rw [hp1, hp2]; exact h.rl.1.1
  refine lv_icmp_eq (tgt := 2825) C.1 C.2.1 dL_law_1056 (by decide) (fun _ => ?_) (fun c1 => absurd e c1)
  exact W.widen (by omega) (by omega) (kk (D) (mI U 2 0) f1 f2 ls H locs ((h.mono (show c9 ≤ d by omega) hd4).thr 0) (hw.perm (pw_M _ _ _ _ _ _ _ _ _ _ _ _ _).symm) hl)
set_option maxHeartbeats 4000000 in
set_option maxRecDepth 100000 in
theorem lc_totalMoney (C : Cx l G RL cL_law 9 ret p s m meth c #[Value.ref b]) (hX : va_X b L xs s s.heap) (hbl : b < s.heap.size) (hbA : ¬ gA G b) {c9 d : Int} {D : CD} {U : MV_} (h : Sm c9 D U) (hd : c9 + 60 ≤ d) (hd4 : d ≤ 40000) {i : Nat} (hi : i + 4 < L) (hL : L ≤ 2560) {K : Nat → Nat → Nat} {r : Nat → Nat → Nat} {mo : Nat → Nat} {o o2 : Nat} {f1 : Nat → Int64} {f2 : Nat → UInt64} (hw : WH G s (lC G o f1 :: (dC G o2 f2 :: cW G K r D (moW G mo U ++ []))) H locs) (hl : lv_has ls 9 (lvL b (K 7 0) (mo 0) o o2 i)) (hc : cells ≤ 400000 ∧ slots ≤ 4000000)
    (kk : ∀ (D' : CD) (U' : MV_) (f1' : Nat → Int64) (f2' : Nat → UInt64) (ls : Array Slot) (H : Heap) (locs : List Loc), Sm d D' U' → WH G s (lC G o f1' :: (dC G o2 f2' :: cW G K r D' (moW G mo U' ++ []))) H locs → lv_has ls 9 (lvL b (K 7 0) (mo 0) o o2 i) → W p l e room_1 s m #[Value.ref b] below meth c H locs (cells + 80) (slots + 600) Q (F0 m 2825 ls [])) : W p l e room_1 s m #[Value.ref b] below meth c H locs cells slots Q (F0 m 1285 ls []) := by
  have hF := C.2.2.2.2.2.2.2.2
  refine lv_aload_n C.1 C.2.1 dL_law_1285 rfl (lv_at hl 4 rfl) ?_
  refine r_vi C (hw.perm (pw_A _ _ _ _ _ _ _ _ _ _ _ _)) (k11_totalMoney hF (K := K) (S := D.S) (F := D.F) (X := YA G K r D (lC G o f1) (dC G o2 f2) (moW G mo U ++ [])) ) ml_L_220 yf_X11_totalMoney 19 rfl rfl (As := []) rfl rfl ⟨Nat.le_of_ble_eq_true rfl, Nat.le_of_ble_eq_true rfl⟩ (by show cells + 0 ≤ 603072 ∧ slots + 0 ≤ 7198826; omega) hl.1 (Nat.le_of_ble_eq_true rfl) dL_law_1286 (fun r1 u1 H locs hp1 hw => ?_)
  have hw : WH G s (lC G o f1 :: (dC G o2 f2 :: cW G K r (D) (moW G mo U ++ []))) H locs := hw.perm (pw_A _ _ _ _ _ _ _ _ _ _ _ _).symm
  refine lv_aload_n C.1 C.2.1 dL_law_1289 rfl (lv_at hl 3 rfl) ?_
  refine r_vi C (hw.perm (pw_M _ _ _ _ _ _ _ _ _ _ _ _ _)) (k12_totalMoney hF (U := U) (mo := mo) h.okf) ml_L_223 yf_X12_totalMoney 0 rfl rfl (As := []) (rest := [.int r1]) rfl rfl ⟨Nat.le_of_ble_eq_true rfl, Nat.le_of_ble_eq_true rfl⟩ (by show cells + 0 + 0 ≤ 603072 ∧ slots + 0 + 0 ≤ 7198826; omega) hl.1 (Nat.le_of_ble_eq_true rfl) dL_law_1290 (fun r2 _ H locs hp2 hw => ?_)
  have e : r1 = r2 := by rw [hp1, hp2]; exact h.rl.tot h.okf (k := 0) (by decide)
  refine lv_icmp_eq (tgt := 2825) C.1 C.2.1 dL_law_1293 (by decide) (fun _ => ?_) (fun c1 => absurd e c1)
  exact W.widen (by omega) (by omega) (kk (D) (mI U 2 0) f1 f2 ls H locs ((h.mono (show c9 ≤ d by omega) hd4).thr 0) (hw.perm (pw_M _ _ _ _ _ _ _ _ _ _ _ _ _).symm) hl)
set_option maxHeartbeats 4000000 in
set_option maxRecDepth 100000 in
theorem lc_totalDrops (C : Cx l G RL cL_law 9 ret p s m meth c #[Value.ref b]) (hX : va_X b L xs s s.heap) (hbl : b < s.heap.size) (hbA : ¬ gA G b) {c9 d : Int} {D : CD} {U : MV_} (h : Sm c9 D U) (hd : c9 + 60 ≤ d) (hd4 : d ≤ 40000) {i : Nat} (hi : i + 4 < L) (hL : L ≤ 2560) {K : Nat → Nat → Nat} {r : Nat → Nat → Nat} {mo : Nat → Nat} {o o2 : Nat} {f1 : Nat → Int64} {f2 : Nat → UInt64} (hw : WH G s (lC G o f1 :: (dC G o2 f2 :: cW G K r D (moW G mo U ++ []))) H locs) (hl : lv_has ls 9 (lvL b (K 7 0) (mo 0) o o2 i)) (hc : cells ≤ 400000 ∧ slots ≤ 4000000)
    (kk : ∀ (D' : CD) (U' : MV_) (f1' : Nat → Int64) (f2' : Nat → UInt64) (ls : Array Slot) (H : Heap) (locs : List Loc), Sm d D' U' → WH G s (lC G o f1' :: (dC G o2 f2' :: cW G K r D' (moW G mo U' ++ []))) H locs → lv_has ls 9 (lvL b (K 7 0) (mo 0) o o2 i) → W p l e room_1 s m #[Value.ref b] below meth c H locs (cells + 80) (slots + 600) Q (F0 m 2825 ls [])) : W p l e room_1 s m #[Value.ref b] below meth c H locs cells slots Q (F0 m 1298 ls []) := by
  have hF := C.2.2.2.2.2.2.2.2
  refine lv_aload_n C.1 C.2.1 dL_law_1298 rfl (lv_at hl 4 rfl) ?_
  refine r_vi C (hw.perm (pw_A _ _ _ _ _ _ _ _ _ _ _ _)) (k11_totalDrops hF (K := K) (S := D.S) (F := D.F) (X := YA G K r D (lC G o f1) (dC G o2 f2) (moW G mo U ++ [])) ) ml_L_224 yf_X11_totalDrops 19 rfl rfl (As := []) rfl rfl ⟨Nat.le_of_ble_eq_true rfl, Nat.le_of_ble_eq_true rfl⟩ (by show cells + 0 ≤ 603072 ∧ slots + 0 ≤ 7198826; omega) hl.1 (Nat.le_of_ble_eq_true rfl) dL_law_1299 (fun r1 u1 H locs hp1 hw => ?_)
  have hw : WH G s (lC G o f1 :: (dC G o2 f2 :: cW G K r (D) (moW G mo U ++ []))) H locs := hw.perm (pw_A _ _ _ _ _ _ _ _ _ _ _ _).symm
  refine lv_aload_n C.1 C.2.1 dL_law_1302 rfl (lv_at hl 3 rfl) ?_
  refine r_vi C (hw.perm (pw_M _ _ _ _ _ _ _ _ _ _ _ _ _)) (k12_totalDrops hF (U := U) (mo := mo) h.okf) ml_L_227 yf_X12_totalDrops 0 rfl rfl (As := []) (rest := [.int r1]) rfl rfl ⟨Nat.le_of_ble_eq_true rfl, Nat.le_of_ble_eq_true rfl⟩ (by show cells + 0 + 0 ≤ 603072 ∧ slots + 0 + 0 ≤ 7198826; omega) hl.1 (Nat.le_of_ble_eq_true rfl) dL_law_1303 (fun r2 _ H locs hp2 hw => ?_)
  have e : r1 = r2 := by rw [hp1, hp2]; exact h.rl.tot h.okf (k := 1) (by decide)
  refine lv_icmp_eq (tgt := 2825) C.1 C.2.1 dL_law_1306 (by decide) (fun _ => ?_) (fun c1 => absurd e c1)
  exact W.widen (by omega) (by omega) (kk (D) (mI U 2 0) f1 f2 ls H locs ((h.mono (show c9 ≤ d by omega) hd4).thr 0) (hw.perm (pw_M _ _ _ _ _ _ _ _ _ _ _ _ _).symm) hl)
set_option maxHeartbeats 4000000 in
set_option maxRecDepth 100000 in
theorem lc_orderCount (C : Cx l G RL cL_law 9 ret p s m meth c #[Value.ref b]) (hX : va_X b L xs s s.heap) (hbl : b < s.heap.size) (hbA : ¬ gA G b) {c9 d : Int} {D : CD} {U : MV_} (h : Sm c9 D U) (hd : c9 + 60 ≤ d) (hd4 : d ≤ 40000) {i : Nat} (hi : i + 4 < L) (hL : L ≤ 2560) {K : Nat → Nat → Nat} {r : Nat → Nat → Nat} {mo : Nat → Nat} {o o2 : Nat} {f1 : Nat → Int64} {f2 : Nat → UInt64} (hw : WH G s (lC G o f1 :: (dC G o2 f2 :: cW G K r D (moW G mo U ++ []))) H locs) (hl : lv_has ls 9 (lvL b (K 7 0) (mo 0) o o2 i)) (hc : cells ≤ 400000 ∧ slots ≤ 4000000)
    (kk : ∀ (D' : CD) (U' : MV_) (f1' : Nat → Int64) (f2' : Nat → UInt64) (ls : Array Slot) (H : Heap) (locs : List Loc), Sm d D' U' → WH G s (lC G o f1' :: (dC G o2 f2' :: cW G K r D' (moW G mo U' ++ []))) H locs → lv_has ls 9 (lvL b (K 7 0) (mo 0) o o2 i) → W p l e room_1 s m #[Value.ref b] below meth c H locs (cells + 80) (slots + 600) Q (F0 m 2825 ls [])) : W p l e room_1 s m #[Value.ref b] below meth c H locs cells slots Q (F0 m 1367 ls []) := by
  have hF := C.2.2.2.2.2.2.2.2
  refine lv_aload_n C.1 C.2.1 dL_law_1367 rfl (lv_at hl 4 rfl) ?_
  refine r_vi C (hw.perm (pw_A _ _ _ _ _ _ _ _ _ _ _ _)) (k11_orderCount hF (K := K) (S := D.S) (F := D.F) (X := YA G K r D (lC G o f1) (dC G o2 f2) (moW G mo U ++ [])) ) ml_L_231 yf_X11_orderCount 19 rfl rfl (As := []) rfl rfl ⟨Nat.le_of_ble_eq_true rfl, Nat.le_of_ble_eq_true rfl⟩ (by show cells + 0 ≤ 603072 ∧ slots + 0 ≤ 7198826; omega) hl.1 (Nat.le_of_ble_eq_true rfl) dL_law_1368 (fun r1 u1 H locs hp1 hw => ?_)
  have hw : WH G s (lC G o f1 :: (dC G o2 f2 :: cW G K r (D) (moW G mo U ++ []))) H locs := hw.perm (pw_A _ _ _ _ _ _ _ _ _ _ _ _).symm
  refine lv_aload_n C.1 C.2.1 dL_law_1371 rfl (lv_at hl 3 rfl) ?_
  refine r_vi C (hw.perm (pw_M _ _ _ _ _ _ _ _ _ _ _ _ _)) (k12_orderCount hF (U := U) (mo := mo)  ) ml_L_234 yf_X12_orderCount 0 rfl rfl (As := []) (rest := [.int r1]) rfl rfl ⟨Nat.le_of_ble_eq_true rfl, Nat.le_of_ble_eq_true rfl⟩ (by show cells + 0 + 0 ≤ 603072 ∧ slots + 0 + 0 ≤ 7198826; omega) hl.1 (Nat.le_of_ble_eq_true rfl) dL_law_1372 (fun r2 _ H locs hp2 hw => ?_)
  have e : r1 = r2 := by rw [hp1, hp2]; exact h.rl.1.2.1
  refine lv_icmp_eq (tgt := 2825) C.1 C.2.1 dL_law_1375 (by decide) (fun _ => ?_) (fun c1 => absurd e c1)
  exact W.widen (by omega) (by omega) (kk (D) (mI U 2 0) f1 f2 ls H locs ((h.mono (show c9 ≤ d by omega) hd4).thr 0) (hw.perm (pw_M _ _ _ _ _ _ _ _ _ _ _ _ _).symm) hl)
set_option maxHeartbeats 4000000 in
set_option maxRecDepth 100000 in
theorem lc_tradeCount (C : Cx l G RL cL_law 9 ret p s m meth c #[Value.ref b]) (hX : va_X b L xs s s.heap) (hbl : b < s.heap.size) (hbA : ¬ gA G b) {c9 d : Int} {D : CD} {U : MV_} (h : Sm c9 D U) (hd : c9 + 60 ≤ d) (hd4 : d ≤ 40000) {i : Nat} (hi : i + 4 < L) (hL : L ≤ 2560) {K : Nat → Nat → Nat} {r : Nat → Nat → Nat} {mo : Nat → Nat} {o o2 : Nat} {f1 : Nat → Int64} {f2 : Nat → UInt64} (hw : WH G s (lC G o f1 :: (dC G o2 f2 :: cW G K r D (moW G mo U ++ []))) H locs) (hl : lv_has ls 9 (lvL b (K 7 0) (mo 0) o o2 i)) (hc : cells ≤ 400000 ∧ slots ≤ 4000000)
    (kk : ∀ (D' : CD) (U' : MV_) (f1' : Nat → Int64) (f2' : Nat → UInt64) (ls : Array Slot) (H : Heap) (locs : List Loc), Sm d D' U' → WH G s (lC G o f1' :: (dC G o2 f2' :: cW G K r D' (moW G mo U' ++ []))) H locs → lv_has ls 9 (lvL b (K 7 0) (mo 0) o o2 i) → W p l e room_1 s m #[Value.ref b] below meth c H locs (cells + 80) (slots + 600) Q (F0 m 2825 ls [])) : W p l e room_1 s m #[Value.ref b] below meth c H locs cells slots Q (F0 m 2055 ls []) := by
  have hF := C.2.2.2.2.2.2.2.2
  refine lv_aload_n C.1 C.2.1 dL_law_2055 rfl (lv_at hl 4 rfl) ?_
  refine r_vi C (hw.perm (pw_A _ _ _ _ _ _ _ _ _ _ _ _)) (k11_tradeCount hF (K := K) (S := D.S) (F := D.F) (X := YA G K r D (lC G o f1) (dC G o2 f2) (moW G mo U ++ [])) ) ml_L_274 yf_X11_tradeCount 19 rfl rfl (As := []) rfl rfl ⟨Nat.le_of_ble_eq_true rfl, Nat.le_of_ble_eq_true rfl⟩ (by show cells + 0 ≤ 603072 ∧ slots + 0 ≤ 7198826; omega) hl.1 (Nat.le_of_ble_eq_true rfl) dL_law_2056 (fun r1 u1 H locs hp1 hw => ?_)
  have hw : WH G s (lC G o f1 :: (dC G o2 f2 :: cW G K r (D) (moW G mo U ++ []))) H locs := hw.perm (pw_A _ _ _ _ _ _ _ _ _ _ _ _).symm
  refine lv_aload_n C.1 C.2.1 dL_law_2059 rfl (lv_at hl 3 rfl) ?_
  refine r_vi C (hw.perm (pw_M _ _ _ _ _ _ _ _ _ _ _ _ _)) (k12_tradeCount hF (U := U) (mo := mo)  ) ml_L_277 yf_X12_tradeCount 0 rfl rfl (As := []) (rest := [.int r1]) rfl rfl ⟨Nat.le_of_ble_eq_true rfl, Nat.le_of_ble_eq_true rfl⟩ (by show cells + 0 + 0 ≤ 603072 ∧ slots + 0 + 0 ≤ 7198826; omega) hl.1 (Nat.le_of_ble_eq_true rfl) dL_law_2060 (fun r2 _ H locs hp2 hw => ?_)
  have e : r1 = r2 := by rw [hp1, hp2]; exact h.rl.1.2.2.2.2.2.2.1
  refine lv_icmp_eq (tgt := 2825) C.1 C.2.1 dL_law_2063 (by decide) (fun _ => ?_) (fun c1 => absurd e c1)
  exact W.widen (by omega) (by omega) (kk (D) (mI U 2 0) f1 f2 ls H locs ((h.mono (show c9 ≤ d by omega) hd4).thr 0) (hw.perm (pw_M _ _ _ _ _ _ _ _ _ _ _ _ _).symm) hl)
set_option maxHeartbeats 4000000 in
set_option maxRecDepth 100000 in
theorem lc_tradedQuantity (C : Cx l G RL cL_law 9 ret p s m meth c #[Value.ref b]) (hX : va_X b L xs s s.heap) (hbl : b < s.heap.size) (hbA : ¬ gA G b) {c9 d : Int} {D : CD} {U : MV_} (h : Sm c9 D U) (hd : c9 + 60 ≤ d) (hd4 : d ≤ 40000) {i : Nat} (hi : i + 4 < L) (hL : L ≤ 2560) {K : Nat → Nat → Nat} {r : Nat → Nat → Nat} {mo : Nat → Nat} {o o2 : Nat} {f1 : Nat → Int64} {f2 : Nat → UInt64} (hw : WH G s (lC G o f1 :: (dC G o2 f2 :: cW G K r D (moW G mo U ++ []))) H locs) (hl : lv_has ls 9 (lvL b (K 7 0) (mo 0) o o2 i)) (hc : cells ≤ 400000 ∧ slots ≤ 4000000)
    (kk : ∀ (D' : CD) (U' : MV_) (f1' : Nat → Int64) (f2' : Nat → UInt64) (ls : Array Slot) (H : Heap) (locs : List Loc), Sm d D' U' → WH G s (lC G o f1' :: (dC G o2 f2' :: cW G K r D' (moW G mo U' ++ []))) H locs → lv_has ls 9 (lvL b (K 7 0) (mo 0) o o2 i) → W p l e room_1 s m #[Value.ref b] below meth c H locs (cells + 80) (slots + 600) Q (F0 m 2825 ls [])) : W p l e room_1 s m #[Value.ref b] below meth c H locs cells slots Q (F0 m 2068 ls []) := by
  have hF := C.2.2.2.2.2.2.2.2
  refine lv_aload_n C.1 C.2.1 dL_law_2068 rfl (lv_at hl 4 rfl) ?_
  refine r_vi C (hw.perm (pw_A _ _ _ _ _ _ _ _ _ _ _ _)) (k11_tradedQuantity hF (K := K) (S := D.S) (F := D.F) (X := YA G K r D (lC G o f1) (dC G o2 f2) (moW G mo U ++ [])) ) ml_L_278 yf_X11_tradedQuantity 19 rfl rfl (As := []) rfl rfl ⟨Nat.le_of_ble_eq_true rfl, Nat.le_of_ble_eq_true rfl⟩ (by show cells + 0 ≤ 603072 ∧ slots + 0 ≤ 7198826; omega) hl.1 (Nat.le_of_ble_eq_true rfl) dL_law_2069 (fun r1 u1 H locs hp1 hw => ?_)
  have hw : WH G s (lC G o f1 :: (dC G o2 f2 :: cW G K r (D) (moW G mo U ++ []))) H locs := hw.perm (pw_A _ _ _ _ _ _ _ _ _ _ _ _).symm
  refine lv_aload_n C.1 C.2.1 dL_law_2072 rfl (lv_at hl 3 rfl) ?_
  refine r_vi C (hw.perm (pw_M _ _ _ _ _ _ _ _ _ _ _ _ _)) (k12_tradedQuantity hF (U := U) (mo := mo)  ) ml_L_281 yf_X12_tradedQuantity 0 rfl rfl (As := []) (rest := [.int r1]) rfl rfl ⟨Nat.le_of_ble_eq_true rfl, Nat.le_of_ble_eq_true rfl⟩ (by show cells + 0 + 0 ≤ 603072 ∧ slots + 0 + 0 ≤ 7198826; omega) hl.1 (Nat.le_of_ble_eq_true rfl) dL_law_2073 (fun r2 _ H locs hp2 hw => ?_)
  have e : r1 = r2 := by rw [hp1, hp2]; exact h.rl.1.2.2.2.2.2.2.2
  refine lv_icmp_eq (tgt := 2825) C.1 C.2.1 dL_law_2076 (by decide) (fun _ => ?_) (fun c1 => absurd e c1)
  exact W.widen (by omega) (by omega) (kk (D) (mI U 2 0) f1 f2 ls H locs ((h.mono (show c9 ≤ d by omega) hd4).thr 0) (hw.perm (pw_M _ _ _ _ _ _ _ _ _ _ _ _ _).symm) hl)
set_option maxHeartbeats 4000000 in
set_option maxRecDepth 100000 in
theorem lc_isPoolOpen (C : Cx l G RL cL_law 9 ret p s m meth c #[Value.ref b]) (hX : va_X b L xs s s.heap) (hbl : b < s.heap.size) (hbA : ¬ gA G b) {c9 d : Int} {D : CD} {U : MV_} (h : Sm c9 D U) (hd : c9 + 60 ≤ d) (hd4 : d ≤ 40000) {i : Nat} (hi : i + 4 < L) (hL : L ≤ 2560) {K : Nat → Nat → Nat} {r : Nat → Nat → Nat} {mo : Nat → Nat} {o o2 : Nat} {f1 : Nat → Int64} {f2 : Nat → UInt64} (hw : WH G s (lC G o f1 :: (dC G o2 f2 :: cW G K r D (moW G mo U ++ []))) H locs) (hl : lv_has ls 9 (lvL b (K 7 0) (mo 0) o o2 i)) (hc : cells ≤ 400000 ∧ slots ≤ 4000000)
    (kk : ∀ (D' : CD) (U' : MV_) (f1' : Nat → Int64) (f2' : Nat → UInt64) (ls : Array Slot) (H : Heap) (locs : List Loc), Sm d D' U' → WH G s (lC G o f1' :: (dC G o2 f2' :: cW G K r D' (moW G mo U' ++ []))) H locs → lv_has ls 9 (lvL b (K 7 0) (mo 0) o o2 i) → W p l e room_1 s m #[Value.ref b] below meth c H locs (cells + 80) (slots + 600) Q (F0 m 2825 ls [])) : W p l e room_1 s m #[Value.ref b] below meth c H locs cells slots Q (F0 m 2226 ls []) := by
  have hF := C.2.2.2.2.2.2.2.2
  refine lv_aload_n C.1 C.2.1 dL_law_2226 rfl (lv_at hl 4 rfl) ?_
  refine r_vi C (hw.perm (pw_A _ _ _ _ _ _ _ _ _ _ _ _)) (k11_isPoolOpen hF (K := K) (S := D.S) (F := D.F) (X := YA G K r D (lC G o f1) (dC G o2 f2) (moW G mo U ++ [])) h.b2) ml_L_294 yf_X11_isPoolOpen 19 rfl rfl (As := []) rfl rfl ⟨Nat.le_of_ble_eq_true rfl, Nat.le_of_ble_eq_true rfl⟩ (by show cells + 0 ≤ 603072 ∧ slots + 0 ≤ 7198826; omega) hl.1 (Nat.le_of_ble_eq_true rfl) dL_law_2227 (fun r1 u1 H locs hp1 hw => ?_)
  have hw : WH G s (lC G o f1 :: (dC G o2 f2 :: cW G K r (D) (moW G mo U ++ []))) H locs := hw.perm (pw_A _ _ _ _ _ _ _ _ _ _ _ _).symm
  refine lv_aload_n C.1 C.2.1 dL_law_2230 rfl (lv_at hl 3 rfl) ?_
  refine r_vi C (hw.perm (pw_M _ _ _ _ _ _ _ _ _ _ _ _ _)) (k12_isPoolOpen hF (U := U) (mo := mo)  ) ml_L_298 yf_X12_isPoolOpen 0 rfl rfl (As := []) (rest := [.int r1]) rfl rfl ⟨Nat.le_of_ble_eq_true rfl, Nat.le_of_ble_eq_true rfl⟩ (by show cells + 0 + 0 ≤ 603072 ∧ slots + 0 + 0 ≤ 7198826; omega) hl.1 (Nat.le_of_ble_eq_true rfl) dL_law_2231 (fun r2 _ H locs hp2 hw => ?_)
  have e : r1 = r2 := by rw [hp1, hp2, ← h.rl.1.2.2.1]; exact h.pb
  refine lv_icmp_eq (tgt := 2825) C.1 C.2.1 dL_law_2234 (by decide) (fun _ => ?_) (fun c1 => absurd e c1)
  exact W.widen (by omega) (by omega) (kk (D) (mI U 2 0) f1 f2 ls H locs ((h.mono (show c9 ≤ d by omega) hd4).thr 0) (hw.perm (pw_M _ _ _ _ _ _ _ _ _ _ _ _ _).symm) hl)
set_option maxHeartbeats 4000000 in
set_option maxRecDepth 100000 in
theorem lc_time (C : Cx l G RL cL_law 9 ret p s m meth c #[Value.ref b]) (hX : va_X b L xs s s.heap) (hbl : b < s.heap.size) (hbA : ¬ gA G b) {c9 d : Int} {D : CD} {U : MV_} (h : Sm c9 D U) (hd : c9 + 60 ≤ d) (hd4 : d ≤ 40000) {i : Nat} (hi : i + 4 < L) (hL : L ≤ 2560) {K : Nat → Nat → Nat} {r : Nat → Nat → Nat} {mo : Nat → Nat} {o o2 : Nat} {f1 : Nat → Int64} {f2 : Nat → UInt64} (hw : WH G s (lC G o f1 :: (dC G o2 f2 :: cW G K r D (moW G mo U ++ []))) H locs) (hl : lv_has ls 9 (lvL b (K 7 0) (mo 0) o o2 i)) (hc : cells ≤ 400000 ∧ slots ≤ 4000000)
    (kk : ∀ (D' : CD) (U' : MV_) (f1' : Nat → Int64) (f2' : Nat → UInt64) (ls : Array Slot) (H : Heap) (locs : List Loc), Sm d D' U' → WH G s (lC G o f1' :: (dC G o2 f2' :: cW G K r D' (moW G mo U' ++ []))) H locs → lv_has ls 9 (lvL b (K 7 0) (mo 0) o o2 i) → W p l e room_1 s m #[Value.ref b] below meth c H locs (cells + 80) (slots + 600) Q (F0 m 2825 ls [])) : W p l e room_1 s m #[Value.ref b] below meth c H locs cells slots Q (F0 m 2383 ls []) := by
  have hF := C.2.2.2.2.2.2.2.2
  refine lv_aload_n C.1 C.2.1 dL_law_2383 rfl (lv_at hl 4 rfl) ?_
  refine r_vi C (hw.perm (pw_A _ _ _ _ _ _ _ _ _ _ _ _)) (k11_time hF (K := K) (S := D.S) (F := D.F) (X := YA G K r D (lC G o f1) (dC G o2 f2) (moW G mo U ++ [])) ) ml_L_308 yf_X11_time 19 rfl rfl (As := []) rfl rfl ⟨Nat.le_of_ble_eq_true rfl, Nat.le_of_ble_eq_true rfl⟩ (by show cells + 0 ≤ 603072 ∧ slots + 0 ≤ 7198826; omega) hl.1 (Nat.le_of_ble_eq_true rfl) dL_law_2384 (fun r1 u1 H locs hp1 hw => ?_)
  have hw : WH G s (lC G o f1 :: (dC G o2 f2 :: cW G K r (D) (moW G mo U ++ []))) H locs := hw.perm (pw_A _ _ _ _ _ _ _ _ _ _ _ _).symm
  refine lv_aload_n C.1 C.2.1 dL_law_2387 rfl (lv_at hl 3 rfl) ?_
  refine r_vi C (hw.perm (pw_M _ _ _ _ _ _ _ _ _ _ _ _ _)) (k12_time hF (U := U) (mo := mo)  ) ml_L_311 yf_X12_time 0 rfl rfl (As := []) (rest := [.int r1]) rfl rfl ⟨Nat.le_of_ble_eq_true rfl, Nat.le_of_ble_eq_true rfl⟩ (by show cells + 0 + 0 ≤ 603072 ∧ slots + 0 + 0 ≤ 7198826; omega) hl.1 (Nat.le_of_ble_eq_true rfl) dL_law_2388 (fun r2 _ H locs hp2 hw => ?_)
  have e : r1 = r2 := by rw [hp1, hp2]; exact h.rl.1.2.2.2.1
  refine lv_icmp_eq (tgt := 2825) C.1 C.2.1 dL_law_2391 (by decide) (fun _ => ?_) (fun c1 => absurd e c1)
  exact W.widen (by omega) (by omega) (kk (D) (mI U 2 0) f1 f2 ls H locs ((h.mono (show c9 ≤ d by omega) hd4).thr 0) (hw.perm (pw_M _ _ _ _ _ _ _ _ _ _ _ _ _).symm) hl)
set_option maxHeartbeats 4000000 in
set_option maxRecDepth 100000 in
theorem lc_writeBook (C : Cx l G RL cL_law 9 ret p s m meth c #[Value.ref b]) (hX : va_X b L xs s s.heap) (hbl : b < s.heap.size) (hbA : ¬ gA G b) {c9 d : Int} {D : CD} {U : MV_} (h : Sm c9 D U) (hd : c9 + 60 ≤ d) (hd4 : d ≤ 40000) {i : Nat} (hi : i + 4 < L) (hL : L ≤ 2560) {K : Nat → Nat → Nat} {r : Nat → Nat → Nat} {mo : Nat → Nat} {o o2 : Nat} {f1 : Nat → Int64} {f2 : Nat → UInt64} (hw : WH G s (lC G o f1 :: (dC G o2 f2 :: cW G K r D (moW G mo U ++ []))) H locs) (hl : lv_has ls 9 (lvL b (K 7 0) (mo 0) o o2 i)) (hc : cells ≤ 400000 ∧ slots ≤ 4000000)
    (kk : ∀ (D' : CD) (U' : MV_) (f1' : Nat → Int64) (f2' : Nat → UInt64) (ls : Array Slot) (H : Heap) (locs : List Loc), Sm d D' U' → WH G s (lC G o f1' :: (dC G o2 f2' :: cW G K r D' (moW G mo U' ++ []))) H locs → lv_has ls 9 (lvL b (K 7 0) (mo 0) o o2 i) → W p l e room_1 s m #[Value.ref b] below meth c H locs (cells + 80) (slots + 600) Q (F0 m 2825 ls [])) : W p l e room_1 s m #[Value.ref b] below meth c H locs cells slots Q (F0 m 2452 ls []) := by
  have hF := C.2.2.2.2.2.2.2.2
  refine lv_aload_n C.1 C.2.1 dL_law_2452 rfl (lv_at hl 4 rfl) ?_
  refine r_vi C (hw.perm (pw_F _ _ _ _ _ _ _ _ _ _ _ _)) (k11_writeBook hF (K := K) (S := D.S) (u := D.ul) (L := D.LL) (F := D.F) (X := YF G K r D (lC G o f1) (dC G o2 f2) (moW G mo U ++ [])) h.lt h.ok (smN_ok h.rl h.iz).1) ml_L_315 yf_X11_writeBook 19 rfl rfl (As := []) rfl rfl ⟨Nat.le_of_ble_eq_true rfl, Nat.le_of_ble_eq_true rfl⟩ (by show cells + 8 ≤ 603072 ∧ slots + 560 ≤ 7198826; omega) hl.1 (Nat.le_of_ble_eq_true rfl) dL_law_2453 (fun r1 u1 H locs hp1 hw => ?_)
  have hw : WH G s (lC G o f1 :: (dC G o2 f2 :: cW G K r (cdm D.S D.B D.N D.V D.nw D.dp D.f D.g D.ut D.LT D.vb D.p0 D.gp u1 (bsL D.S false (bsL D.S true [] ++ [nI 47])) D.F) (moW G mo U ++ []))) H locs := hw.perm (pw_F _ _ _ _ _ _ _ _ _ _ _ _).symm
  refine lv_aload_n C.1 C.2.1 dL_law_2456 rfl (lv_at hl 3 rfl) ?_
  refine r_vi C (hw.perm (pw_M _ _ _ _ _ _ _ _ _ _ _ _ _)) (k12_writeBook hF (U := U) (mo := mo) h.okf (okL_ok h.iz)) ml_L_318 yf_X12_writeBook 0 rfl rfl (As := []) (rest := [.int r1]) rfl rfl ⟨Nat.le_of_ble_eq_true rfl, Nat.le_of_ble_eq_true rfl⟩ (by show cells + 8 + 0 ≤ 603072 ∧ slots + 560 + 0 ≤ 7198826; omega) hl.1 (Nat.le_of_ble_eq_true rfl) dL_law_2457 (fun r2 _ H locs hp2 hw => ?_)
  have e : r1 = r2 := by rw [hp1.1, hp2]; exact ((sim_wb h).2.1).symm
  refine lv_icmp_eq (tgt := 2825) C.1 C.2.1 dL_law_2460 (by decide) (fun _ => ?_) (fun c1 => absurd e c1)
  exact W.widen (by omega) (by omega) (kk (cdm D.S D.B D.N D.V D.nw D.dp D.f D.g D.ut D.LT D.vb D.p0 D.gp u1 (bsL D.S false (bsL D.S true [] ++ [nI 47])) D.F) (syU (mI (mI U 2 0) 3 0) 0 (wbL (U.2 0))) f1 f2 ls H locs ((sim_wb (h.mono (show c9 ≤ d by omega) hd4)).2.2 u1 hp1.2) (hw.perm (pw_M _ _ _ _ _ _ _ _ _ _ _ _ _).symm) hl)
set_option maxHeartbeats 4000000 in
set_option maxRecDepth 100000 in
theorem lc_isConsistent (C : Cx l G RL cL_law 9 ret p s m meth c #[Value.ref b]) (hX : va_X b L xs s s.heap) (hbl : b < s.heap.size) (hbA : ¬ gA G b) {c9 d : Int} {D : CD} {U : MV_} (h : Sm c9 D U) (hd : c9 + 60 ≤ d) (hd4 : d ≤ 40000) {i : Nat} (hi : i + 4 < L) (hL : L ≤ 2560) {K : Nat → Nat → Nat} {r : Nat → Nat → Nat} {mo : Nat → Nat} {o o2 : Nat} {f1 : Nat → Int64} {f2 : Nat → UInt64} (hw : WH G s (lC G o f1 :: (dC G o2 f2 :: cW G K r D (moW G mo U ++ []))) H locs) (hl : lv_has ls 9 (lvL b (K 7 0) (mo 0) o o2 i)) (hc : cells ≤ 400000 ∧ slots ≤ 4000000)
    (kk : ∀ (D' : CD) (U' : MV_) (f1' : Nat → Int64) (f2' : Nat → UInt64) (ls : Array Slot) (H : Heap) (locs : List Loc), Sm d D' U' → WH G s (lC G o f1' :: (dC G o2 f2' :: cW G K r D' (moW G mo U' ++ []))) H locs → lv_has ls 9 (lvL b (K 7 0) (mo 0) o o2 i) → W p l e room_1 s m #[Value.ref b] below meth c H locs (cells + 80) (slots + 600) Q (F0 m 2825 ls [])) : W p l e room_1 s m #[Value.ref b] below meth c H locs cells slots Q (F0 m 2521 ls []) := by
  have hF := C.2.2.2.2.2.2.2.2
  refine lv_aload_n C.1 C.2.1 dL_law_2521 rfl (lv_at hl 4 rfl) ?_
  refine r_vi C (hw.perm (pw_E _ _ _ _ _ _ _ _ _ _ _ _)) (k11_isConsistent hF (K := K) (S := D.S) (f := D.f) (g := D.g) (F := D.F) (X := YE G K r D (lC G o f1) (dC G o2 f2) (moW G mo U ++ [])) h.ok) ml_L_322 yf_X11_isConsistent 19 rfl rfl (As := []) rfl rfl ⟨Nat.le_of_ble_eq_true rfl, Nat.le_of_ble_eq_true rfl⟩ (by show cells + 2 ≤ 603072 ∧ slots + 6 ≤ 7198826; omega) hl.1 (Nat.le_of_ble_eq_true rfl) dL_law_2522 (fun r1 u1 H locs hp1 hw => ?_)
  have hw : WH G s (lC G o f1 :: (dC G o2 f2 :: cW G K r (cdm D.S D.B D.N D.V D.nw D.dp (guR D.S D.f D.g (nO D.S)).1 (guR D.S D.f D.g (nO D.S)).2 D.ut D.LT D.vb D.p0 D.gp D.ul D.LL D.F) (moW G mo U ++ []))) H locs := hw.perm (pw_E _ _ _ _ _ _ _ _ _ _ _ _).symm
  refine lv_aload_n C.1 C.2.1 dL_law_2525 rfl (lv_at hl 3 rfl) ?_
  refine r_vi C (hw.perm (pw_M _ _ _ _ _ _ _ _ _ _ _ _ _)) (k12_isConsistent hF (U := U) (mo := mo)  ) ml_L_325 yf_X12_isConsistent 0 rfl rfl (As := []) (rest := [.int r1]) rfl rfl ⟨Nat.le_of_ble_eq_true rfl, Nat.le_of_ble_eq_true rfl⟩ (by show cells + 2 + 0 ≤ 603072 ∧ slots + 6 + 0 ≤ 7198826; omega) hl.1 (Nat.le_of_ble_eq_true rfl) dL_law_2526 (fun r2 _ H locs hp2 hw => ?_)
  have e : r1 = r2 := by rw [hp1, hp2]; exact con_ok h
  refine lv_icmp_eq (tgt := 2825) C.1 C.2.1 dL_law_2529 (by decide) (fun _ => ?_) (fun c1 => absurd e c1)
  exact W.widen (by omega) (by omega) (kk (cdm D.S D.B D.N D.V D.nw D.dp (guR D.S D.f D.g (nO D.S)).1 (guR D.S D.f D.g (nO D.S)).2 D.ut D.LT D.vb D.p0 D.gp D.ul D.LL D.F) (mI U 2 0) f1 f2 ls H locs (((h.mono (show c9 ≤ d by omega) hd4).su (guR D.S D.f D.g (nO D.S)).1 (guR D.S D.f D.g (nO D.S)).2).thr 0) (hw.perm (pw_M _ _ _ _ _ _ _ _ _ _ _ _ _).symm) hl)
set_option maxHeartbeats 4000000 in
set_option maxRecDepth 100000 in
theorem lc_save (C : Cx l G RL cL_law 9 ret p s m meth c #[Value.ref b]) (hX : va_X b L xs s s.heap) (hbl : b < s.heap.size) (hbA : ¬ gA G b) {c9 d : Int} {D : CD} {U : MV_} (h : Sm c9 D U) (hd : c9 + 60 ≤ d) (hd4 : d ≤ 40000) {i : Nat} (hi : i + 4 < L) (hL : L ≤ 2560) {K : Nat → Nat → Nat} {r : Nat → Nat → Nat} {mo : Nat → Nat} {o o2 : Nat} {f1 : Nat → Int64} {f2 : Nat → UInt64} (hw : WH G s (lC G o f1 :: (dC G o2 f2 :: cW G K r D (moW G mo U ++ []))) H locs) (hl : lv_has ls 9 (lvL b (K 7 0) (mo 0) o o2 i)) (hc : cells ≤ 400000 ∧ slots ≤ 4000000)
    (kk : ∀ (D' : CD) (U' : MV_) (f1' : Nat → Int64) (f2' : Nat → UInt64) (ls : Array Slot) (H : Heap) (locs : List Loc), Sm d D' U' → WH G s (lC G o f1' :: (dC G o2 f2' :: cW G K r D' (moW G mo U' ++ []))) H locs → lv_has ls 9 (lvL b (K 7 0) (mo 0) o o2 i) → W p l e room_1 s m #[Value.ref b] below meth c H locs (cells + 80) (slots + 600) Q (F0 m 2825 ls [])) : W p l e room_1 s m #[Value.ref b] below meth c H locs cells slots Q (F0 m 2768 ls []) := by
  have hF := C.2.2.2.2.2.2.2.2
  refine lv_aload_n C.1 C.2.1 dL_law_2768 rfl (lv_at hl 4 rfl) ?_
  refine r_vi C (hw.perm (pw_N _ _ _ _ _ _ _ _ _ _ _ _)) (k11_save hF (K := K) (S := D.S) (N := D.N) (F := D.F) (X := YN G K r D (lC G o f1) (dC G o2 f2) (moW G mo U ++ [])) h.b2) ml_L_342 yf_X11_save 19 rfl rfl (As := []) rfl rfl ⟨Nat.le_of_ble_eq_true rfl, Nat.le_of_ble_eq_true rfl⟩ (by show cells + 0 ≤ 603072 ∧ slots + 0 ≤ 7198826; omega) hl.1 (Nat.le_of_ble_eq_true rfl) dL_law_2769 (fun r1 u1 H locs hp1 hw => ?_)
  have hw : WH G s (lC G o f1 :: (dC G o2 f2 :: cW G K r (cdm D.S D.B D.S D.V D.nw D.dp D.f D.g D.ut D.LT D.vb D.p0 D.gp D.ul D.LL (va_up D.F 0 1)) (moW G mo U ++ []))) H locs := hw.perm (pw_N _ _ _ _ _ _ _ _ _ _ _ _).symm
  refine lv_aload_n C.1 C.2.1 dL_law_2772 rfl (lv_at hl 3 rfl) ?_
  refine r_vi C (hw.perm (pw_M _ _ _ _ _ _ _ _ _ _ _ _ _)) (k12_save hF (U := U) (mo := mo)  ) ml_L_345 yf_X12_save 0 rfl rfl (As := []) (rest := [.int r1]) rfl rfl ⟨Nat.le_of_ble_eq_true rfl, Nat.le_of_ble_eq_true rfl⟩ (by show cells + 0 + 0 ≤ 603072 ∧ slots + 0 + 0 ≤ 7198826; omega) hl.1 (Nat.le_of_ble_eq_true rfl) dL_law_2773 (fun r2 _ H locs hp2 hw => ?_)
  have e : r1 = r2 := by rw [hp1, hp2]; exact (sim_save h).2.1.symm
  refine lv_icmp_eq (tgt := 2825) C.1 C.2.1 dL_law_2776 (by decide) (fun _ => ?_) (fun c1 => absurd e c1)
  exact W.widen (by omega) (by omega) (kk (cdm D.S D.B D.S D.V D.nw D.dp D.f D.g D.ut D.LT D.vb D.p0 D.gp D.ul D.LL (va_up D.F 0 1)) (svM U).1 f1 f2 ls H locs ((sim_save (h.mono (show c9 ≤ d by omega) hd4)).2.2) (hw.perm (pw_M _ _ _ _ _ _ _ _ _ _ _ _ _).symm) hl)
set_option maxHeartbeats 4000000 in
set_option maxRecDepth 100000 in
theorem lc_turnover (C : Cx l G RL cL_law 9 ret p s m meth c #[Value.ref b]) (hX : va_X b L xs s s.heap) (hbl : b < s.heap.size) (hbA : ¬ gA G b) {c9 d : Int} {D : CD} {U : MV_} (h : Sm c9 D U) (hd : c9 + 60 ≤ d) (hd4 : d ≤ 40000) {i : Nat} (hi : i + 4 < L) (hL : L ≤ 2560) {K : Nat → Nat → Nat} {r : Nat → Nat → Nat} {mo : Nat → Nat} {o o2 : Nat} {f1 : Nat → Int64} {f2 : Nat → UInt64} (hw : WH G s (lC G o f1 :: (dC G o2 f2 :: cW G K r D (moW G mo U ++ []))) H locs) (hl : lv_has ls 9 (lvL b (K 7 0) (mo 0) o o2 i)) (hc : cells ≤ 400000 ∧ slots ≤ 4000000)
    (kk : ∀ (D' : CD) (U' : MV_) (f1' : Nat → Int64) (f2' : Nat → UInt64) (ls : Array Slot) (H : Heap) (locs : List Loc), Sm d D' U' → WH G s (lC G o f1' :: (dC G o2 f2' :: cW G K r D' (moW G mo U' ++ []))) H locs → lv_has ls 9 (lvL b (K 7 0) (mo 0) o o2 i) → W p l e room_1 s m #[Value.ref b] below meth c H locs (cells + 80) (slots + 600) Q (F0 m 2825 ls [])) : W p l e room_1 s m #[Value.ref b] below meth c H locs cells slots Q (F0 m 2081 ls []) := by
  have hF := C.2.2.2.2.2.2.2.2
  refine lv_aload_n C.1 C.2.1 dL_law_2081 rfl (lv_at hl 4 rfl) ?_
  refine r_vl C (hw.perm (pw_A _ _ _ _ _ _ _ _ _ _ _ _)) (k11_turnover hF (K := K) (S := D.S) (F := D.F) (X := YA G K r D (lC G o f1) (dC G o2 f2) (moW G mo U ++ []))) ml_L_282 yf_X11_turnover 19 rfl rfl (As := []) rfl rfl ⟨Nat.le_of_ble_eq_true rfl, Nat.le_of_ble_eq_true rfl⟩ (by show cells + 0 ≤ 603072 ∧ slots + 0 ≤ 7198826; omega) hl.1 (Nat.le_of_ble_eq_true rfl) dL_law_2082 (fun r1 u1 H locs hp1 hw => ?_)
  have hw : WH G s (lC G o f1 :: (dC G o2 f2 :: cW G K r D (moW G mo U ++ []))) H locs := hw.perm (pw_A _ _ _ _ _ _ _ _ _ _ _ _).symm
  refine lv_aload_n C.1 C.2.1 dL_law_2085 rfl (lv_at hl 3 rfl) ?_
  refine r_vl C (hw.perm (pw_M _ _ _ _ _ _ _ _ _ _ _ _ _)) (k12_turnover hF (U := U) (mo := mo)) ml_L_286 yf_X12_turnover 0 rfl rfl (As := []) (rest := [.long r1]) rfl rfl ⟨Nat.le_of_ble_eq_true rfl, Nat.le_of_ble_eq_true rfl⟩ (by show cells + 0 + 0 ≤ 603072 ∧ slots + 0 + 0 ≤ 7198826; omega) hl.1 (Nat.le_of_ble_eq_true rfl) dL_law_2086 (fun r2 _ H locs hp2 hw => ?_)
  have e : r1 = r2 := by rw [hp1, hp2]; exact h.rl.2.1
  refine W.lcmp C.1 C.2.1 dL_law_2089 ?_
  rw [e, show lg_cmp r2 r2 = 0 by unfold lg_cmp; rw [if_neg (Int64.lt_irrefl), if_pos rfl]]
  refine lv_if_eq (tgt := 2825) C.1 C.2.1 dL_law_2090 (by decide) (fun _ => ?_) (fun c1 => absurd rfl c1)
  exact W.widen (by omega) (by omega) (kk D (mI U 2 0) f1 f2 ls H locs ((h.mono (show c9 ≤ d by omega) hd4).thr 0) (hw.perm (pw_M _ _ _ _ _ _ _ _ _ _ _ _ _).symm) hl)
set_option maxHeartbeats 4000000 in
set_option maxRecDepth 100000 in
theorem lc_isBuying (C : Cx l G RL cL_law 9 ret p s m meth c #[Value.ref b]) (hX : va_X b L xs s s.heap) (hbl : b < s.heap.size) (hbA : ¬ gA G b) {c9 d : Int} {D : CD} {U : MV_} (h : Sm c9 D U) (hd : c9 + 60 ≤ d) (hd4 : d ≤ 40000) {i : Nat} (hi : i + 4 < L) (hL : L ≤ 2560) {K : Nat → Nat → Nat} {r : Nat → Nat → Nat} {mo : Nat → Nat} {o o2 : Nat} {f1 : Nat → Int64} {f2 : Nat → UInt64} (hw : WH G s (lC G o f1 :: (dC G o2 f2 :: cW G K r D (moW G mo U ++ []))) H locs) (hl : lv_has ls 9 (lvL b (K 7 0) (mo 0) o o2 i)) (hc : cells ≤ 400000 ∧ slots ≤ 4000000)
    (kk : ∀ (D' : CD) (U' : MV_) (f1' : Nat → Int64) (f2' : Nat → UInt64) (ls : Array Slot) (H : Heap) (locs : List Loc), Sm d D' U' → WH G s (lC G o f1' :: (dC G o2 f2' :: cW G K r D' (moW G mo U' ++ []))) H locs → lv_has ls 9 (lvL b (K 7 0) (mo 0) o o2 i) → W p l e room_1 s m #[Value.ref b] below meth c H locs (cells + 80) (slots + 600) Q (F0 m 2825 ls [])) : W p l e room_1 s m #[Value.ref b] below meth c H locs cells slots Q (F0 m 1492 ls []) := by
  have hF := C.2.2.2.2.2.2.2.2
  refine lv_aload_n C.1 C.2.1 dL_law_1492 rfl (lv_at hl 4 rfl) ?_
  refine law_arg C hX hbl hbA hw.2.1 (k := 1) (off := 1) (by omega) hL (lv_at hl 5 rfl) (lv_at hl 0 rfl) dL_law_1493 dL_law_1494 dL_law_1496 (by decide) dL_law_1497 dL_law_1498 ?_
  refine lv_aload_n C.1 C.2.1 dL_law_1499 rfl (lv_at hl 2 rfl) ?_
  have hfin := fin_isBuying (U := U) h hd hd4 (xs (i + 1))
  refine r_hsi C hw (w_isBuying hF (f := f1) (o := o) (wA := dC G o2 f2 :: cW G K r D (moW G mo U ++ [])) (WfA := fun u => dC G o2 f2 :: cW G K r (D) (moW G mo U ++ [])) (WxA := fun _ => dC G o2 f2 :: cW G K r (D) (moW G mo U ++ [])) (x11_isBuying hF (K := K) (S := D.S) (F := D.F) (X := YA G K r D (lC G o f1) (dC G o2 f2) (moW G mo U ++ [])) h.ok (xs (i + 1))) (pw_A _ _ _ _ _ _ _ _ _ _ _ _) 19 rfl (fun u => (pw_A _ _ _ _ _ _ _ _ _ _ _ _).symm) (fun k1 hk => ⟨(hfin.2 k1 hk).1, (pw_A _ _ _ _ _ _ _ _ _ _ _ _).symm⟩)) ml_L_241 yf_L_isBuying rfl rfl ⟨Nat.le_of_ble_eq_true rfl, Nat.le_of_ble_eq_true rfl⟩ (by show cells + 1 ≤ 603072 ∧ slots + 6 ≤ 7198826; omega) hl.1 (Nat.le_of_ble_eq_true rfl) dL_law_1500 (fun r9 u9 H locs hp hw => ?_)
  obtain ⟨D', f', hw, e1, hs, e2⟩ : ∃ (D' : CD) (f' : Nat → Int64), WH G s (lC G o f' :: (dC G o2 f2 :: cW G K r D' (moW G mo U ++ []))) H locs ∧ r9 = ((mI U 2 (bI (!teB (U.2 0) (xs (i + 1)))), bI (decide (teV (U.2 0) (xs (i + 1)) 2 = 1)))).1.1 2 ∧ Sm d D' ((mI U 2 (bI (!teB (U.2 0) (xs (i + 1)))), bI (decide (teV (U.2 0) (xs (i + 1)) 2 = 1)))).1 ∧ (r9 = 0 → f' 0 = (if ((mI U 2 (bI (!teB (U.2 0) (xs (i + 1)))), bI (decide (teV (U.2 0) (xs (i + 1)) 2 = 1)))).2 = 0 then 0 else 1)) := by
    rcases u9 with ⟨r1, u1⟩ | k1
    · obtain ⟨e, hp⟩ := hp
      obtain ⟨t1, t2, t3⟩ := hfin.1 r1 u1 hp
      exact ⟨_, _, hw, e.trans t1.symm, t3, fun _ => by rw [t2]; rfl⟩
    · obtain ⟨e, hp⟩ := hp
      obtain ⟨t0, t2, t3⟩ := hfin.2 k1 hp
      refine ⟨_, _, hw, e.trans t2, t3, fun e0 => ?_⟩
      exfalso
      rw [e] at e0
      rcases t0 with t0 <;> subst t0 <;> exact absurd e0 (by decide)
  refine lv_istore (lv' := (6, .int r9) :: lvL b (K 7 0) (mo 0) o o2 i) C.1 C.2.1 dL_law_1503 hl (by decide) rfl (fun ls hl => ?_)
  refine lv_aload_n C.1 C.2.1 dL_law_1505 rfl (lv_at hl 4 rfl) ?_
  refine law_arg C hX hbl hbA hw.2.1 (k := 1) (off := 1) (by omega) hL (lv_at hl 6 rfl) (lv_at hl 1 rfl) dL_law_1506 dL_law_1507 dL_law_1509 (by decide) dL_law_1510 dL_law_1511 ?_
  refine r_vi C (hw.perm (pw_M _ _ _ _ _ _ _ _ _ _ _ _ _)) (k12_isBuying hF (U := U) (mo := mo) h.okf (xs (i + 1))) ml_L_243 yf_X12_isBuying 0 rfl rfl (As := [.int (xs (i + 1))]) rfl rfl ⟨Nat.le_of_ble_eq_true rfl, Nat.le_of_ble_eq_true rfl⟩ (by show cells + 1 + 0 ≤ 603072 ∧ slots + 6 + 0 ≤ 7198826; omega) hl.1 (Nat.le_of_ble_eq_true rfl) dL_law_1512 (fun r3 _ H locs hp3 hw => ?_)
  refine lv_istore (lv' := (7, .int r3) :: (6, .int r9) :: lvL b (K 7 0) (mo 0) o o2 i) C.1 C.2.1 dL_law_1515 hl (by decide) rfl (fun ls hl => ?_)
  refine lv_aload_n C.1 C.2.1 dL_law_1517 rfl (lv_at hl 5 rfl) ?_
  refine r_vi C hw (k12_thrown hF) ml_L_167 yf_X12_thrown 0 rfl rfl (As := []) rfl rfl ⟨Nat.le_of_ble_eq_true rfl, Nat.le_of_ble_eq_true rfl⟩ (by show cells + 1 + 0 + 0 ≤ 603072 ∧ slots + 6 + 0 + 0 ≤ 7198826; omega) hl.1 (Nat.le_of_ble_eq_true rfl) dL_law_1518 (fun r4 _ H locs hp4 hw => ?_)
  have e4 : r4 = r9 := hp4.trans e1.symm
  refine lv_iload C.1 C.2.1 dL_law_1521 (lv_at hl 1 rfl) ?_
  refine lv_icmp_eq (tgt := 1528) C.1 C.2.1 dL_law_1523 (by decide) (fun _ => ?_) (fun c8 => absurd e4 c8)
  refine lv_iload C.1 C.2.1 dL_law_1528 (lv_at hl 1 rfl) ?_
  have kend : ∀ cl sl : Nat, cl ≤ cells + 80 → sl ≤ slots + 600 → W p l e room_1 s m #[Value.ref b] below meth c H locs cl sl Q (F0 m 1552 ls []) := fun cl sl h1 h2 => lv_goto (tgt := 2825) C.1 C.2.1 dL_law_1552 (by decide) (W.widen h1 h2 (kk D' _ f' f2 ls H locs hs (hw.perm (pw_M _ _ _ _ _ _ _ _ _ _ _ _ _).symm) (lv_sub hl [2, 3, 4, 5, 6, 7] rfl)))
  refine lv_if_ne (tgt := 1552) C.1 C.2.1 dL_law_1530 (by decide) (fun _ => kend _ _ (by omega) (by omega)) (fun c15 => ?_)
  refine lv_aload_n C.1 C.2.1 dL_law_1533 rfl (lv_at hl 4 rfl) ?_
  refine lv_iconst (v := 0) C.1 C.2.1 dL_law_1534 (by decide) ?_
  refine r_lald C hw 8 rfl (n := 1) (i := 0) (show ¬ ((0 : Int32) < 0 ∨ 1 ≤ (0 : Int32).toNatClampNeg) by decide) dL_law_1535 ?_
  have e5 : f' (0 : Int32).toNatClampNeg = if r3 = 0 then 0 else 1 := (e2 c15).trans (by rw [hp3])
  rw [e5]
  have fin : ∀ v : Int64, v = (if r3 = 0 then 0 else 1) → W p l e room_1 s m #[Value.ref b] below meth c H locs (cells + 1 + 0 + 0) (slots + 6 + 0 + 0) Q (F0 m 1546 ls [.long v, .long (if r3 = 0 then 0 else 1)]) := fun v hv => by
    refine W.lcmp C.1 C.2.1 dL_law_1546 ?_
    rw [hv]
    generalize (if r3 = 0 then (0 : Int64) else 1) = z
    rw [show lg_cmp z z = 0 by unfold lg_cmp; rw [if_neg (Int64.lt_irrefl), if_pos rfl]]
    exact lv_if_eq (tgt := 1552) C.1 C.2.1 dL_law_1547 (by decide) (fun _ => kend _ _ (by omega) (by omega)) (fun c25 => absurd rfl c25)
  refine lv_iload C.1 C.2.1 dL_law_1536 (lv_at hl 0 rfl) ?_
  refine lv_if_eq (tgt := 1545) C.1 C.2.1 dL_law_1538 (by decide) (fun z0 => ?_) (fun z0 => ?_)
  · exact lv_lconst (v := 0) C.1 C.2.1 dL_law_1545 rfl (fin 0 (by rw [if_pos z0]))
  · refine lv_lconst (v := 1) C.1 C.2.1 dL_law_1541 rfl ?_
    exact lv_goto (tgt := 1546) C.1 C.2.1 dL_law_1542 (by decide) (fin 1 (by rw [if_neg z0]))
set_option maxHeartbeats 4000000 in
set_option maxRecDepth 100000 in
theorem lc_execute (C : Cx l G RL cL_law 9 ret p s m meth c #[Value.ref b]) (hX : va_X b L xs s s.heap) (hbl : b < s.heap.size) (hbA : ¬ gA G b) {c9 d : Int} {D : CD} {U : MV_} (h : Sm c9 D U) (hd : c9 + 60 ≤ d) (hd4 : d ≤ 40000) {i : Nat} (hi : i + 4 < L) (hL : L ≤ 2560) {K : Nat → Nat → Nat} {r : Nat → Nat → Nat} {mo : Nat → Nat} {o o2 : Nat} {f1 : Nat → Int64} {f2 : Nat → UInt64} (hw : WH G s (lC G o f1 :: (dC G o2 f2 :: cW G K r D (moW G mo U ++ []))) H locs) (hl : lv_has ls 9 (lvL b (K 7 0) (mo 0) o o2 i)) (hc : cells ≤ 400000 ∧ slots ≤ 4000000)
    (kk : ∀ (D' : CD) (U' : MV_) (f1' : Nat → Int64) (f2' : Nat → UInt64) (ls : Array Slot) (H : Heap) (locs : List Loc), Sm d D' U' → WH G s (lC G o f1' :: (dC G o2 f2' :: cW G K r D' (moW G mo U' ++ []))) H locs → lv_has ls 9 (lvL b (K 7 0) (mo 0) o o2 i) → W p l e room_1 s m #[Value.ref b] below meth c H locs (cells + 80) (slots + 600) Q (F0 m 2825 ls [])) : W p l e room_1 s m #[Value.ref b] below meth c H locs cells slots Q (F0 m 2592 ls []) := by
  have hF := C.2.2.2.2.2.2.2.2
  obtain ⟨s0, s1, s2⟩ := sim_exec h hd hd4
  refine lv_aload_n C.1 C.2.1 dL_law_2592 rfl (lv_at hl 4 rfl) ?_
  refine lv_aload_n C.1 C.2.1 dL_law_2593 rfl (lv_at hl 2 rfl) ?_
  have hm := x11_execute hF (K := K) (S := D.S) (B := D.B) (r := r) (V := D.V) (nw := D.nw) (dp := D.dp) (F := D.F) (u := D.ut) (L := D.LT) (vb := D.vb) (p0 := D.p0) (g := D.gp) (X := YX G K r D (lC G o f1) (dC G o2 f2) (moW G mo U ++ [])) h.tt h.t7 h.tl h.vb h.ok h.b2 h.nw h.dp
  refine r_hsi C hw (w_execute hF (f := f1) (o := o) (wA := dC G o2 f2 :: cW G K r D (moW G mo U ++ [])) (WfA := fun z => dC G o2 f2 :: cW G K r (cdm (exC D.LT D.S D.vb D.gp).2.1 D.S D.N (va_up D.V (rgN D.nw) D.S) (rgN D.nw) (min (D.dp + 1) 8) D.f D.g z [] (exC D.LT D.S D.vb D.gp).2.2.2.1 0 (exC D.LT D.S D.vb D.gp).2.2.2.2 D.ul D.LL D.F) (moW G mo U ++ [])) (WxA := fun z => if z.1 = 2 then dC G o2 f2 :: cW G K r (cdm D.S D.B D.N D.V D.nw D.dp D.f D.g z.2 [] (cnC D.LT 60 1 0 D.vb D.gp).2.2.1 0 (cnC D.LT 60 1 0 D.vb D.gp).2.2.2 D.ul D.LL (va_up D.F 1 (nI (cnC D.LT 60 1 0 D.vb D.gp).2.1))) (moW G mo U ++ []) else dC G o2 f2 :: cW G K r (cdm D.S D.S D.N D.V D.nw D.dp D.f D.g z.2 [] (exC D.LT D.S D.vb D.gp).2.2.2.1 0 (exC D.LT D.S D.vb D.gp).2.2.2.2 D.ul D.LL (va_up D.F 2 (nI (exC D.LT D.S D.vb D.gp).1))) (moW G mo U ++ [])) hm (pw_X _ _ _ _ _ _ _ _ _ _ _ _) 24 rfl (fun z => (pw_X _ _ _ _ _ _ _ _ _ _ _ _).symm) (fun z hz => ⟨?_, ?_⟩)) ml_L_330 yf_L_execute rfl rfl ⟨Nat.le_of_ble_eq_true rfl, Nat.le_of_ble_eq_true rfl⟩ (by show cells + 70 ≤ 603072 ∧ slots + 300 ≤ 7198826; omega) hl.1 (Nat.le_of_ble_eq_true rfl) dL_law_2594 (fun r9 u9 H locs hp hw => ?_)
  · exact hz.elim (fun a => Or.inl a.1) (fun a => Or.inr a.1)
  · by_cases ez : z.1 = 2
    · rw [if_pos ez, if_pos ez]
      exact (pw_X _ _ _ _ _ _ _ _ _ _ _ _).symm
    · rw [if_neg ez, if_neg ez]
      exact (pw_X _ _ _ _ _ _ _ _ _ _ _ _).symm
  obtain ⟨D', f', hw, e1, hs, e2⟩ : ∃ (D' : CD) (f' : Nat → Int64), WH G s (lC G o f' :: (dC G o2 f2 :: cW G K r D' (moW G mo U ++ []))) H locs ∧ r9 = (exM U D.LT.length D.dp).1.1 2 ∧ Sm d D' (exM U D.LT.length D.dp).1 ∧ (r9 = 0 → f' 0 = (exM U D.LT.length D.dp).2.toInt64) := by
    rcases u9 with ⟨r1, z⟩ | z
    · obtain ⟨e, p1, p2, p3⟩ := hp
      obtain ⟨t1, t2, t3⟩ := (s2 _ p1).1 rfl
      exact ⟨_, _, hw, e.trans t1.symm, t3 z p3, fun _ => by rw [t2, ← p2]; rfl⟩
    · obtain ⟨e, hp⟩ := hp
      rcases hp with ⟨p1, p2, p3⟩ | ⟨p1, ⟨N, p2, p4⟩, p3⟩
      · obtain ⟨t1, t2⟩ := s1 p2
        have e : r9 = 1 := by rw [e, if_pos p1]
        have hw : WH G s (lC G o f1 :: (if z.1 = 2 then dC G o2 f2 :: cW G K r (cdm D.S D.B D.N D.V D.nw D.dp D.f D.g z.2 [] (cnC D.LT 60 1 0 D.vb D.gp).2.2.1 0 (cnC D.LT 60 1 0 D.vb D.gp).2.2.2 D.ul D.LL (va_up D.F 1 (nI (cnC D.LT 60 1 0 D.vb D.gp).2.1))) (moW G mo U ++ []) else dC G o2 f2 :: cW G K r (cdm D.S D.S D.N D.V D.nw D.dp D.f D.g z.2 [] (exC D.LT D.S D.vb D.gp).2.2.2.1 0 (exC D.LT D.S D.vb D.gp).2.2.2.2 D.ul D.LL (va_up D.F 2 (nI (exC D.LT D.S D.vb D.gp).1))) (moW G mo U ++ []))) H locs := hw
        rw [if_pos p1] at hw
        exact ⟨_, _, hw, e.trans t1.symm, t2 z.2 p3, fun e0 => by rw [e] at e0; exact absurd e0 (by decide)⟩
      · obtain ⟨t1, t2⟩ := (s2 N p2).2 p4
        have e : r9 = 2 := by rw [e, if_neg (by rw [p1]; decide), if_pos p1]
        have hw : WH G s (lC G o f1 :: (if z.1 = 2 then dC G o2 f2 :: cW G K r (cdm D.S D.B D.N D.V D.nw D.dp D.f D.g z.2 [] (cnC D.LT 60 1 0 D.vb D.gp).2.2.1 0 (cnC D.LT 60 1 0 D.vb D.gp).2.2.2 D.ul D.LL (va_up D.F 1 (nI (cnC D.LT 60 1 0 D.vb D.gp).2.1))) (moW G mo U ++ []) else dC G o2 f2 :: cW G K r (cdm D.S D.S D.N D.V D.nw D.dp D.f D.g z.2 [] (exC D.LT D.S D.vb D.gp).2.2.2.1 0 (exC D.LT D.S D.vb D.gp).2.2.2.2 D.ul D.LL (va_up D.F 2 (nI (exC D.LT D.S D.vb D.gp).1))) (moW G mo U ++ []))) H locs := hw
        rw [if_neg (by rw [p1]; decide)] at hw
        exact ⟨_, _, hw, e.trans t1.symm, t2 z.2 p3, fun e0 => by rw [e] at e0; exact absurd e0 (by decide)⟩
  refine lv_istore (lv' := (6, .int r9) :: lvL b (K 7 0) (mo 0) o o2 i) C.1 C.2.1 dL_law_2597 hl (by decide) rfl (fun ls hl => ?_)
  refine lv_aload_n C.1 C.2.1 dL_law_2599 rfl (lv_at hl 4 rfl) ?_
  refine r_vi C (hw.perm (pw_M _ _ _ _ _ _ _ _ _ _ _ _ _)) (k12_execute hF (U := U) (mo := mo) h.tn h.tl h.pm h.dp s0) ml_L_332 yf_X12_execute 0 rfl rfl (As := []) rfl rfl ⟨Nat.le_of_ble_eq_true rfl, Nat.le_of_ble_eq_true rfl⟩ (by show cells + 70 + 0 ≤ 603072 ∧ slots + 300 + 0 ≤ 7198826; omega) hl.1 (Nat.le_of_ble_eq_true rfl) dL_law_2600 (fun r3 _ H locs hp3 hw => ?_)
  exact law_tail C hw (k := r9) e1 (fun e => (e2 e).trans (by rw [hp3])) hl ⟨by omega, by omega⟩ dL_law_2603 dL_law_2605 dL_law_2606 dL_law_2609 dL_law_2611 dL_law_2616 dL_law_2618 dL_law_2621 dL_law_2622 dL_law_2623 dL_law_2624 dL_law_2626 dL_law_2627 dL_law_2628 dL_law_2633 (by decide) (fun ls H locs hl hw => W.widen (by omega) (by omega) (kk D' _ f' f2 ls H locs hs (hw.perm (pw_M _ _ _ _ _ _ _ _ _ _ _ _ _).symm) hl))
set_option maxHeartbeats 4000000 in
set_option maxRecDepth 100000 in
theorem lc_meanPrice (C : Cx l G RL cL_law 9 ret p s m meth c #[Value.ref b]) (hX : va_X b L xs s s.heap) (hbl : b < s.heap.size) (hbA : ¬ gA G b) {c9 d : Int} {D : CD} {U : MV_} (h : Sm c9 D U) (hd : c9 + 60 ≤ d) (hd4 : d ≤ 40000) {i : Nat} (hi : i + 4 < L) (hL : L ≤ 2560) {K : Nat → Nat → Nat} {r : Nat → Nat → Nat} {mo : Nat → Nat} {o o2 : Nat} {f1 : Nat → Int64} {f2 : Nat → UInt64} (hw : WH G s (lC G o f1 :: (dC G o2 f2 :: cW G K r D (moW G mo U ++ []))) H locs) (hl : lv_has ls 9 (lvL b (K 7 0) (mo 0) o o2 i)) (hc : cells ≤ 400000 ∧ slots ≤ 4000000)
    (kk : ∀ (D' : CD) (U' : MV_) (f1' : Nat → Int64) (f2' : Nat → UInt64) (ls : Array Slot) (H : Heap) (locs : List Loc), Sm d D' U' → WH G s (lC G o f1' :: (dC G o2 f2' :: cW G K r D' (moW G mo U' ++ []))) H locs → lv_has ls 9 (lvL b (K 7 0) (mo 0) o o2 i) → W p l e room_1 s m #[Value.ref b] below meth c H locs (cells + 80) (slots + 600) Q (F0 m 2825 ls [])) : W p l e room_1 s m #[Value.ref b] below meth c H locs cells slots Q (F0 m 2095 ls []) := by
  have hF := C.2.2.2.2.2.2.2.2
  have hmm := (h.mono (show c9 ≤ d by omega) hd4)
  obtain ⟨q1, q2⟩ := mean_ok h
  refine lv_aload_n C.1 C.2.1 dL_law_2095 rfl (lv_at hl 4 rfl) ?_
  refine lv_aload C.1 C.2.1 dL_law_2096 (lv_at hl 1 rfl) ?_
  refine r_hsi C (hw.perm (List.Perm.swap _ _ _)) (w_meanPrice hF (f := f2) (o := o2) (wA := lC G o f1 :: cW G K r D (moW G mo U ++ [])) (WfA := fun _ => lC G o f1 :: cW G K r D (moW G mo U ++ [])) (WxA := fun _ => lC G o f1 :: cW G K r D (moW G mo U ++ [])) (x11_meanPrice hF (K := K) (S := D.S) (F := D.F) (X := YA G K r D (dC G o2 f2) (lC G o f1) (moW G mo U ++ [])) (pm := U.2 0 8) h.rl.2.1) (pw_A _ _ _ _ _ _ _ _ _ _ _ _) 19 rfl (fun _ => (pw_A _ _ _ _ _ _ _ _ _ _ _ _).symm) (fun k1 hk => ⟨hk.1, (pw_A _ _ _ _ _ _ _ _ _ _ _ _).symm⟩)) ml_L_287 yf_L_meanPrice rfl rfl ⟨Nat.le_of_ble_eq_true rfl, Nat.le_of_ble_eq_true rfl⟩ (by show cells + 1 ≤ 603072 ∧ slots + 6 ≤ 7198826; omega) hl.1 (Nat.le_of_ble_eq_true rfl) dL_law_2098 (fun r9 u9 H locs hp hw => ?_)
  obtain ⟨f', hw, e1, e2⟩ : ∃ f' : Nat → UInt64, WH G s (lC G o f1 :: (dC G o2 f' :: cW G K r D (moW G mo U ++ []))) H locs ∧ r9 = (mI U 2 (bI (!laB (U.2 0)))).1 2 ∧ (r9 = 0 → D.S.1 7 ≠ 0 ∧ f' 0 = FP.ddiv (FP.i2d (U.2 0 8)) (FP.i2d (U.2 0 7))) := by
    rcases u9 with ⟨r1, u1⟩ | k1
    · obtain ⟨e, p1, p2⟩ := hp
      refine ⟨_, hw.perm (List.Perm.swap _ _ _), e.trans ?_, fun _ => ⟨p1, ?_⟩⟩
      · show 0 = bI (!_)
        rw [q2 p1]; rfl
      · rw [p2, h.rl.1.2.2.2.2.2.2.2]
        rfl
    · obtain ⟨e, p1, p2⟩ := hp
      have e : r9 = 1 := by rw [e, if_pos p1]
      refine ⟨_, hw.perm (List.Perm.swap _ _ _), e.trans ?_, fun e0 => by rw [e] at e0; exact absurd e0 (by decide)⟩
      show 1 = bI (!_)
      rw [q1 p2]; rfl
  refine lv_istore (lv' := (6, .int r9) :: lvL b (K 7 0) (mo 0) o o2 i) C.1 C.2.1 dL_law_2101 hl (by decide) rfl (fun ls hl => ?_)
  refine lv_aload_n C.1 C.2.1 dL_law_2103 rfl (lv_at hl 4 rfl) ?_
  refine r_vd C (hw.perm (pw_M _ _ _ _ _ _ _ _ _ _ _ _ _)) (k12_meanPrice hF (U := U) (mo := mo) (mean_d h)) ml_L_290 yf_X12_meanPrice 0 rfl rfl (As := []) rfl rfl ⟨Nat.le_of_ble_eq_true rfl, Nat.le_of_ble_eq_true rfl⟩ (by show cells + 1 + 0 ≤ 603072 ∧ slots + 6 + 0 ≤ 7198826; omega) hl.1 (Nat.le_of_ble_eq_true rfl) dL_law_2104 (fun r3 _ H locs hp3 hw => ?_)
  refine lv_dstore (lv' := (7, .double r3) :: (6, .int r9) :: lvL b (K 7 0) (mo 0) o o2 i) C.1 C.2.1 dL_law_2107 hl (by decide) rfl (fun ls hl => ?_)
  refine lv_aload_n C.1 C.2.1 dL_law_2109 rfl (lv_at hl 5 rfl) ?_
  refine r_vi C hw (k12_thrown hF) ml_L_167 yf_X12_thrown 0 rfl rfl (As := []) rfl rfl ⟨Nat.le_of_ble_eq_true rfl, Nat.le_of_ble_eq_true rfl⟩ (by show cells + 1 + 0 + 0 ≤ 603072 ∧ slots + 6 + 0 + 0 ≤ 7198826; omega) hl.1 (Nat.le_of_ble_eq_true rfl) dL_law_2110 (fun r4 _ H locs hp4 hw => ?_)
  have e4 : r4 = r9 := hp4.trans e1.symm
  refine lv_iload C.1 C.2.1 dL_law_2113 (lv_at hl 1 rfl) ?_
  refine lv_icmp_eq (tgt := 2120) C.1 C.2.1 dL_law_2115 (by decide) (fun _ => ?_) (fun c8 => absurd e4 c8)
  refine lv_iload C.1 C.2.1 dL_law_2120 (lv_at hl 1 rfl) ?_
  have kend : ∀ cl sl : Nat, cl ≤ cells + 80 → sl ≤ slots + 600 → W p l e room_1 s m #[Value.ref b] below meth c H locs cl sl Q (F0 m 2157 ls []) := fun cl sl h1 h2 => lv_goto (tgt := 2825) C.1 C.2.1 dL_law_2157 (by decide) (W.widen h1 h2 (kk D _ f1 f' ls H locs (hmm.thr _) (hw.perm (pw_M _ _ _ _ _ _ _ _ _ _ _ _ _).symm) (lv_sub hl [2, 3, 4, 5, 6, 7] rfl)))
  refine lv_if_ne (tgt := 2157) C.1 C.2.1 dL_law_2122 (by decide) (fun _ => kend _ _ (by omega) (by omega)) (fun c15 => ?_)
  obtain ⟨e5, e6⟩ := e2 c15
  have e7 : r3 = FP.ddiv (FP.i2d (U.2 0 8)) (FP.i2d (U.2 0 7)) := by rw [hp3, if_pos (q2 e5)]
  refine lv_aload C.1 C.2.1 dL_law_2125 (lv_at hl 3 rfl) ?_
  refine lv_iconst (v := 0) C.1 C.2.1 dL_law_2127 (by decide) ?_
  refine r_dald C hw 9 rfl (n := 1) (i := 0) (show ¬ ((0 : Int32) < 0 ∨ 1 ≤ (0 : Int32).toNatClampNeg) by decide) dL_law_2128 ?_
  rw [show f' (0 : Int32).toNatClampNeg = FP.ddiv (FP.i2d (U.2 0 8)) (FP.i2d (U.2 0 7)) from e6]
  refine lv_dload C.1 C.2.1 dL_law_2129 (lv_at hl 0 rfl) ?_
  rw [e7]
  refine lv_dcmp C.1 C.2.1 dL_law_2131 ?_
  refine lv_if_eq (tgt := 2157) C.1 C.2.1 dL_law_2132 (by decide) (fun _ => kend _ _ (by omega) (by omega)) (fun c25 => ?_)
  refine lv_aload C.1 C.2.1 dL_law_2135 (lv_at hl 3 rfl) ?_
  refine lv_iconst (v := 0) C.1 C.2.1 dL_law_2137 (by decide) ?_
  refine r_dald C hw 9 rfl (n := 1) (i := 0) (show ¬ ((0 : Int32) < 0 ∨ 1 ≤ (0 : Int32).toNatClampNeg) by decide) dL_law_2138 ?_
  refine lv_aload C.1 C.2.1 dL_law_2139 (lv_at hl 3 rfl) ?_
  refine lv_iconst (v := 0) C.1 C.2.1 dL_law_2141 (by decide) ?_
  refine r_dald C hw 9 rfl (n := 1) (i := 0) (show ¬ ((0 : Int32) < 0 ∨ 1 ≤ (0 : Int32).toNatClampNeg) by decide) dL_law_2142 ?_
  rw [show f' (0 : Int32).toNatClampNeg = FP.ddiv (FP.i2d (U.2 0 8)) (FP.i2d (U.2 0 7)) from e6]
  refine lv_dcmp C.1 C.2.1 dL_law_2143 ?_
  refine lv_if_eq (tgt := 2155) C.1 C.2.1 dL_law_2144 (by decide) (fun c26 => absurd c26 c25) (fun _ => ?_)
  refine lv_dload C.1 C.2.1 dL_law_2147 (lv_at hl 0 rfl) ?_
  refine lv_dload C.1 C.2.1 dL_law_2149 (lv_at hl 0 rfl) ?_
  rw [e7]
  refine lv_dcmp C.1 C.2.1 dL_law_2151 ?_
  exact lv_if_ne (tgt := 2157) C.1 C.2.1 dL_law_2152 (by decide) (fun _ => kend _ _ (by omega) (by omega)) (fun c27 => absurd c27 c25)
set_option maxHeartbeats 4000000 in
set_option maxRecDepth 100000 in
theorem lc_buyingShare (C : Cx l G RL cL_law 9 ret p s m meth c #[Value.ref b]) (hX : va_X b L xs s s.heap) (hbl : b < s.heap.size) (hbA : ¬ gA G b) {c9 d : Int} {D : CD} {U : MV_} (h : Sm c9 D U) (hd : c9 + 60 ≤ d) (hd4 : d ≤ 40000) {i : Nat} (hi : i + 4 < L) (hL : L ≤ 2560) {K : Nat → Nat → Nat} {r : Nat → Nat → Nat} {mo : Nat → Nat} {o o2 : Nat} {f1 : Nat → Int64} {f2 : Nat → UInt64} (hw : WH G s (lC G o f1 :: (dC G o2 f2 :: cW G K r D (moW G mo U ++ []))) H locs) (hl : lv_has ls 9 (lvL b (K 7 0) (mo 0) o o2 i)) (hc : cells ≤ 400000 ∧ slots ≤ 4000000)
    (kk : ∀ (D' : CD) (U' : MV_) (f1' : Nat → Int64) (f2' : Nat → UInt64) (ls : Array Slot) (H : Heap) (locs : List Loc), Sm d D' U' → WH G s (lC G o f1' :: (dC G o2 f2' :: cW G K r D' (moW G mo U' ++ []))) H locs → lv_has ls 9 (lvL b (K 7 0) (mo 0) o o2 i) → W p l e room_1 s m #[Value.ref b] below meth c H locs (cells + 80) (slots + 600) Q (F0 m 2825 ls [])) : W p l e room_1 s m #[Value.ref b] below meth c H locs cells slots Q (F0 m 2160 ls []) := by
  have hF := C.2.2.2.2.2.2.2.2
  have hmm := (h.mono (show c9 ≤ d by omega) hd4)
  obtain ⟨z, z1, z2, z3⟩ := bc_ok h.rl h.iz.1
  obtain ⟨q1, q2⟩ := share_ok h
  refine lv_aload_n C.1 C.2.1 dL_law_2160 rfl (lv_at hl 4 rfl) ?_
  refine lv_aload C.1 C.2.1 dL_law_2161 (lv_at hl 1 rfl) ?_
  refine r_hsi C (hw.perm (List.Perm.swap _ _ _)) (w_buyingShare hF (f := f2) (o := o2) (wA := lC G o f1 :: cW G K r D (moW G mo U ++ [])) (WfA := fun _ => lC G o f1 :: cW G K r D (moW G mo U ++ [])) (WxA := fun _ => lC G o f1 :: cW G K r D (moW G mo U ++ [])) (x11_buyingShare hF (K := K) (S := D.S) (F := D.F) (X := YA G K r D (dC G o2 f2) (lC G o f1) (moW G mo U ++ [])) h.ok z1 z2) (fun r9 u9 hp => by rw [hp.2, h.rl.n]; exact share_nn h z1 hp.1) (pw_A _ _ _ _ _ _ _ _ _ _ _ _) 19 rfl (fun _ => (pw_A _ _ _ _ _ _ _ _ _ _ _ _).symm) (fun k1 hk => ⟨hk.1, (pw_A _ _ _ _ _ _ _ _ _ _ _ _).symm⟩)) ml_L_291 yf_L_buyingShare rfl rfl ⟨Nat.le_of_ble_eq_true rfl, Nat.le_of_ble_eq_true rfl⟩ (by show cells + 1 ≤ 603072 ∧ slots + 6 ≤ 7198826; omega) hl.1 (Nat.le_of_ble_eq_true rfl) dL_law_2163 (fun r9 u9 H locs hp hw => ?_)
  obtain ⟨f', hw, e1, e2⟩ : ∃ f' : Nat → UInt64, WH G s (lC G o f1 :: (dC G o2 f' :: cW G K r D (moW G mo U ++ []))) H locs ∧ r9 = (mI U 2 (bI (!decide (0 < nF (U.2 0))))).1 2 ∧ (r9 = 0 → D.S.1 1 ≠ 0 ∧ f' 0 = FP.f2d (FP.fdiv (FP.i2f (nI z)) (FP.i2f (nI (nF (U.2 0)))))) := by
    rcases u9 with ⟨r1, u1⟩ | k1
    · obtain ⟨e, p1, p2⟩ := hp
      refine ⟨_, hw.perm (List.Perm.swap _ _ _), e.trans ?_, fun _ => ⟨p1, ?_⟩⟩
      · show 0 = bI (!_)
        rw [q2 p1]; rfl
      · rw [p2, h.rl.n]
        rfl
    · obtain ⟨e, p1, p2⟩ := hp
      have e : r9 = 1 := by rw [e, if_pos p1]
      refine ⟨_, hw.perm (List.Perm.swap _ _ _), e.trans ?_, fun e0 => by rw [e] at e0; exact absurd e0 (by decide)⟩
      show 1 = bI (!_)
      rw [q1 p2]; rfl
  refine lv_istore (lv' := (6, .int r9) :: lvL b (K 7 0) (mo 0) o o2 i) C.1 C.2.1 dL_law_2166 hl (by decide) rfl (fun ls hl => ?_)
  refine lv_aload_n C.1 C.2.1 dL_law_2168 rfl (lv_at hl 4 rfl) ?_
  refine r_vf C (hw.perm (pw_M _ _ _ _ _ _ _ _ _ _ _ _ _)) (k12_buyingShare hF (U := U) (mo := mo) h.okf z1 z3) ml_L_293 yf_X12_buyingShare 0 rfl rfl (As := []) rfl rfl ⟨Nat.le_of_ble_eq_true rfl, Nat.le_of_ble_eq_true rfl⟩ (by show cells + 1 + 0 ≤ 603072 ∧ slots + 6 + 0 ≤ 7198826; omega) hl.1 (Nat.le_of_ble_eq_true rfl) dL_law_2169 (fun r3 _ H locs hp3 hw => ?_)
  refine lv_fstore (lv' := (7, .float r3) :: (6, .int r9) :: lvL b (K 7 0) (mo 0) o o2 i) C.1 C.2.1 dL_law_2172 hl (by decide) rfl (fun ls hl => ?_)
  refine lv_aload_n C.1 C.2.1 dL_law_2174 rfl (lv_at hl 5 rfl) ?_
  refine r_vi C hw (k12_thrown hF) ml_L_167 yf_X12_thrown 0 rfl rfl (As := []) rfl rfl ⟨Nat.le_of_ble_eq_true rfl, Nat.le_of_ble_eq_true rfl⟩ (by show cells + 1 + 0 + 0 ≤ 603072 ∧ slots + 6 + 0 + 0 ≤ 7198826; omega) hl.1 (Nat.le_of_ble_eq_true rfl) dL_law_2175 (fun r4 _ H locs hp4 hw => ?_)
  have e4 : r4 = r9 := hp4.trans e1.symm
  refine lv_iload C.1 C.2.1 dL_law_2178 (lv_at hl 1 rfl) ?_
  refine lv_icmp_eq (tgt := 2185) C.1 C.2.1 dL_law_2180 (by decide) (fun _ => ?_) (fun c8 => absurd e4 c8)
  refine lv_iload C.1 C.2.1 dL_law_2185 (lv_at hl 1 rfl) ?_
  have kend : ∀ cl sl : Nat, cl ≤ cells + 80 → sl ≤ slots + 600 → W p l e room_1 s m #[Value.ref b] below meth c H locs cl sl Q (F0 m 2223 ls []) := fun cl sl h1 h2 => lv_goto (tgt := 2825) C.1 C.2.1 dL_law_2223 (by decide) (W.widen h1 h2 (kk D _ f1 f' ls H locs (hmm.thr _) (hw.perm (pw_M _ _ _ _ _ _ _ _ _ _ _ _ _).symm) (lv_sub hl [2, 3, 4, 5, 6, 7] rfl)))
  refine lv_if_ne (tgt := 2223) C.1 C.2.1 dL_law_2187 (by decide) (fun _ => kend _ _ (by omega) (by omega)) (fun c15 => ?_)
  obtain ⟨e5, e6⟩ := e2 c15
  have e7 : r3 = FP.fdiv (FP.i2f (nI z)) (FP.i2f (nI (nF (U.2 0)))) := by rw [hp3, if_pos (q2 e5)]
  refine lv_aload C.1 C.2.1 dL_law_2190 (lv_at hl 3 rfl) ?_
  refine lv_iconst (v := 0) C.1 C.2.1 dL_law_2192 (by decide) ?_
  refine r_dald C hw 9 rfl (n := 1) (i := 0) (show ¬ ((0 : Int32) < 0 ∨ 1 ≤ (0 : Int32).toNatClampNeg) by decide) dL_law_2193 ?_
  rw [show f' (0 : Int32).toNatClampNeg = FP.f2d (FP.fdiv (FP.i2f (nI z)) (FP.i2f (nI (nF (U.2 0))))) from e6]
  refine lv_fload C.1 C.2.1 dL_law_2194 (lv_at hl 0 rfl) ?_
  rw [e7]
  refine lv_f2d C.1 C.2.1 dL_law_2196 (share_nn h z1 e5) ?_
  refine lv_dcmp C.1 C.2.1 dL_law_2197 ?_
  exact lv_if_eq (tgt := 2223) C.1 C.2.1 dL_law_2198 (by decide) (fun _ => kend _ _ (by omega) (by omega)) (fun c25 => absurd (share_eq h z1 e5) c25)
end LAWC
