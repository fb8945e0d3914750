/-! The exception whose own constructor links its super at constant 13 -/
section NZ
variable {p : Program} {l : Launch} {e : Env} {R : Room} {s : State} {m : MethodId} {args : Array Value} {below : List Frame} {meth : Method} {c : Code} {T : State} {cells slots : Nat}
set_option maxHeartbeats 4000000 in
theorem nz_made (X : Stand p l e R s m args below meth c T [] cells slots) (hexec : p.tables.exec = Jvm.exec) (htr : e.platform.stackTraces = false) {own E : String} {up : List String} {ic ix : Nat} {rx : ByteArray}
    (x0 : decode rx 0 = .ok (.aload_n 0, 1)) (x1 : decode rx 1 = .ok (.aload_n 1, 1)) (x2 : decode rx 2 = .ok (.invokespecial ix, 3)) (x5 : decode rx 5 = .ok (.return_, 1))
    (hown : s.vm.findClass own = some m.cls) (hE : Bundle.fit E = true) (hup : ∀ n ∈ up, Bundle.fit n = true) (h : ∀ w ∈ Bundle.ownAtomsX own ic E ix rx up, w.before args s = true)
    {a sa : Addr} {k : ClassId} {K : Class} (hfE : s.vm.findClass E = some k) (hK : s.vm.classes[k]? = some K) (ha : T.heap[a]? = some (freshCell k K)) (hnew : s.heap.size ≤ a)
    {pc : Nat} {ls : Array Slot} {rest : List Value} (hls : ls.size = c.maxLocals) (d6 : decode c.code pc = .ok (.invokespecial ic, 3)) (d9 : decode c.code (pc + 3) = .ok (.athrow, 1)) (hout : ∀ x ∈ c.exceptionTable.toList, covers x (pc + 3) = false)
    (hR1 : up.length + 3 < R.frames) (hR2 : (rest.map fun v => v.category).sum + (13 * (up.length + 1) + 43) ≤ R.locals) (hlk : meth.locks = false) :
    ∃ U : State, Steps p.tables e below (T.setTop { method := m, pc := pc, locals := ls, stack := .ref sa :: .ref a :: .ref a :: rest, locked := none }) U ∧ U.status = .running ∧ Ended U below (.threw a) ∧ s.WarmedH U.vm ∧
      s.sameButNew ({ U with vm := s.vm } : State) [] cells slots ∧ ∃ ce, U.heap[a]? = some ce ∧ ce.cls = k ∧ ce.vm = .none := by
  have pf1 : e.platform.frameOwnsMonitors = true := by rw [X.admits.platform]
  have pf2 : e.platform.finalization = false := by rw [X.admits.platform]
  have pf3 : e.platform.magicAccessors = ({} : Platform).magicAccessors := by rw [X.admits.platform]
  -- the links, from the words
  obtain ⟨Y0, Z0, LY, -, tie⟩ := ThrowableC.of_atoms (args := args) pf1 pf2 pf3 (fun w hw => h w (by simp [Bundle.ownAtomsX, hw]))
  obtain ⟨Z, M, LZ, LM, htop⟩ := Init0T.ofS_atoms (args := args) pf3 LY tie (fun w hw => h w (by simp [Bundle.ownAtomsX, hw]))
  obtain ⟨P, Ps, hlen, LP, LPs, hPm, hsup, hpass⟩ := Bundle.chainSX (args := args) pf3 htop x0 x1 x2 x5 up E hE hup (fun w hw => h w (by simp [Bundle.ownAtomsX, hw]))
  have hPk : k = P.m.cls := Option.some.inj (hfE.symm.trans (findClass_of_methodNamed hPm))
  subst hPk
  have hord : K.kind = .ordinary := by
    obtain ⟨k1, K1, q1, q2, q3, -⟩ := Cond.instantiable_spec (h (.instantiable E 6) (by simp [Bundle.ownAtomsX]))
    cases Option.some.inj (q1.symm.trans hfE)
    cases Option.some.inj (q2.symm.trans hK)
    exact q3
  have g0 : selectMethod e.platform s.vm P.m.cls Y0.fill0 = .method Y0.fill0 := by
    obtain ⟨k1, r1, i1, q1, q2, q3, q4, -⟩ := Cond.selects_spec (h (.selects E Bundle.tFill0 Bundle.tFill0) (by simp [Bundle.ownAtomsX]))
    cases Option.some.inj (q1.symm.trans hfE)
    cases Option.some.inj (q2.symm.trans (State.methodFound?_of_named tie.fill0 (by decide)))
    cases Option.some.inj (q3.symm.trans tie.fill0)
    exact (Launch.admits_selectMethod X.admits ..).trans q4
  have g1 : selectMethod e.platform s.vm P.m.cls Y0.fill = .method Y0.fill := by
    obtain ⟨k1, r1, i1, q1, q2, q3, q4, -⟩ := Cond.selects_spec (h (.selects E Bundle.tFill Bundle.tFill) (by simp [Bundle.ownAtomsX]))
    cases Option.some.inj (q1.symm.trans hfE)
    cases Option.some.inj (q2.symm.trans (State.methodFound?_of_named tie.fill (by decide)))
    cases Option.some.inj (q3.symm.trans tie.fill)
    exact (Launch.admits_selectMethod X.admits ..).trans q4
  -- the statics' cell, now as at the start
  obtain ⟨S0, hS0, hst⟩ := tie.statics
  obtain ⟨u, hu⟩ := Cond.staticRefV tie.unassigned LY.unassignedStatic LY.statics hS0 hst (h (.isRef (.static Bundle.tN "UNASSIGNED_STACK" Bundle.steD)) (by simp [Bundle.ownAtomsX]))
  obtain ⟨v, hv⟩ := Cond.staticRefV tie.sentinel LY.sentinelStatic LY.statics hS0 hst (h (.isRef (.static Bundle.tN "SUPPRESSED_SENTINEL" Bundle.listD)) (by simp [Bundle.ownAtomsX]))
  obtain ⟨S1, hS1, hvm1, -, hsl⟩ := X.same.2.2.2.2.2 Y0.aS S0 hS0
  have hT1 : T.heap[Y0.aS]? = some S1 := hS1
  have hal : Y0.aS ≠ a := fun hh => absurd (Nat.lt_of_lt_of_le (Array.getElem?_eq_some_iff.mp hS0).1 hnew) (hh ▸ Nat.lt_irrefl _)
  have hknow : S1.vm ≠ .unknown := fun hh => by
    rw [(congrArg Cell.vm hvm1).symm.trans hh |> fun (z : S0.vm = .unknown) => z] at hst
    cases hst
  -- the fields
  obtain ⟨i198, n198, fB, b1, b2, b3, b4, -, nB, tB, rB⟩ := Cond.ownField (t := .object "java/lang/Object") tie.found LY.cls (by decide +kernel) (h (.fieldLink Bundle.tN 198 Bundle.tN "backtrace" "Ljava/lang/Object;") (by simp [Bundle.ownAtomsX])) (h (.lays Bundle.tN Bundle.tN "backtrace" "Ljava/lang/Object;") (by simp [Bundle.ownAtomsX])) e.platform pf3
  obtain ⟨im, rM⟩ := tie.msg
  obtain ⟨t1, y1, w1, z1⟩ := Cond.laysAt hfE hK tie.cause (h (.lays E Bundle.tN "cause" "Ljava/lang/Throwable;") (by simp [Bundle.ownAtomsX]))
  obtain ⟨t2, y2, w2, z2⟩ := Cond.laysAt hfE hK tie.stack (h (.lays E Bundle.tN "stackTrace" Bundle.steD) (by simp [Bundle.ownAtomsX]))
  obtain ⟨t3, y3, w3, z3⟩ := Cond.laysAt hfE hK tie.supp (h (.lays E Bundle.tN "suppressedExceptions" Bundle.listD) (by simp [Bundle.ownAtomsX]))
  obtain ⟨t4, y4, w4, z4⟩ := Cond.laysAt hfE hK rM (h (.lays E Bundle.tN "detailMessage" "Ljava/lang/String;") (by simp [Bundle.ownAtomsX]))
  obtain ⟨t5, y5, w5, z5⟩ := Cond.laysAt hfE hK rB (h (.lays E Bundle.tN "backtrace" "Ljava/lang/Object;") (by simp [Bundle.ownAtomsX]))
  have o1 := Cond.laysApart w5 w1 z5 z1 (by rw [nB, tie.causeName]; decide)
  have o2 := Cond.laysApart w5 w2 z5 z2 (by rw [nB, tie.stackName]; decide)
  have o3 := Cond.laysApart w5 w3 z5 z3 (by rw [nB, tie.suppName]; decide)
  have hdf := fresh_default (c := P.m.cls) t5
  rw [tB] at hdf
  have hskip : SkipFacts Y0 e.platform s (fun q => q) u ((preparedCellV Y0.toThrowableT (freshCell P.m.cls K) a u v).withEntry T.cur) :=
    ⟨{ ci198 := i198, i198 := n198, fBack := fB }, ⟨b1, b2, b3, b4⟩, by simpa [preparedCellV, Cell.setSlot, Cell.withEntry, Array.getElem?_setIfInBounds, o1, o2, o3, o1.symm, o2.symm, o3.symm, defaultValue] using hdf, fun _ _ => rfl⟩
  -- the call of the constructor, and what she does
  obtain ⟨i5, me5, co5, K5, v5, hi5, -, -, -, -, -, -, -, hW5, go5⟩ := Steps.initColdS (tb := p.tables) (e := e) (below := below) (s := s) (U := T) X.here hexec X.warmed pf3 hown (t := Bundle.initS E) rfl rfl (Bundle.fit_spec hE).2
    (h (.methodLink own ic (Bundle.initS E)) (by simp [Bundle.ownAtomsX])) (h (.instanceMethod (Bundle.initS E)) (by cases up <;> simp [Bundle.ownAtomsX, Bundle.chainSAtomsX, Bundle.passSAtoms])) (bytes := rx) (maxL := 2) (h (.code (Bundle.initS E) rx 2 none) (by cases up <;> simp [Bundle.ownAtomsX, Bundle.chainSAtomsX, Bundle.passSAtoms]))
    (f := { method := m, pc := pc, locals := ls, stack := .ref sa :: .ref a :: .ref a :: rest, locked := none }) rfl (a := a) (msg := .ref sa) (rest := .ref a :: rest) rfl d6
  cases Option.some.inj (hi5.symm.trans hPm)
  have X5 := X.noted hW5
  obtain ⟨v6, X6, go6⟩ := X5.ctorMessageOffV hexec (g := { method := m, pc := pc, locals := ls, stack := .ref a :: rest, locked := none }) rfl hls Y0 LY Z LZ M LM (P :: Ps)
    (fun q hq => (List.mem_cons.mp hq).elim (fun hh => hh ▸ LP) (LPs q)) ⟨hsup, hpass⟩ (u0 := u) (sen := v) (self := a) (msg := .ref sa) rfl (cell := freshCell P.m.cls K) (cellS := S1)
    ha (fun _ => by simp) (by simp) rfl rfl g0 g1 hT1 hal hknow (by rw [hsl _ (by simp)]; exact hu) (by rw [hsl _ (by simp)]; exact hv)
    (Takes.of_laid hK hord t1 (by rw [tie.causeType]; rfl)) (Takes.of_laid hK hord t2 (by rw [tie.stackType]; exact fits_refV_array _ u)) (Takes.of_laid hK hord t3 (by rw [tie.suppType]; exact fits_refV_object _ v))
    (Takes.of_laid hK hord t4 (by rw [tie.msgType]; exact fits_refV_object _ ⟨.ref sa, rfl⟩)) tie.objLocals hskip htr [] d6
    (by simp only [List.length_cons, hlen]; omega) (by simp only [List.length_cons, hlen, List.map_cons, List.sum_cons, show (Value.ref a).category = 1 from rfl, show JFrame.monitorRoom { method := m, pc := pc, locals := ls, stack := .ref a :: rest, locked := none } = 0 from rfl]; omega)
  obtain ⟨go7, hrun, hend, hW7, hsm⟩ := X6.athrowLeaves hexec (g := { method := m, pc := pc + 3, locals := ls, stack := .ref a :: rest, locked := none }) rfl rfl rfl hout (a := a) (rest := rest) rfl d9
  refine ⟨_, go5 _ (fun acts => ?_), hrun, hend, hW7, hsm.weaken (fun q hq hlt => ?_) (Nat.le_refl _) (Nat.le_refl _), _,
    heapAt_setCell_self (s := (T.setVm v5).setVm v6) (plainBareV Y0.toThrowableT (freshCell P.m.cls K) a u v (.ref sa)) (Array.getElem?_eq_some_iff.mp ha).1, rfl, rfl⟩
  · rw [doInvoke_state]
    exact go6 _ go7
  · have hb : q.base = a := by
      simp only [List.nil_append, List.mem_cons, List.not_mem_nil, or_false] at hq
      rcases hq with rfl | rfl | rfl | rfl | rfl <;> rfl
    rw [hb] at hlt
    exact absurd hlt (Nat.not_lt.mpr hnew)

abbrev nzB : ByteArray := prog_43_method_4_code
def nz_at : List Cond := (Bundle.ownAtomsX RX11 158 "java/util/NoSuchElementException" 13 nzB thN).filter vx_no
set_option maxHeartbeats 4000000 in
set_option maxRecDepth 100000 in
theorem nz_w : ∀ w ∈ nz_at.filter goodWord, w ∈ lw_tbl := by decide +kernel
set_option maxHeartbeats 4000000 in
set_option maxRecDepth 100000 in
theorem nz_n : ∀ w ∈ nz_at.filter (fun w => !goodWord w), w ∈ [Cond.castable "java/util/NoSuchElementException" "java/util/NoSuchElementException", thD "java/lang/RuntimeException", thD "java/lang/Exception", thD "java/lang/Throwable"] := by decide +kernel
set_option maxHeartbeats 4000000 in
set_option maxRecDepth 100000 in
theorem nz_g : ∀ w ∈ Cond.classLink RX11 154 "java/util/NoSuchElementException" :: Cond.initialized "java/util/NoSuchElementException" :: nz_at, vx_ot w = true := by decide +kernel
variable {H : Heap} {locs : List Loc} {Q : State → Prop} {G : Gx} {own : String} {cc : ByteArray} {nL : Nat} {ret : Option FieldType} {pc : Nat} {ls : Array Slot} {rest : List Value} {w : va_W}
theorem nz_a (C : Cx l G own cc nL ret p s m meth c args) : ∀ w ∈ nz_at, w.before args s = true := by
  obtain ⟨b, hb, -⟩ := C.2.2.2.2.2.2.2.2.2.2.2.2
  exact vx_hat (fun w hw => C.2.2.2.2.2.1 w (lwm (nz_w w hw) (List.mem_filter.mp hw).2)) nz_n (vx_c (fw_mv C rfl rfl (hb _ (tb2 _ (List.mem_of_getElem? (i := 220) rfl)))) (vx_c (fw_mv C rfl rfl (hb _ (tb2 _ (List.mem_of_getElem? (i := 96) rfl)))) (vx_c (fw_mv C rfl rfl (hb _ (tb2 _ (List.mem_of_getElem? (i := 98) rfl)))) (vx_c (fw_mv C rfl rfl (hb _ (tb2 _ (List.mem_of_getElem? (i := 100) rfl)))) vx_n))))
theorem x_thr5 (C : Cx l G RX11 cc nL ret p s m meth c args) (hw : WH G s w H locs) {Qc : Array Value → State → Outcome → State → Prop} {px : Nat → Prop} {Wx : Nat → va_W} {is mc ms : Nat} {tx : String} (hsr : ∃ a, vk_R RX11 is tx a G.2.1) (hp : px 5) (hWx : w = Wx 5) (hnt : ∀ x ∈ c.exceptionTable.toList, False) (hsz : ls.size = nL)
    (d0 : decode cc pc = .ok (.new 154, 3)) (d3 : decode cc (pc + 3) = .ok (.dup, 1)) (d4 : decode cc (pc + 4) = .ok (.ldc is, 2)) (d6 : decode cc (pc + 6) = .ok (.invokespecial 158, 3)) (d9 : decode cc (pc + 9) = .ok (.athrow, 1))
    (hR1 : 5 < R.frames) (hR2 : (rest.map fun v => v.category).sum + 82 ≤ R.locals) (hR3 : cells + 1 ≤ R.cells) (hR4 : slots + 6 ≤ R.slots) (hc : cells + 1 ≤ mc) (hs : slots + 6 ≤ ms) :
    W p l e R s m args below meth c H locs cells slots (vx_MQ below Qc (XQ G px Wx) args s mc ms (gA G)) (F0 m pc ls rest) := by
  obtain ⟨sa, hsa⟩ := hsr
  have hF := C.2.2.2.2.2.2.2.2
  have hW := C.2.2.2.2.2.2.2.1
  have hb : c.code = cc := C.2.1
  have hexec : p.tables.exec = Jvm.exec := C.1
  intro T hT X
  have hoff : e.platform.stackTraces = false := (show e.platform.stackTraces = l.stackTraces by rw [X.admits.platform]).trans hF.1
  have Y := vx_rebase X (R' := { frames := R.frames, locals := R.locals, cells := 1, slots := 6 }) (Nat.le_refl _) (Nat.le_refl _) hR3 hR4
  generalize hz : (T.setVm s.vm).setFrames (.invoking m args :: below) = z at Y
  have zv : z.vm = s.vm := by rw [← hz]; rfl
  have zh : z.heap = H := by rw [← hz]; exact hT
  have zw : s.WarmedH z.vm := by rw [zv]; exact State.WarmedH.refl s
  have move : ∀ w ∈ Cond.classLink RX11 154 "java/util/NoSuchElementException" :: Cond.initialized "java/util/NoSuchElementException" :: nz_at, w.before args s = true → w.before args z = true := fun w h1 h2 => vx_ot_at zw zv.symm (nz_g w h1) h2
  have k1 := move _ List.mem_cons_self (C.2.2.2.2.2.1 _ cl_X11_154)
  have k2 := move _ (List.mem_cons_of_mem _ List.mem_cons_self) (C.2.2.2.2.2.1 _ ini_java_util_NoSuchElementException)
  have U0 : vx_Zq Bundle.tN "UNASSIGNED_STACK" Bundle.steD (gA G) z z.heap := by rw [zh]; exact vx_Zq.moved zw.alike (((vx_Zq.moved hW.alike hF.unst.1).kept (H1 := s.heap) hw.1.2).kept hw.2.1.2.1)
  have N0 : vx_Zq Bundle.tN "SUPPRESSED_SENTINEL" Bundle.listD (gA G) z z.heap := by rw [zh]; exact vx_Zq.moved zw.alike (((vx_Zq.moved hW.alike hF.unst.2).kept (H1 := s.heap) hw.1.2).kept hw.2.1.2.1)
  have ha : ∀ w ∈ Bundle.ownAtomsX RX11 158 "java/util/NoSuchElementException" 13 nzB thN, w.before args z = true :=
    vx_own (fun w h1 => move w (List.mem_cons_of_mem _ (List.mem_cons_of_mem _ h1)) (nz_a C w h1)) (vx_isRefq U0.1) (vx_isRefq N0.1) U0.2.word N0.2.word
  have zo : z.vm.findClass RX11 = some m.cls := by rw [zv]; exact C.2.2.2.2.1
  obtain ⟨v1, k, K, hk, hK, -, -, Y1, go1⟩ := Y.newCold hexec (own := RX11) (C := "java/util/NoSuchElementException") (index := 154) (n := 6) zo k1 (ha _ (by simp [Bundle.ownAtomsX])) k2
    (g := F0 m pc ls rest) rfl (by rw [hb]; exact d0) (Nat.le_refl _) (Nat.le_refl _)
  generalize hT1 : (T.setVm v1).pushCell { cls := k, slots := K.instanceTypes.map defaultValue, vm := .none } = T1 at Y1 go1
  have hcell : T1.heap[T.heap.size]? = some (freshCell k K) := by rw [← hT1]; exact State.heap_pushCell_size _ _
  rw [← hb] at d3 d4 d6 d9
  obtain ⟨U, go2, hrun, hend, hWU, hsm, ce, hce, hcc, hcv⟩ := nz_made (own := RX11) (E := "java/util/NoSuchElementException") (ic := 158) (ix := 13) (rx := nzB) Y1 hexec hoff (by decide +kernel) (by decide +kernel) (by decide +kernel) (by decide +kernel) zo (by decide +kernel) (by decide +kernel) ha hk hK hcell (by rw [zh, hT]; exact Nat.le_refl _)
    (sa := sa) (pc := pc + 6) (ls := ls) (rest := rest) (hsz.trans C.2.2.2.1.symm) d6 d9 (fun x hx => (hnt x hx).elim) (by simpa using hR1) (by simpa using hR2) C.2.2.2.2.2.2.1
  obtain ⟨f1, f2⟩ := vx_frame hsm
  rw [zh] at f1 f2
  have hall : s.sameButNew ({ U with vm := s.vm } : State) locs mc ms := by
    subst hz
    obtain ⟨e1, e2⟩ := hsm
    rw [State.setFrames_setFrames] at e1
    have h3 := X.same.trans (show (T.setVm s.vm).sameButNew ({ U with vm := s.vm } : State) [] (0 + 1) (0 + 6) from ⟨e1, e2⟩)
    rw [List.append_nil] at h3
    exact h3.mono hc hs
  refine ⟨U, go1 _ ?_, .threw T.heap.size, hrun, hend, Or.inr ⟨T.heap.size, rfl, "java/util/NoSuchElementException", ce, locs, thr_hx (k := 5) hw hp hWx f1 (fun q hq => f2 q hq (fun y hy => nomatch hy)), hce, hcv, by rw [hcc, ← zv]; exact hk, State.WarmedH.trans zw hWU, hall, hw.2.1.2.2⟩⟩
  show Steps p.tables e below (T1.setTop { method := m, pc := pc + 3, locals := ls, stack := .ref T.heap.size :: rest, locked := none }) _
  jvm_step Y1.here [Y1.here.top, hexec, d3, Value.category]
  have hsz' := vk_R.warm zw (vk_R.warm hW hsa)
  exact Y1.ldcString hexec (own := RX11) (text := tx) (index := is) (a := sa) zo hsz'.1 hsz'.2 (g := { method := m, pc := pc + 4, locals := ls, stack := .ref T.heap.size :: .ref T.heap.size :: rest, locked := none }) rfl d4 _ go2
theorem x_thr5W (C : Cx l G RX11 cc nL ret p s m meth c args) (hw : WH G s w H locs) {Qc : Array Value → State → Outcome → State → Prop} {px : Nat → Prop} {Wx : Nat → va_W} {is mc ms : Nat} {tx : String} (hsr : ∃ a, vk_R RX11 is tx a G.2.1) (hp : px 5) (hWx : w = Wx 5) (hnt : ∀ x ∈ c.exceptionTable.toList, False) (hsz : ls.size = nL)
    (d0 : decode cc pc = .ok (.new 154, 3)) (d3 : decode cc (pc + 3) = .ok (.dup, 1)) (d4 : decode cc (pc + 4) = .ok (.ldc_w is, 3)) (d6 : decode cc (pc + 7) = .ok (.invokespecial 158, 3)) (d9 : decode cc (pc + 10) = .ok (.athrow, 1))
    (hR1 : 5 < R.frames) (hR2 : (rest.map fun v => v.category).sum + 82 ≤ R.locals) (hR3 : cells + 1 ≤ R.cells) (hR4 : slots + 6 ≤ R.slots) (hc : cells + 1 ≤ mc) (hs : slots + 6 ≤ ms) :
    W p l e R s m args below meth c H locs cells slots (vx_MQ below Qc (XQ G px Wx) args s mc ms (gA G)) (F0 m pc ls rest) := by
  obtain ⟨sa, hsa⟩ := hsr
  have hF := C.2.2.2.2.2.2.2.2
  have hW := C.2.2.2.2.2.2.2.1
  have hb : c.code = cc := C.2.1
  have hexec : p.tables.exec = Jvm.exec := C.1
  intro T hT X
  have hoff : e.platform.stackTraces = false := (show e.platform.stackTraces = l.stackTraces by rw [X.admits.platform]).trans hF.1
  have Y := vx_rebase X (R' := { frames := R.frames, locals := R.locals, cells := 1, slots := 6 }) (Nat.le_refl _) (Nat.le_refl _) hR3 hR4
  generalize hz : (T.setVm s.vm).setFrames (.invoking m args :: below) = z at Y
  have zv : z.vm = s.vm := by rw [← hz]; rfl
  have zh : z.heap = H := by rw [← hz]; exact hT
  have zw : s.WarmedH z.vm := by rw [zv]; exact State.WarmedH.refl s
  have move : ∀ w ∈ Cond.classLink RX11 154 "java/util/NoSuchElementException" :: Cond.initialized "java/util/NoSuchElementException" :: nz_at, w.before args s = true → w.before args z = true := fun w h1 h2 => vx_ot_at zw zv.symm (nz_g w h1) h2
  have k1 := move _ List.mem_cons_self (C.2.2.2.2.2.1 _ cl_X11_154)
  have k2 := move _ (List.mem_cons_of_mem _ List.mem_cons_self) (C.2.2.2.2.2.1 _ ini_java_util_NoSuchElementException)
  have U0 : vx_Zq Bundle.tN "UNASSIGNED_STACK" Bundle.steD (gA G) z z.heap := by rw [zh]; exact vx_Zq.moved zw.alike (((vx_Zq.moved hW.alike hF.unst.1).kept (H1 := s.heap) hw.1.2).kept hw.2.1.2.1)
  have N0 : vx_Zq Bundle.tN "SUPPRESSED_SENTINEL" Bundle.listD (gA G) z z.heap := by rw [zh]; exact vx_Zq.moved zw.alike (((vx_Zq.moved hW.alike hF.unst.2).kept (H1 := s.heap) hw.1.2).kept hw.2.1.2.1)
  have ha : ∀ w ∈ Bundle.ownAtomsX RX11 158 "java/util/NoSuchElementException" 13 nzB thN, w.before args z = true :=
    vx_own (fun w h1 => move w (List.mem_cons_of_mem _ (List.mem_cons_of_mem _ h1)) (nz_a C w h1)) (vx_isRefq U0.1) (vx_isRefq N0.1) U0.2.word N0.2.word
  have zo : z.vm.findClass RX11 = some m.cls := by rw [zv]; exact C.2.2.2.2.1
  obtain ⟨v1, k, K, hk, hK, -, -, Y1, go1⟩ := Y.newCold hexec (own := RX11) (C := "java/util/NoSuchElementException") (index := 154) (n := 6) zo k1 (ha _ (by simp [Bundle.ownAtomsX])) k2
    (g := F0 m pc ls rest) rfl (by rw [hb]; exact d0) (Nat.le_refl _) (Nat.le_refl _)
  generalize hT1 : (T.setVm v1).pushCell { cls := k, slots := K.instanceTypes.map defaultValue, vm := .none } = T1 at Y1 go1
  have hcell : T1.heap[T.heap.size]? = some (freshCell k K) := by rw [← hT1]; exact State.heap_pushCell_size _ _
  rw [← hb] at d3 d4 d6 d9
  obtain ⟨U, go2, hrun, hend, hWU, hsm, ce, hce, hcc, hcv⟩ := nz_made (own := RX11) (E := "java/util/NoSuchElementException") (ic := 158) (ix := 13) (rx := nzB) Y1 hexec hoff (by decide +kernel) (by decide +kernel) (by decide +kernel) (by decide +kernel) zo (by decide +kernel) (by decide +kernel) ha hk hK hcell (by rw [zh, hT]; exact Nat.le_refl _)
    (sa := sa) (pc := pc + 7) (ls := ls) (rest := rest) (hsz.trans C.2.2.2.1.symm) d6 d9 (fun x hx => (hnt x hx).elim) (by simpa using hR1) (by simpa using hR2) C.2.2.2.2.2.2.1
  obtain ⟨f1, f2⟩ := vx_frame hsm
  rw [zh] at f1 f2
  have hall : s.sameButNew ({ U with vm := s.vm } : State) locs mc ms := by
    subst hz
    obtain ⟨e1, e2⟩ := hsm
    rw [State.setFrames_setFrames] at e1
    have h3 := X.same.trans (show (T.setVm s.vm).sameButNew ({ U with vm := s.vm } : State) [] (0 + 1) (0 + 6) from ⟨e1, e2⟩)
    rw [List.append_nil] at h3
    exact h3.mono hc hs
  refine ⟨U, go1 _ ?_, .threw T.heap.size, hrun, hend, Or.inr ⟨T.heap.size, rfl, "java/util/NoSuchElementException", ce, locs, thr_hx (k := 5) hw hp hWx f1 (fun q hq => f2 q hq (fun y hy => nomatch hy)), hce, hcv, by rw [hcc, ← zv]; exact hk, State.WarmedH.trans zw hWU, hall, hw.2.1.2.2⟩⟩
  show Steps p.tables e below (T1.setTop { method := m, pc := pc + 3, locals := ls, stack := .ref T.heap.size :: rest, locked := none }) _
  jvm_step Y1.here [Y1.here.top, hexec, d3, Value.category]
  have hsz' := vk_R.warm zw (vk_R.warm hW hsa)
  exact Y1.ldcStringW hexec (own := RX11) (text := tx) (index := is) (a := sa) zo hsz'.1 hsz'.2 (g := { method := m, pc := pc + 4, locals := ls, stack := .ref T.heap.size :: .ref T.heap.size :: rest, locked := none }) rfl d4 _ go2
end NZ
