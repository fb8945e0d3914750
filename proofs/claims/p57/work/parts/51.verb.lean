/-! What stands at the start: the verbs, their words, their row -/
theorem va_Z.inj {C n d : String} {v v' : Value} {A : Nat → Prop} {U : State} {H : Heap} (h : va_Z C n d v A U H) (h' : va_Z C n d v' A U H) : v = v' := by
  obtain ⟨cf, kf, fi, f, a, cell, h1, h2, h3, h4, h5, h6, h7, h8⟩ := h
  obtain ⟨cf', kf', fi', f', a', cell', h1', h2', h3', h4', h5', h6', h7', h8'⟩ := h'
  cases h1.symm.trans h1'
  cases h4.symm.trans h4'
  cases h5.symm.trans h5'
  exact Option.some.inj (h7.symm.trans h7')
theorem stat_ev {args : Array Value} {s : State} {C n d E : String} {a : Nat} {A : Nat → Prop} (hZ : va_Z C n d (.ref a) A s s.heap) (hl : (Cond.laysStatic C n d).before args s = true) (hini : (Cond.initialized C).before args s = true) (hex : (Cond.exactly (.static C n d) E).before args s = true) (hA : ∀ a : Nat, a < s.heap.size → ¬ A a) : (Term.static C n d).eval args s none [] s = some (.ref a) := by
  obtain ⟨a', c, cA, kA, q1, -⟩ := Cond.exactly_spec (args := args) (first := s) (o := none) (s := s) (idx := []) (t := .static C n d) (cls := E) hex
  have := (va_Zof hl hini q1 hA).inj hZ
  cases this
  exact q1
/-- the words of the verbs -/
def wdL (i : Nat) : List Int32 := match i with
  | 0 => [115, 116, 97, 108, 108]
  | 1 => [98, 117, 121]
  | 2 => [115, 101, 108, 108]
  | 3 => [99, 97, 110, 99, 101, 108]
  | 4 => [112, 97, 115, 115]
  | 5 => [111, 112, 101, 110]
  | _ => [99, 108, 111, 115, 101]
theorem SF.vst {l : Launch} {G : Gx} (hF : SF l G) {i : Nat} (hi : i < 7) : va_Z "DropMarket$Verb" (nmV.getD i "") "LDropMarket$Verb;" (.ref (G.2.2.2.2 i)) (gA G) G.2.1 G.2.1.heap := (hF.2.2.2.1.1 i hi).1

set_option maxHeartbeats 4000000 in
set_option maxRecDepth 100000 in
theorem vev_0 {l : Launch} {G : Gx} (hF : SF l G) {b : Nat} (hb : ∀ w ∈ lw_tbl, w.before #[Value.ref b] G.2.1 = true) (hs : ∀ w ∈ flatC (Jvm.Cond.and given_1 narrow_1), w.before #[Value.ref b] G.2.1 = true) : (Term.static "DropMarket$Verb" "STALL" "LDropMarket$Verb;").eval #[Value.ref b] G.2.1 none [] G.2.1 = some (.ref (G.2.2.2.2 0)) :=
  stat_ev (hF.vst (i := 0) (by decide)) (hb _ (tb7 _ (List.mem_of_getElem? (i := 178) rfl))) (hb _ (LW_in _ ini_X10)) (hs _ (List.mem_of_getElem? (i := 277) rfl)) (gA_no G)
set_option maxHeartbeats 4000000 in
set_option maxRecDepth 100000 in
theorem vwd_0 {l : Launch} {G : Gx} (hF : SF l G) : ∃ a, va_OF "DropMarket$Verb" "word" "Ljava/lang/String;" (.ref a) (G.2.2.2.2 0) (gA G) G.2.1 G.2.1.heap ∧ StrAt G a (wdL 0) := by
  obtain ⟨a, hr, hst⟩ := vli_56 hF
  obtain ⟨b, hb, hn⟩ := hF.2.2.2.2
  have hs := flat_of_before _ hn
  have hev : (Term.string "DropMarket$Verb" 56).eval #[Value.ref b] G.2.1 none [] G.2.1 = some (.ref a) := hr.2
  have hfe := va_eqv (hs _ (List.mem_of_getElem? (i := 279) rfl)) hev
  exact ⟨a, vk_OFof (vev_0 hF hb hs) hfe (gA_no G), hst⟩
set_option maxHeartbeats 4000000 in
set_option maxRecDepth 100000 in
theorem vev_1 {l : Launch} {G : Gx} (hF : SF l G) {b : Nat} (hb : ∀ w ∈ lw_tbl, w.before #[Value.ref b] G.2.1 = true) (hs : ∀ w ∈ flatC (Jvm.Cond.and given_1 narrow_1), w.before #[Value.ref b] G.2.1 = true) : (Term.static "DropMarket$Verb" "BUY" "LDropMarket$Verb;").eval #[Value.ref b] G.2.1 none [] G.2.1 = some (.ref (G.2.2.2.2 1)) :=
  stat_ev (hF.vst (i := 1) (by decide)) (hb _ (tb7 _ (List.mem_of_getElem? (i := 179) rfl))) (hb _ (LW_in _ ini_X10)) (hs _ (List.mem_of_getElem? (i := 289) rfl)) (gA_no G)
set_option maxHeartbeats 4000000 in
set_option maxRecDepth 100000 in
theorem vwd_1 {l : Launch} {G : Gx} (hF : SF l G) : ∃ a, va_OF "DropMarket$Verb" "word" "Ljava/lang/String;" (.ref a) (G.2.2.2.2 1) (gA G) G.2.1 G.2.1.heap ∧ StrAt G a (wdL 1) := by
  obtain ⟨a, hr, hst⟩ := vli_62 hF
  obtain ⟨b, hb, hn⟩ := hF.2.2.2.2
  have hs := flat_of_before _ hn
  have hev : (Term.string "DropMarket$Verb" 62).eval #[Value.ref b] G.2.1 none [] G.2.1 = some (.ref a) := hr.2
  have hfe := va_eqv (hs _ (List.mem_of_getElem? (i := 291) rfl)) hev
  exact ⟨a, vk_OFof (vev_1 hF hb hs) hfe (gA_no G), hst⟩
set_option maxHeartbeats 4000000 in
set_option maxRecDepth 100000 in
theorem vev_2 {l : Launch} {G : Gx} (hF : SF l G) {b : Nat} (hb : ∀ w ∈ lw_tbl, w.before #[Value.ref b] G.2.1 = true) (hs : ∀ w ∈ flatC (Jvm.Cond.and given_1 narrow_1), w.before #[Value.ref b] G.2.1 = true) : (Term.static "DropMarket$Verb" "SELL" "LDropMarket$Verb;").eval #[Value.ref b] G.2.1 none [] G.2.1 = some (.ref (G.2.2.2.2 2)) :=
  stat_ev (hF.vst (i := 2) (by decide)) (hb _ (tb7 _ (List.mem_of_getElem? (i := 180) rfl))) (hb _ (LW_in _ ini_X10)) (hs _ (List.mem_of_getElem? (i := 302) rfl)) (gA_no G)
set_option maxHeartbeats 4000000 in
set_option maxRecDepth 100000 in
theorem vwd_2 {l : Launch} {G : Gx} (hF : SF l G) : ∃ a, va_OF "DropMarket$Verb" "word" "Ljava/lang/String;" (.ref a) (G.2.2.2.2 2) (gA G) G.2.1 G.2.1.heap ∧ StrAt G a (wdL 2) := by
  obtain ⟨a, hr, hst⟩ := vli_65 hF
  obtain ⟨b, hb, hn⟩ := hF.2.2.2.2
  have hs := flat_of_before _ hn
  have hev : (Term.string "DropMarket$Verb" 65).eval #[Value.ref b] G.2.1 none [] G.2.1 = some (.ref a) := hr.2
  have hfe := va_eqv (hs _ (List.mem_of_getElem? (i := 304) rfl)) hev
  exact ⟨a, vk_OFof (vev_2 hF hb hs) hfe (gA_no G), hst⟩
set_option maxHeartbeats 4000000 in
set_option maxRecDepth 100000 in
theorem vev_3 {l : Launch} {G : Gx} (hF : SF l G) {b : Nat} (hb : ∀ w ∈ lw_tbl, w.before #[Value.ref b] G.2.1 = true) (hs : ∀ w ∈ flatC (Jvm.Cond.and given_1 narrow_1), w.before #[Value.ref b] G.2.1 = true) : (Term.static "DropMarket$Verb" "CANCEL" "LDropMarket$Verb;").eval #[Value.ref b] G.2.1 none [] G.2.1 = some (.ref (G.2.2.2.2 3)) :=
  stat_ev (hF.vst (i := 3) (by decide)) (hb _ (tb7 _ (List.mem_of_getElem? (i := 181) rfl))) (hb _ (LW_in _ ini_X10)) (hs _ (List.mem_of_getElem? (i := 316) rfl)) (gA_no G)
set_option maxHeartbeats 4000000 in
set_option maxRecDepth 100000 in
theorem vwd_3 {l : Launch} {G : Gx} (hF : SF l G) : ∃ a, va_OF "DropMarket$Verb" "word" "Ljava/lang/String;" (.ref a) (G.2.2.2.2 3) (gA G) G.2.1 G.2.1.heap ∧ StrAt G a (wdL 3) := by
  obtain ⟨a, hr, hst⟩ := vli_68 hF
  obtain ⟨b, hb, hn⟩ := hF.2.2.2.2
  have hs := flat_of_before _ hn
  have hev : (Term.string "DropMarket$Verb" 68).eval #[Value.ref b] G.2.1 none [] G.2.1 = some (.ref a) := hr.2
  have hfe := va_eqv (hs _ (List.mem_of_getElem? (i := 318) rfl)) hev
  exact ⟨a, vk_OFof (vev_3 hF hb hs) hfe (gA_no G), hst⟩
set_option maxHeartbeats 4000000 in
set_option maxRecDepth 100000 in
theorem vev_4 {l : Launch} {G : Gx} (hF : SF l G) {b : Nat} (hb : ∀ w ∈ lw_tbl, w.before #[Value.ref b] G.2.1 = true) (hs : ∀ w ∈ flatC (Jvm.Cond.and given_1 narrow_1), w.before #[Value.ref b] G.2.1 = true) : (Term.static "DropMarket$Verb" "PASS" "LDropMarket$Verb;").eval #[Value.ref b] G.2.1 none [] G.2.1 = some (.ref (G.2.2.2.2 4)) :=
  stat_ev (hF.vst (i := 4) (by decide)) (hb _ (tb7 _ (List.mem_of_getElem? (i := 182) rfl))) (hb _ (LW_in _ ini_X10)) (hs _ (List.mem_of_getElem? (i := 331) rfl)) (gA_no G)
set_option maxHeartbeats 4000000 in
set_option maxRecDepth 100000 in
theorem vwd_4 {l : Launch} {G : Gx} (hF : SF l G) : ∃ a, va_OF "DropMarket$Verb" "word" "Ljava/lang/String;" (.ref a) (G.2.2.2.2 4) (gA G) G.2.1 G.2.1.heap ∧ StrAt G a (wdL 4) := by
  obtain ⟨a, hr, hst⟩ := vli_71 hF
  obtain ⟨b, hb, hn⟩ := hF.2.2.2.2
  have hs := flat_of_before _ hn
  have hev : (Term.string "DropMarket$Verb" 71).eval #[Value.ref b] G.2.1 none [] G.2.1 = some (.ref a) := hr.2
  have hfe := va_eqv (hs _ (List.mem_of_getElem? (i := 333) rfl)) hev
  exact ⟨a, vk_OFof (vev_4 hF hb hs) hfe (gA_no G), hst⟩
set_option maxHeartbeats 4000000 in
set_option maxRecDepth 100000 in
theorem vev_5 {l : Launch} {G : Gx} (hF : SF l G) {b : Nat} (hb : ∀ w ∈ lw_tbl, w.before #[Value.ref b] G.2.1 = true) (hs : ∀ w ∈ flatC (Jvm.Cond.and given_1 narrow_1), w.before #[Value.ref b] G.2.1 = true) : (Term.static "DropMarket$Verb" "OPEN" "LDropMarket$Verb;").eval #[Value.ref b] G.2.1 none [] G.2.1 = some (.ref (G.2.2.2.2 5)) :=
  stat_ev (hF.vst (i := 5) (by decide)) (hb _ (tb2 _ (List.mem_of_getElem? (i := 7) rfl))) (hb _ (LW_in _ ini_X10)) (hs _ (List.mem_of_getElem? (i := 5) rfl)) (gA_no G)
set_option maxHeartbeats 4000000 in
set_option maxRecDepth 100000 in
theorem vwd_5 {l : Launch} {G : Gx} (hF : SF l G) : ∃ a, va_OF "DropMarket$Verb" "word" "Ljava/lang/String;" (.ref a) (G.2.2.2.2 5) (gA G) G.2.1 G.2.1.heap ∧ StrAt G a (wdL 5) := by
  obtain ⟨a, hr, hst⟩ := vli_74 hF
  obtain ⟨b, hb, hn⟩ := hF.2.2.2.2
  have hs := flat_of_before _ hn
  have hev : (Term.string "DropMarket$Verb" 74).eval #[Value.ref b] G.2.1 none [] G.2.1 = some (.ref a) := hr.2
  have hfe := va_eqv (hs _ (List.mem_of_getElem? (i := 7) rfl)) hev
  exact ⟨a, vk_OFof (vev_5 hF hb hs) hfe (gA_no G), hst⟩
set_option maxHeartbeats 4000000 in
set_option maxRecDepth 100000 in
theorem vev_6 {l : Launch} {G : Gx} (hF : SF l G) {b : Nat} (hb : ∀ w ∈ lw_tbl, w.before #[Value.ref b] G.2.1 = true) (hs : ∀ w ∈ flatC (Jvm.Cond.and given_1 narrow_1), w.before #[Value.ref b] G.2.1 = true) : (Term.static "DropMarket$Verb" "CLOSE" "LDropMarket$Verb;").eval #[Value.ref b] G.2.1 none [] G.2.1 = some (.ref (G.2.2.2.2 6)) :=
  stat_ev (hF.vst (i := 6) (by decide)) (hb _ (tb7 _ (List.mem_of_getElem? (i := 183) rfl))) (hb _ (LW_in _ ini_X10)) (hs _ (List.mem_of_getElem? (i := 347) rfl)) (gA_no G)
set_option maxHeartbeats 4000000 in
set_option maxRecDepth 100000 in
theorem vwd_6 {l : Launch} {G : Gx} (hF : SF l G) : ∃ a, va_OF "DropMarket$Verb" "word" "Ljava/lang/String;" (.ref a) (G.2.2.2.2 6) (gA G) G.2.1 G.2.1.heap ∧ StrAt G a (wdL 6) := by
  obtain ⟨a, hr, hst⟩ := vli_77 hF
  obtain ⟨b, hb, hn⟩ := hF.2.2.2.2
  have hs := flat_of_before _ hn
  have hev : (Term.string "DropMarket$Verb" 77).eval #[Value.ref b] G.2.1 none [] G.2.1 = some (.ref a) := hr.2
  have hfe := va_eqv (hs _ (List.mem_of_getElem? (i := 349) rfl)) hev
  exact ⟨a, vk_OFof (vev_6 hF hb hs) hfe (gA_no G), hst⟩
set_option maxHeartbeats 4000000 in
set_option maxRecDepth 100000 in
theorem SF.verbs {l : Launch} {G : Gx} (hF : SF l G) : ∃ t, va_Z "DropMarket$CommandText" "VERBS" "[LDropMarket$Verb;" (.ref t) (gA G) G.2.1 G.2.1.heap ∧ va_T (.object "DropMarket$Verb") t 7 (fun j => .ref (G.2.2.2.2 j)) (gA G) G.2.1 G.2.1.heap := by
  obtain ⟨b, hb, hn⟩ := id hF.2.2.2.2
  have hs := flat_of_before _ hn
  obtain ⟨t, ht, hT⟩ := va_Tof (args := #[Value.ref b]) (s := G.2.1) (tm := (Jvm.Term.static "DropMarket$CommandText" "VERBS" "[LDropMarket$Verb;")) (ty := .object "DropMarket$Verb") (N := 7) (f := fun j => .ref (G.2.2.2.2 j)) (by decide) (hs _ (List.mem_of_getElem? (i := 257) rfl)) (va_eqt (hs _ (List.mem_of_getElem? (i := 258) rfl))) (fun j hj => by
    match j, hj with
    | 0, _ => exact va_eqv (hs _ (List.mem_of_getElem? (i := 260) rfl)) (vev_0 hF hb hs)
    | 1, _ => exact va_eqv (hs _ (List.mem_of_getElem? (i := 261) rfl)) (vev_1 hF hb hs)
    | 2, _ => exact va_eqv (hs _ (List.mem_of_getElem? (i := 262) rfl)) (vev_2 hF hb hs)
    | 3, _ => exact va_eqv (hs _ (List.mem_of_getElem? (i := 263) rfl)) (vev_3 hF hb hs)
    | 4, _ => exact va_eqv (hs _ (List.mem_of_getElem? (i := 264) rfl)) (vev_4 hF hb hs)
    | 5, _ => exact va_eqv (hs _ (List.mem_of_getElem? (i := 265) rfl)) (vev_5 hF hb hs)
    | 6, _ => exact va_eqv (hs _ (List.mem_of_getElem? (i := 266) rfl)) (vev_6 hF hb hs)
    | j + 7, hj => exact absurd hj (by omega)) (gA_no G)
  exact ⟨t, va_Zof (hb _ (tb7 _ (List.mem_of_getElem? (i := 74) rfl))) (hb _ (LW_in _ ini_X2)) ht (gA_no G), hT⟩
theorem SF.word {l : Launch} {G : Gx} (hF : SF l G) {i : Nat} (hi : i < 7) : ∃ a, va_OF "DropMarket$Verb" "word" "Ljava/lang/String;" (.ref a) (G.2.2.2.2 i) (gA G) G.2.1 G.2.1.heap ∧ StrAt G a (wdL i) := by
  match i, hi with
  | 0, _ => exact vwd_0 hF
  | 1, _ => exact vwd_1 hF
  | 2, _ => exact vwd_2 hF
  | 3, _ => exact vwd_3 hF
  | 4, _ => exact vwd_4 hF
  | 5, _ => exact vwd_5 hF
  | 6, _ => exact vwd_6 hF
  | i + 7, hi => exact absurd hi (by omega)
theorem SF.vfl {l : Launch} {G : Gx} (hF : SF l G) {i : Nat} (hi : i < 7) {q : String × String × String × List Int32} (hq : q ∈ flV) : va_OF q.1 q.2.1 q.2.2.1 (.int (q.2.2.2.getD i 0)) (G.2.2.2.2 i) (gA G) G.2.1 G.2.1.heap := (hF.2.2.2.1.1 i hi).2.2 q hq
set_option maxHeartbeats 4000000 in
set_option maxRecDepth 100000 in
theorem SF.smap {l : Launch} {G : Gx} (hF : SF l G) : ∃ t, va_Z "DropMarket$1" "$SwitchMap$DropMarket$Verb" "[I" (.ref t) (gA G) G.2.1 G.2.1.heap ∧ va_T .int t 7 (fun j => .int (([1, 2, 3, 4, 5, 6, 0] : List Int32).getD j 0)) (gA G) G.2.1 G.2.1.heap := by
  obtain ⟨b, hb, hn⟩ := hF.2.2.2.2
  have hs := flat_of_before _ hn
  obtain ⟨t, ht, hT⟩ := va_Tof (args := #[Value.ref b]) (s := G.2.1) (tm := (Jvm.Term.static "DropMarket$1" "$SwitchMap$DropMarket$Verb" "[I")) (ty := .int) (N := 7) (f := fun j => .int (([1, 2, 3, 4, 5, 6, 0] : List Int32).getD j 0)) (by decide) (hs _ (List.mem_of_getElem? (i := 268) rfl)) (va_eqt (hs _ (List.mem_of_getElem? (i := 269) rfl))) (fun j hj => by
    match j, hj with
    | 0, _ => exact va_eqt (hs _ (List.mem_of_getElem? (i := 270) rfl))
    | 1, _ => exact va_eqt (hs _ (List.mem_of_getElem? (i := 271) rfl))
    | 2, _ => exact va_eqt (hs _ (List.mem_of_getElem? (i := 272) rfl))
    | 3, _ => exact va_eqt (hs _ (List.mem_of_getElem? (i := 273) rfl))
    | 4, _ => exact va_eqt (hs _ (List.mem_of_getElem? (i := 274) rfl))
    | 5, _ => exact va_eqt (hs _ (List.mem_of_getElem? (i := 275) rfl))
    | 6, _ => exact va_eqt (hs _ (List.mem_of_getElem? (i := 276) rfl))
    | j + 7, hj => exact absurd hj (by omega)) (gA_no G)
  exact ⟨t, va_Zof (hb _ (tb7 _ (List.mem_of_getElem? (i := 109) rfl))) (hb _ (LW_in _ ini_X0)) ht (gA_no G), hT⟩
section VROWS
variable {p : Program} {l : Launch} {e : Env} {R : Room} {s : State} {m : MethodId} {args : Array Value} {below : List Frame} {meth : Method} {c : Code} {H : Heap} {locs : List Loc} {cells slots : Nat} {Q : State → Prop}
variable {G : Gx} {own : String} {cc : ByteArray} {nL : Nat} {ret : Option FieldType} {pc : Nat} {ls : Array Slot} {rest st : List Value} {w : va_W}
theorem r_of (C : Cx l G own cc nL ret p s m meth c args) (hw : WH G s w H locs) {index a : Nat} {o n d rf : String} {v : Value} (h : va_OF o n d v a (gA G) G.2.1 G.2.1.heap) (hlink : Cond.fieldLink own index rf n d ∈ LW) (hrf : o = rf) (hdg : decode cc pc = .ok (.getfield index, 3))
    (kk : W p l e R s m args below meth c H locs cells slots Q (F0 m (pc + 3) ls (v :: rest))) : W p l e R s m args below meth c H locs cells slots Q (F0 m pc ls (.ref a :: rest)) := by
  subst hrf
  obtain ⟨hx, hb, hr, hml, hown, hts, -, hW, hF⟩ := id C
  exact vk_getf hx hb ((h.moved hW.alike).kept (H1 := s.heap) hw.1.2) hw.2.1 hown (hts _ hlink) (fun _ h => h) hdg kk
theorem r_gst (C : Cx l G own cc nL ret p s m meth c args) (hw : WH G s w H locs) {index : Nat} {cn nm d : String} {v : Value} (hZ : va_Z cn nm d v (gA G) G.2.1 G.2.1.heap) (hlink : Cond.fieldLink own index cn nm d ∈ LW) (hdg : decode cc pc = .ok (.getstatic index, 3))
    (kk : W p l e R s m args below meth c H locs cells slots Q (F0 m (pc + 3) ls (v :: rest))) : W p l e R s m args below meth c H locs cells slots Q (F0 m pc ls rest) := by
  obtain ⟨hx, hb, hr, hml, hown, hts, -, hW, hF⟩ := id C
  exact va_gets hx hb ((hZ.moved hW.alike).kept (H1 := s.heap) hw.1.2) hw.2.1 hown (hts _ hlink) (fun _ h => h) hdg kk
theorem r_tlq (C : Cx l G own cc nL ret p s m meth c args) (hw : WH G s w H locs) {a n : Nat} {ty : FieldType} {f : Nat → Value} (h : va_T ty a n f (gA G) G.2.1 G.2.1.heap) (hdg : decode cc pc = .ok (.arraylength, 1))
    (kk : W p l e R s m args below meth c H locs cells slots Q (F0 m (pc + 1) ls (.int (nI n) :: rest))) : W p l e R s m args below meth c H locs cells slots Q (F0 m pc ls (.ref a :: rest)) := by
  obtain ⟨hx, hb, hr, hml, hown, hts, -, hW, hF⟩ := id C
  exact va_tlen hx hb ((h.moved hW.alike).kept (H1 := s.heap) hw.1.2) hw.2.1 rfl hdg kk
theorem r_tq (C : Cx l G own cc nL ret p s m meth c args) (hw : WH G s w H locs) {a n i : Nat} {E : String} {f : Nat → Nat} (h : va_T (.object E) a n (fun j => .ref (f j)) (gA G) G.2.1 G.2.1.heap) (hi : i < n) (hn : n < 2 ^ 31) (hdg : decode cc pc = .ok (.aaload, 1))
    (kk : W p l e R s m args below meth c H locs cells slots Q (F0 m (pc + 1) ls (.ref (f i) :: rest))) : W p l e R s m args below meth c H locs cells slots Q (F0 m pc ls (.int (nI i) :: .ref a :: rest)) := by
  obtain ⟨hx, hb, hr, hml, hown, hts, -, hW, hF⟩ := id C
  exact vb_tq hx hb ((h.moved hW.alike).kept (H1 := s.heap) hw.1.2) hw.2.1 (vp_in_nI hi hn) (by rw [nI_clamp (by omega)]) hdg kk
theorem r_ti (C : Cx l G own cc nL ret p s m meth c args) (hw : WH G s w H locs) {a n i : Nat} {f : Nat → Int32} (h : va_T .int a n (fun j => .int (f j)) (gA G) G.2.1 G.2.1.heap) (hi : i < n) (hn : n < 2 ^ 31) (hdg : decode cc pc = .ok (.iaload, 1))
    (kk : W p l e R s m args below meth c H locs cells slots Q (F0 m (pc + 1) ls (.int (f i) :: rest))) : W p l e R s m args below meth c H locs cells slots Q (F0 m pc ls (.int (nI i) :: .ref a :: rest)) := by
  obtain ⟨hx, hb, hr, hml, hown, hts, -, hW, hF⟩ := id C
  exact va_ti hx hb ((h.moved hW.alike).kept (H1 := s.heap) hw.1.2) hw.2.1 (vp_in_nI hi hn) (by rw [nI_clamp (by omega)]) hdg kk
end VROWS
