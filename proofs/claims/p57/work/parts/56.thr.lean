/-! Throws -/
abbrev thN : List String := ["java/lang/RuntimeException", "java/lang/Exception"]
theorem SF.unst {l : Launch} {G : Gx} (hF : SF l G) : vx_Zq Bundle.tN "UNASSIGNED_STACK" Bundle.steD (gA G) G.2.1 G.2.1.heap ∧ vx_Zq Bundle.tN "SUPPRESSED_SENTINEL" Bundle.listD (gA G) G.2.1 G.2.1.heap := by
  obtain ⟨b, hb, hn⟩ := hF.2.2.2.2
  have hs := flat_of_before _ hn
  exact ⟨vx_Zqof (hb _ (tb2 _ (List.mem_of_getElem? (i := 119) rfl))) (hb _ (LW_in _ ini_java_lang_Throwable)) (hs _ (List.mem_of_getElem? (i := 28) rfl)) (gA_no G), vx_Zqof (hb _ (tb2 _ (List.mem_of_getElem? (i := 121) rfl))) (hb _ (LW_in _ ini_java_lang_Throwable)) (hs _ (List.mem_of_getElem? (i := 29) rfl)) (gA_no G)⟩
set_option maxHeartbeats 4000000 in
set_option maxRecDepth 100000 in
theorem sr_377 {l : Launch} {G : Gx} (hF : SF l G) : ∃ a, vk_R RX11 377 "no such stall" a G.2.1 := by
  obtain ⟨b, hb, hn⟩ := hF.2.2.2.2
  have hs := flat_of_before _ hn
  obtain ⟨a, c, cA, kA, q1, -⟩ := Cond.exactly_spec (args := #[Value.ref b]) (first := G.2.1) (o := none) (s := G.2.1) (idx := []) (t := .string "DropMarket" 377) (cls := "java/lang/String") (hs _ (List.mem_of_getElem? (i := 462) rfl))
  exact ⟨a, vk_R.of (hb (Cond.stringRef RX11 377 "no such stall") (tb2 _ (List.mem_of_getElem? (i := 138) rfl))) q1⟩
set_option maxHeartbeats 4000000 in
set_option maxRecDepth 100000 in
theorem sr_382 {l : Launch} {G : Gx} (hF : SF l G) : ∃ a, vk_R RX11 382 "a number is out of range" a G.2.1 := by
  obtain ⟨b, hb, hn⟩ := hF.2.2.2.2
  have hs := flat_of_before _ hn
  obtain ⟨a, c, cA, kA, q1, -⟩ := Cond.exactly_spec (args := #[Value.ref b]) (first := G.2.1) (o := none) (s := G.2.1) (idx := []) (t := .string "DropMarket" 382) (cls := "java/lang/String") (hs _ (List.mem_of_getElem? (i := 479) rfl))
  exact ⟨a, vk_R.of (hb (Cond.stringRef RX11 382 "a number is out of range") (tb2 _ (List.mem_of_getElem? (i := 174) rfl))) q1⟩
set_option maxHeartbeats 4000000 in
set_option maxRecDepth 100000 in
theorem sr_387 {l : Launch} {G : Gx} (hF : SF l G) : ∃ a, vk_R RX11 387 "the market does not allow this now" a G.2.1 := by
  obtain ⟨b, hb, hn⟩ := hF.2.2.2.2
  have hs := flat_of_before _ hn
  obtain ⟨a, c, cA, kA, q1, -⟩ := Cond.exactly_spec (args := #[Value.ref b]) (first := G.2.1) (o := none) (s := G.2.1) (idx := []) (t := .string "DropMarket" 387) (cls := "java/lang/String") (hs _ (List.mem_of_getElem? (i := 507) rfl))
  exact ⟨a, vk_R.of (hb (Cond.stringRef RX11 387 "the market does not allow this now") (tb2 _ (List.mem_of_getElem? (i := 191) rfl))) q1⟩
set_option maxHeartbeats 4000000 in
set_option maxRecDepth 100000 in
theorem sr_394 {l : Launch} {G : Gx} (hF : SF l G) : ∃ a, vk_R RX11 394 "the stall has not enough for this" a G.2.1 := by
  obtain ⟨b, hb, hn⟩ := hF.2.2.2.2
  have hs := flat_of_before _ hn
  obtain ⟨a, c, cA, kA, q1, -⟩ := Cond.exactly_spec (args := #[Value.ref b]) (first := G.2.1) (o := none) (s := G.2.1) (idx := []) (t := .string "DropMarket" 394) (cls := "java/lang/String") (hs _ (List.mem_of_getElem? (i := 545) rfl))
  exact ⟨a, vk_R.of (hb (Cond.stringRef RX11 394 "the stall has not enough for this") (tb2 _ (List.mem_of_getElem? (i := 209) rfl))) q1⟩
set_option maxHeartbeats 4000000 in
set_option maxRecDepth 100000 in
theorem sr_400 {l : Launch} {G : Gx} (hF : SF l G) : ∃ a, vk_R RX11 400 "no such order" a G.2.1 := by
  obtain ⟨b, hb, hn⟩ := hF.2.2.2.2
  have hs := flat_of_before _ hn
  obtain ⟨a, c, cA, kA, q1, -⟩ := Cond.exactly_spec (args := #[Value.ref b]) (first := G.2.1) (o := none) (s := G.2.1) (idx := []) (t := .string "DropMarket" 400) (cls := "java/lang/String") (hs _ (List.mem_of_getElem? (i := 582) rfl))
  exact ⟨a, vk_R.of (hb (Cond.stringRef RX11 400 "no such order") (tb2 _ (List.mem_of_getElem? (i := 227) rfl))) q1⟩
set_option maxHeartbeats 4000000 in
set_option maxRecDepth 100000 in
theorem sr_170 {l : Launch} {G : Gx} (hF : SF l G) : ∃ a, vk_R RX11 170 "no such position" a G.2.1 := by
  obtain ⟨b, hb, hn⟩ := hF.2.2.2.2
  have hs := flat_of_before _ hn
  obtain ⟨a, c, cA, kA, q1, -⟩ := Cond.exactly_spec (args := #[Value.ref b]) (first := G.2.1) (o := none) (s := G.2.1) (idx := []) (t := .string "DropMarket" 170) (cls := "java/lang/String") (hs _ (List.mem_of_getElem? (i := 599) rfl))
  exact ⟨a, vk_R.of (hb (Cond.stringRef RX11 170 "no such position") (tb4 _ (List.mem_of_getElem? (i := 83) rfl))) q1⟩
set_option maxHeartbeats 4000000 in
set_option maxRecDepth 100000 in
theorem sr_156 {l : Launch} {G : Gx} (hF : SF l G) : ∃ a, vk_R RX11 156 "no such rank" a G.2.1 := by
  obtain ⟨b, hb, hn⟩ := hF.2.2.2.2
  have hs := flat_of_before _ hn
  obtain ⟨a, c, cA, kA, q1, -⟩ := Cond.exactly_spec (args := #[Value.ref b]) (first := G.2.1) (o := none) (s := G.2.1) (idx := []) (t := .string "DropMarket" 156) (cls := "java/lang/String") (hs _ (List.mem_of_getElem? (i := 619) rfl))
  exact ⟨a, vk_R.of (hb (Cond.stringRef RX11 156 "no such rank") (tb4 _ (List.mem_of_getElem? (i := 126) rfl))) q1⟩
set_option maxHeartbeats 4000000 in
set_option maxRecDepth 100000 in
theorem sr_196 {l : Launch} {G : Gx} (hF : SF l G) : ∃ a, vk_R RX11 196 "the order does not expire" a G.2.1 := by
  obtain ⟨b, hb, hn⟩ := hF.2.2.2.2
  have hs := flat_of_before _ hn
  obtain ⟨a, c, cA, kA, q1, -⟩ := Cond.exactly_spec (args := #[Value.ref b]) (first := G.2.1) (o := none) (s := G.2.1) (idx := []) (t := .string "DropMarket" 196) (cls := "java/lang/String") (hs _ (List.mem_of_getElem? (i := 635) rfl))
  exact ⟨a, vk_R.of (hb (Cond.stringRef RX11 196 "the order does not expire") (tb4 _ (List.mem_of_getElem? (i := 177) rfl))) q1⟩
set_option maxHeartbeats 4000000 in
set_option maxRecDepth 100000 in
theorem sr_408 {l : Launch} {G : Gx} (hF : SF l G) : ∃ a, vk_R RX11 408 "the price is out of range" a G.2.1 := by
  obtain ⟨b, hb, hn⟩ := hF.2.2.2.2
  have hs := flat_of_before _ hn
  obtain ⟨a, c, cA, kA, q1, -⟩ := Cond.exactly_spec (args := #[Value.ref b]) (first := G.2.1) (o := none) (s := G.2.1) (idx := []) (t := .string "DropMarket" 408) (cls := "java/lang/String") (hs _ (List.mem_of_getElem? (i := 664) rfl))
  exact ⟨a, vk_R.of (hb (Cond.stringRef RX11 408 "the price is out of range") (tb4 _ (List.mem_of_getElem? (i := 191) rfl))) q1⟩
set_option maxHeartbeats 4000000 in
set_option maxRecDepth 100000 in
theorem sr_241 {l : Launch} {G : Gx} (hF : SF l G) : ∃ a, vk_R RX11 241 "there are no orders" a G.2.1 := by
  obtain ⟨b, hb, hn⟩ := hF.2.2.2.2
  have hs := flat_of_before _ hn
  obtain ⟨a, c, cA, kA, q1, -⟩ := Cond.exactly_spec (args := #[Value.ref b]) (first := G.2.1) (o := none) (s := G.2.1) (idx := []) (t := .string "DropMarket" 241) (cls := "java/lang/String") (hs _ (List.mem_of_getElem? (i := 693) rfl))
  exact ⟨a, vk_R.of (hb (Cond.stringRef RX11 241 "there are no orders") (tb4 _ (List.mem_of_getElem? (i := 216) rfl))) q1⟩
set_option maxHeartbeats 4000000 in
set_option maxRecDepth 100000 in
theorem sr_417 {l : Launch} {G : Gx} (hF : SF l G) : ∃ a, vk_R RX11 417 "there is no order on this side" a G.2.1 := by
  obtain ⟨b, hb, hn⟩ := hF.2.2.2.2
  have hs := flat_of_before _ hn
  obtain ⟨a, c, cA, kA, q1, -⟩ := Cond.exactly_spec (args := #[Value.ref b]) (first := G.2.1) (o := none) (s := G.2.1) (idx := []) (t := .string "DropMarket" 417) (cls := "java/lang/String") (hs _ (List.mem_of_getElem? (i := 716) rfl))
  exact ⟨a, vk_R.of (hb (Cond.stringRef RX11 417 "there is no order on this side") (tb4 _ (List.mem_of_getElem? (i := 239) rfl))) q1⟩
set_option maxHeartbeats 4000000 in
set_option maxRecDepth 100000 in
theorem sr_410 {l : Launch} {G : Gx} (hF : SF l G) : ∃ a, vk_R RX11 410 "one side has no order" a G.2.1 := by
  obtain ⟨b, hb, hn⟩ := hF.2.2.2.2
  have hs := flat_of_before _ hn
  obtain ⟨a, c, cA, kA, q1, -⟩ := Cond.exactly_spec (args := #[Value.ref b]) (first := G.2.1) (o := none) (s := G.2.1) (idx := []) (t := .string "DropMarket" 410) (cls := "java/lang/String") (hs _ (List.mem_of_getElem? (i := 750) rfl))
  exact ⟨a, vk_R.of (hb (Cond.stringRef RX11 410 "one side has no order") (tb5 _ (List.mem_of_getElem? (i := 22) rfl))) q1⟩
set_option maxHeartbeats 4000000 in
set_option maxRecDepth 100000 in
theorem sr_226 {l : Launch} {G : Gx} (hF : SF l G) : ∃ a, vk_R RX11 226 "there was no trade" a G.2.1 := by
  obtain ⟨b, hb, hn⟩ := hF.2.2.2.2
  have hs := flat_of_before _ hn
  obtain ⟨a, c, cA, kA, q1, -⟩ := Cond.exactly_spec (args := #[Value.ref b]) (first := G.2.1) (o := none) (s := G.2.1) (idx := []) (t := .string "DropMarket" 226) (cls := "java/lang/String") (hs _ (List.mem_of_getElem? (i := 775) rfl))
  exact ⟨a, vk_R.of (hb (Cond.stringRef RX11 226 "there was no trade") (tb5 _ (List.mem_of_getElem? (i := 68) rfl))) q1⟩
set_option maxHeartbeats 4000000 in
set_option maxRecDepth 100000 in
theorem sr_412 {l : Launch} {G : Gx} (hF : SF l G) : ∃ a, vk_R RX11 412 "the greatest volume is 0" a G.2.1 := by
  obtain ⟨b, hb, hn⟩ := hF.2.2.2.2
  have hs := flat_of_before _ hn
  obtain ⟨a, c, cA, kA, q1, -⟩ := Cond.exactly_spec (args := #[Value.ref b]) (first := G.2.1) (o := none) (s := G.2.1) (idx := []) (t := .string "DropMarket" 412) (cls := "java/lang/String") (hs _ (List.mem_of_getElem? (i := 797) rfl))
  exact ⟨a, vk_R.of (hb (Cond.stringRef RX11 412 "the greatest volume is 0") (tb5 _ (List.mem_of_getElem? (i := 95) rfl))) q1⟩
set_option maxHeartbeats 4000000 in
set_option maxRecDepth 100000 in
theorem sr_283 {l : Launch} {G : Gx} (hF : SF l G) : ∃ a, vk_R RX11 283 "no such character" a G.2.1 := by
  obtain ⟨b, hb, hn⟩ := hF.2.2.2.2
  have hs := flat_of_before _ hn
  obtain ⟨a, c, cA, kA, q1, -⟩ := Cond.exactly_spec (args := #[Value.ref b]) (first := G.2.1) (o := none) (s := G.2.1) (idx := []) (t := .string "DropMarket" 283) (cls := "java/lang/String") (hs _ (List.mem_of_getElem? (i := 943) rfl))
  exact ⟨a, vk_R.of (hb (Cond.stringRef RX11 283 "no such character") (tb6 _ (List.mem_of_getElem? (i := 185) rfl))) q1⟩
set_option maxHeartbeats 4000000 in
set_option maxRecDepth 100000 in
theorem sr_300 {l : Launch} {G : Gx} (hF : SF l G) : ∃ a, vk_R RX11 300 "not a character for the buffer" a G.2.1 := by
  obtain ⟨b, hb, hn⟩ := hF.2.2.2.2
  have hs := flat_of_before _ hn
  obtain ⟨a, c, cA, kA, q1, -⟩ := Cond.exactly_spec (args := #[Value.ref b]) (first := G.2.1) (o := none) (s := G.2.1) (idx := []) (t := .string "DropMarket" 300) (cls := "java/lang/String") (hs _ (List.mem_of_getElem? (i := 1010) rfl))
  exact ⟨a, vk_R.of (hb (Cond.stringRef RX11 300 "not a character for the buffer") (tb7 _ (List.mem_of_getElem? (i := 29) rfl))) q1⟩
set_option maxHeartbeats 4000000 in
set_option maxRecDepth 100000 in
theorem sr_306 {l : Launch} {G : Gx} (hF : SF l G) : ∃ a, vk_R RX11 306 "the buffer is full" a G.2.1 := by
  obtain ⟨b, hb, hn⟩ := hF.2.2.2.2
  have hs := flat_of_before _ hn
  obtain ⟨a, c, cA, kA, q1, -⟩ := Cond.exactly_spec (args := #[Value.ref b]) (first := G.2.1) (o := none) (s := G.2.1) (idx := []) (t := .string "DropMarket" 306) (cls := "java/lang/String") (hs _ (List.mem_of_getElem? (i := 1044) rfl))
  exact ⟨a, vk_R.of (hb (Cond.stringRef RX11 306 "the buffer is full") (tb7 _ (List.mem_of_getElem? (i := 35) rfl))) q1⟩
set_option maxHeartbeats 4000000 in
set_option maxRecDepth 100000 in
theorem sr_320 {l : Launch} {G : Gx} (hF : SF l G) : ∃ a, vk_R RX11 320 "the text is malformed" a G.2.1 := by
  obtain ⟨b, hb, hn⟩ := hF.2.2.2.2
  have hs := flat_of_before _ hn
  obtain ⟨a, c, cA, kA, q1, -⟩ := Cond.exactly_spec (args := #[Value.ref b]) (first := G.2.1) (o := none) (s := G.2.1) (idx := []) (t := .string "DropMarket" 320) (cls := "java/lang/String") (hs _ (List.mem_of_getElem? (i := 1066) rfl))
  exact ⟨a, vk_R.of (hb (Cond.stringRef RX11 320 "the text is malformed") (tb7 _ (List.mem_of_getElem? (i := 100) rfl))) q1⟩
set_option maxHeartbeats 4000000 in
set_option maxRecDepth 100000 in
theorem sr_343 {l : Launch} {G : Gx} (hF : SF l G) : ∃ a, vk_R RX11 343 "a command failed" a G.2.1 := by
  obtain ⟨b, hb, hn⟩ := hF.2.2.2.2
  have hs := flat_of_before _ hn
  obtain ⟨a, c, cA, kA, q1, -⟩ := Cond.exactly_spec (args := #[Value.ref b]) (first := G.2.1) (o := none) (s := G.2.1) (idx := []) (t := .string "DropMarket" 343) (cls := "java/lang/String") (hs _ (List.mem_of_getElem? (i := 1091) rfl))
  exact ⟨a, vk_R.of (hb (Cond.stringRef RX11 343 "a command failed") (tb7 _ (List.mem_of_getElem? (i := 121) rfl))) q1⟩
set_option maxHeartbeats 4000000 in
set_option maxRecDepth 100000 in
theorem sr_352 {l : Launch} {G : Gx} (hF : SF l G) : ∃ a, vk_R RX11 352 "nothing can be undone" a G.2.1 := by
  obtain ⟨b, hb, hn⟩ := hF.2.2.2.2
  have hs := flat_of_before _ hn
  obtain ⟨a, c, cA, kA, q1, -⟩ := Cond.exactly_spec (args := #[Value.ref b]) (first := G.2.1) (o := none) (s := G.2.1) (idx := []) (t := .string "DropMarket" 352) (cls := "java/lang/String") (hs _ (List.mem_of_getElem? (i := 1111) rfl))
  exact ⟨a, vk_R.of (hb (Cond.stringRef RX11 352 "nothing can be undone") (tb7 _ (List.mem_of_getElem? (i := 129) rfl))) q1⟩
section THR
variable {p : Program} {l : Launch} {e : Env} {R : Room} {s : State} {m : MethodId} {args : Array Value} {below : List Frame} {meth : Method} {c : Code} {H : Heap} {locs : List Loc} {cells slots : Nat} {Q : State → Prop}
variable {G : Gx} {own : String} {cc : ByteArray} {nL : Nat} {ret : Option FieldType} {pc : Nat} {ls : Array Slot} {rest st : List Value} {w : va_W}
abbrev thD (y : String) : Cond := .declares ⟨y, "<init>", "(Ljava/lang/String;)V"⟩
theorem fw_mv (C : Cx l G own cc nL ret p s m meth c args) {w : Cond} {b : Addr} (hf : w.faceAtom = true) (ht : w.onTables = true) (h : w.before #[.ref b] G.2.1 = true) : w.before args s = true :=
  (Cond.onTables_vm (A := #[.ref b]) (A' := args) (U := G.2.1) (U' := s) s.vm w ht).symm.trans (Cond.faceAtom_setVm C.2.2.2.2.2.2.2.1.alike w hf h)
theorem thr_hx (hw : WH G s w H locs) {px : Nat → Prop} {Wx : Nat → va_W} {k : Nat} (hp : px k) (hW : w = Wx k) {t : State} (h1 : H.size ≤ t.heap.size) (h2 : ∀ q : Nat, q < H.size → t.heap[q]? = H[q]?) : XQ G px Wx (exN k) s t := by
  have hF : va_F (gA G) s t := ⟨Nat.le_trans hw.2.1.1 h1, fun q hq hA => (h2 q (Nat.lt_of_lt_of_le hq hw.2.1.1)).trans (hw.2.1.2.1 q hq hA)⟩
  refine ⟨k, hp, ⟨rfl, ⟨Nat.le_trans hw.1.1 hF.1, fun q hq hA => (hF.2 q (Nat.lt_of_lt_of_le hq hw.1.1) hA).trans (hw.1.2 q hq hA)⟩, ?_, hW ▸ hw.2.2.2⟩, hF⟩
  rw [← hW]
  exact hw.2.2.1.kept (fun i x hx => h2 x.1 (hw.2.2.1 i x hx).lt)
set_option maxHeartbeats 4000000 in
set_option maxRecDepth 100000 in
theorem tw_1 : ∀ w ∈ (vx_atS RX11 172 "java/lang/IndexOutOfBoundsException" thN).filter goodWord, w ∈ lw_tbl := by decide +kernel
set_option maxHeartbeats 4000000 in
set_option maxRecDepth 100000 in
theorem tn_1 : ∀ w ∈ (vx_atS RX11 172 "java/lang/IndexOutOfBoundsException" thN).filter (fun w => !goodWord w), w ∈ [Cond.castable "java/lang/IndexOutOfBoundsException" "java/lang/IndexOutOfBoundsException", thD "java/lang/RuntimeException", thD "java/lang/Exception", thD "java/lang/Throwable"] := by decide +kernel
set_option maxHeartbeats 4000000 in
set_option maxRecDepth 100000 in
theorem tg_1 : ∀ w ∈ Cond.classLink RX11 168 "java/lang/IndexOutOfBoundsException" :: Cond.initialized "java/lang/IndexOutOfBoundsException" :: vx_atS RX11 172 "java/lang/IndexOutOfBoundsException" thN, vx_ot w = true := by decide +kernel
theorem ta_1 (C : Cx l G own cc nL ret p s m meth c args) : ∀ w ∈ vx_atS RX11 172 "java/lang/IndexOutOfBoundsException" thN, w.before args s = true := by
  obtain ⟨b, hb, -⟩ := C.2.2.2.2.2.2.2.2.2.2.2.2
  exact vx_hat (fun w hw => C.2.2.2.2.2.1 w (lwm (tw_1 w hw) (List.mem_filter.mp hw).2)) tn_1 (vx_c (fw_mv C rfl rfl (hb _ (tb2 _ (List.mem_of_getElem? (i := 94) rfl)))) (vx_c (fw_mv C rfl rfl (hb _ (tb2 _ (List.mem_of_getElem? (i := 96) rfl)))) (vx_c (fw_mv C rfl rfl (hb _ (tb2 _ (List.mem_of_getElem? (i := 98) rfl)))) (vx_c (fw_mv C rfl rfl (hb _ (tb2 _ (List.mem_of_getElem? (i := 100) rfl)))) vx_n))))
theorem x_thr1 (C : Cx l G RX11 cc nL ret p s m meth c args) (hw : WH G s w H locs) {Qc : Array Value → State → Outcome → State → Prop} {px : Nat → Prop} {Wx : Nat → va_W} {is mc ms : Nat} {tx : String} (hsr : ∃ a, vk_R RX11 is tx a G.2.1) (hp : px 1) (hWx : w = Wx 1) (hnt : ∀ x ∈ c.exceptionTable.toList, False) (hsz : ls.size = nL)
    (d0 : decode cc pc = .ok (.new 168, 3)) (d3 : decode cc (pc + 3) = .ok (.dup, 1)) (d4 : decode cc (pc + 4) = .ok (.ldc is, 2)) (d6 : decode cc (pc + 6) = .ok (.invokespecial 172, 3)) (d9 : decode cc (pc + 9) = .ok (.athrow, 1))
    (hR1 : 5 < R.frames) (hR2 : (rest.map fun v => v.category).sum + 82 ≤ R.locals) (hR3 : cells + 1 ≤ R.cells) (hR4 : slots + 6 ≤ R.slots) (hc : cells + 1 ≤ mc) (hs : slots + 6 ≤ ms) :
    W p l e R s m args below meth c H locs cells slots (vx_MQ below Qc (XQ G px Wx) args s mc ms (gA G)) (F0 m pc ls rest) := by
  obtain ⟨sa, hsa⟩ := hsr
  have hF := C.2.2.2.2.2.2.2.2
  have hW := C.2.2.2.2.2.2.2.1
  exact vx_throwS (own := RX11) (cls := "java/lang/IndexOutOfBoundsException") (names := thN) (A := gA G) C.1 C.2.1 hF.1 C.2.2.2.2.1 (by decide +kernel) (by decide +kernel) (C.2.2.2.2.2.1 _ cl_X11_168) (C.2.2.2.2.2.1 _ ini_java_lang_IndexOutOfBoundsException) (vk_R.warm hW hsa) (ta_1 C) tg_1 ((vx_Zq.moved hW.alike hF.unst.1).kept (H1 := s.heap) hw.1.2) ((vx_Zq.moved hW.alike hF.unst.2).kept (H1 := s.heap) hw.1.2) hw.2.1 (hsz.trans C.2.2.2.1.symm) d0 d3 d4 d6 d9 (fun x hx => (hnt x hx).elim) (by simpa using hR1) (by simpa using hR2) hR3 hR4 C.2.2.2.2.2.2.1 (fun t _ h1 h2 => thr_hx hw hp hWx h1 h2) hw.2.1.2.2 hc hs
theorem x_thr1W (C : Cx l G RX11 cc nL ret p s m meth c args) (hw : WH G s w H locs) {Qc : Array Value → State → Outcome → State → Prop} {px : Nat → Prop} {Wx : Nat → va_W} {is mc ms : Nat} {tx : String} (hsr : ∃ a, vk_R RX11 is tx a G.2.1) (hp : px 1) (hWx : w = Wx 1) (hnt : ∀ x ∈ c.exceptionTable.toList, False) (hsz : ls.size = nL)
    (d0 : decode cc pc = .ok (.new 168, 3)) (d3 : decode cc (pc + 3) = .ok (.dup, 1)) (d4 : decode cc (pc + 4) = .ok (.ldc_w is, 3)) (d6 : decode cc (pc + 7) = .ok (.invokespecial 172, 3)) (d9 : decode cc (pc + 10) = .ok (.athrow, 1))
    (hR1 : 5 < R.frames) (hR2 : (rest.map fun v => v.category).sum + 82 ≤ R.locals) (hR3 : cells + 1 ≤ R.cells) (hR4 : slots + 6 ≤ R.slots) (hc : cells + 1 ≤ mc) (hs : slots + 6 ≤ ms) :
    W p l e R s m args below meth c H locs cells slots (vx_MQ below Qc (XQ G px Wx) args s mc ms (gA G)) (F0 m pc ls rest) := by
  obtain ⟨sa, hsa⟩ := hsr
  have hF := C.2.2.2.2.2.2.2.2
  have hW := C.2.2.2.2.2.2.2.1
  exact vx_throwSW (own := RX11) (cls := "java/lang/IndexOutOfBoundsException") (names := thN) (A := gA G) C.1 C.2.1 hF.1 C.2.2.2.2.1 (by decide +kernel) (by decide +kernel) (C.2.2.2.2.2.1 _ cl_X11_168) (C.2.2.2.2.2.1 _ ini_java_lang_IndexOutOfBoundsException) (vk_R.warm hW hsa) (ta_1 C) tg_1 ((vx_Zq.moved hW.alike hF.unst.1).kept (H1 := s.heap) hw.1.2) ((vx_Zq.moved hW.alike hF.unst.2).kept (H1 := s.heap) hw.1.2) hw.2.1 (hsz.trans C.2.2.2.1.symm) d0 d3 d4 d6 d9 (fun x hx => (hnt x hx).elim) (by simpa using hR1) (by simpa using hR2) hR3 hR4 C.2.2.2.2.2.2.1 (fun t _ h1 h2 => thr_hx hw hp hWx h1 h2) hw.2.1.2.2 hc hs
set_option maxHeartbeats 4000000 in
set_option maxRecDepth 100000 in
theorem tw_2 : ∀ w ∈ (vx_atS RX11 302 "java/lang/IllegalArgumentException" thN).filter goodWord, w ∈ lw_tbl := by decide +kernel
set_option maxHeartbeats 4000000 in
set_option maxRecDepth 100000 in
theorem tn_2 : ∀ w ∈ (vx_atS RX11 302 "java/lang/IllegalArgumentException" thN).filter (fun w => !goodWord w), w ∈ [Cond.castable "java/lang/IllegalArgumentException" "java/lang/IllegalArgumentException", thD "java/lang/RuntimeException", thD "java/lang/Exception", thD "java/lang/Throwable"] := by decide +kernel
set_option maxHeartbeats 4000000 in
set_option maxRecDepth 100000 in
theorem tg_2 : ∀ w ∈ Cond.classLink RX11 298 "java/lang/IllegalArgumentException" :: Cond.initialized "java/lang/IllegalArgumentException" :: vx_atS RX11 302 "java/lang/IllegalArgumentException" thN, vx_ot w = true := by decide +kernel
theorem ta_2 (C : Cx l G own cc nL ret p s m meth c args) : ∀ w ∈ vx_atS RX11 302 "java/lang/IllegalArgumentException" thN, w.before args s = true := by
  obtain ⟨b, hb, -⟩ := C.2.2.2.2.2.2.2.2.2.2.2.2
  exact vx_hat (fun w hw => C.2.2.2.2.2.1 w (lwm (tw_2 w hw) (List.mem_filter.mp hw).2)) tn_2 (vx_c (fw_mv C rfl rfl (hb _ (tb2 _ (List.mem_of_getElem? (i := 167) rfl)))) (vx_c (fw_mv C rfl rfl (hb _ (tb2 _ (List.mem_of_getElem? (i := 96) rfl)))) (vx_c (fw_mv C rfl rfl (hb _ (tb2 _ (List.mem_of_getElem? (i := 98) rfl)))) (vx_c (fw_mv C rfl rfl (hb _ (tb2 _ (List.mem_of_getElem? (i := 100) rfl)))) vx_n))))
theorem x_thr2 (C : Cx l G RX11 cc nL ret p s m meth c args) (hw : WH G s w H locs) {Qc : Array Value → State → Outcome → State → Prop} {px : Nat → Prop} {Wx : Nat → va_W} {is mc ms : Nat} {tx : String} (hsr : ∃ a, vk_R RX11 is tx a G.2.1) (hp : px 2) (hWx : w = Wx 2) (hnt : ∀ x ∈ c.exceptionTable.toList, False) (hsz : ls.size = nL)
    (d0 : decode cc pc = .ok (.new 298, 3)) (d3 : decode cc (pc + 3) = .ok (.dup, 1)) (d4 : decode cc (pc + 4) = .ok (.ldc is, 2)) (d6 : decode cc (pc + 6) = .ok (.invokespecial 302, 3)) (d9 : decode cc (pc + 9) = .ok (.athrow, 1))
    (hR1 : 5 < R.frames) (hR2 : (rest.map fun v => v.category).sum + 82 ≤ R.locals) (hR3 : cells + 1 ≤ R.cells) (hR4 : slots + 6 ≤ R.slots) (hc : cells + 1 ≤ mc) (hs : slots + 6 ≤ ms) :
    W p l e R s m args below meth c H locs cells slots (vx_MQ below Qc (XQ G px Wx) args s mc ms (gA G)) (F0 m pc ls rest) := by
  obtain ⟨sa, hsa⟩ := hsr
  have hF := C.2.2.2.2.2.2.2.2
  have hW := C.2.2.2.2.2.2.2.1
  exact vx_throwS (own := RX11) (cls := "java/lang/IllegalArgumentException") (names := thN) (A := gA G) C.1 C.2.1 hF.1 C.2.2.2.2.1 (by decide +kernel) (by decide +kernel) (C.2.2.2.2.2.1 _ cl_X11_298) (C.2.2.2.2.2.1 _ ini_java_lang_IllegalArgumentException) (vk_R.warm hW hsa) (ta_2 C) tg_2 ((vx_Zq.moved hW.alike hF.unst.1).kept (H1 := s.heap) hw.1.2) ((vx_Zq.moved hW.alike hF.unst.2).kept (H1 := s.heap) hw.1.2) hw.2.1 (hsz.trans C.2.2.2.1.symm) d0 d3 d4 d6 d9 (fun x hx => (hnt x hx).elim) (by simpa using hR1) (by simpa using hR2) hR3 hR4 C.2.2.2.2.2.2.1 (fun t _ h1 h2 => thr_hx hw hp hWx h1 h2) hw.2.1.2.2 hc hs
theorem x_thr2W (C : Cx l G RX11 cc nL ret p s m meth c args) (hw : WH G s w H locs) {Qc : Array Value → State → Outcome → State → Prop} {px : Nat → Prop} {Wx : Nat → va_W} {is mc ms : Nat} {tx : String} (hsr : ∃ a, vk_R RX11 is tx a G.2.1) (hp : px 2) (hWx : w = Wx 2) (hnt : ∀ x ∈ c.exceptionTable.toList, False) (hsz : ls.size = nL)
    (d0 : decode cc pc = .ok (.new 298, 3)) (d3 : decode cc (pc + 3) = .ok (.dup, 1)) (d4 : decode cc (pc + 4) = .ok (.ldc_w is, 3)) (d6 : decode cc (pc + 7) = .ok (.invokespecial 302, 3)) (d9 : decode cc (pc + 10) = .ok (.athrow, 1))
    (hR1 : 5 < R.frames) (hR2 : (rest.map fun v => v.category).sum + 82 ≤ R.locals) (hR3 : cells + 1 ≤ R.cells) (hR4 : slots + 6 ≤ R.slots) (hc : cells + 1 ≤ mc) (hs : slots + 6 ≤ ms) :
    W p l e R s m args below meth c H locs cells slots (vx_MQ below Qc (XQ G px Wx) args s mc ms (gA G)) (F0 m pc ls rest) := by
  obtain ⟨sa, hsa⟩ := hsr
  have hF := C.2.2.2.2.2.2.2.2
  have hW := C.2.2.2.2.2.2.2.1
  exact vx_throwSW (own := RX11) (cls := "java/lang/IllegalArgumentException") (names := thN) (A := gA G) C.1 C.2.1 hF.1 C.2.2.2.2.1 (by decide +kernel) (by decide +kernel) (C.2.2.2.2.2.1 _ cl_X11_298) (C.2.2.2.2.2.1 _ ini_java_lang_IllegalArgumentException) (vk_R.warm hW hsa) (ta_2 C) tg_2 ((vx_Zq.moved hW.alike hF.unst.1).kept (H1 := s.heap) hw.1.2) ((vx_Zq.moved hW.alike hF.unst.2).kept (H1 := s.heap) hw.1.2) hw.2.1 (hsz.trans C.2.2.2.1.symm) d0 d3 d4 d6 d9 (fun x hx => (hnt x hx).elim) (by simpa using hR1) (by simpa using hR2) hR3 hR4 C.2.2.2.2.2.2.1 (fun t _ h1 h2 => thr_hx hw hp hWx h1 h2) hw.2.1.2.2 hc hs
set_option maxHeartbeats 4000000 in
set_option maxRecDepth 100000 in
theorem tw_3 : ∀ w ∈ (vx_atS RX11 198 "java/lang/IllegalStateException" thN).filter goodWord, w ∈ lw_tbl := by decide +kernel
set_option maxHeartbeats 4000000 in
set_option maxRecDepth 100000 in
theorem tn_3 : ∀ w ∈ (vx_atS RX11 198 "java/lang/IllegalStateException" thN).filter (fun w => !goodWord w), w ∈ [Cond.castable "java/lang/IllegalStateException" "java/lang/IllegalStateException", thD "java/lang/RuntimeException", thD "java/lang/Exception", thD "java/lang/Throwable"] := by decide +kernel
set_option maxHeartbeats 4000000 in
set_option maxRecDepth 100000 in
theorem tg_3 : ∀ w ∈ Cond.classLink RX11 194 "java/lang/IllegalStateException" :: Cond.initialized "java/lang/IllegalStateException" :: vx_atS RX11 198 "java/lang/IllegalStateException" thN, vx_ot w = true := by decide +kernel
theorem ta_3 (C : Cx l G own cc nL ret p s m meth c args) : ∀ w ∈ vx_atS RX11 198 "java/lang/IllegalStateException" thN, w.before args s = true := by
  obtain ⟨b, hb, -⟩ := C.2.2.2.2.2.2.2.2.2.2.2.2
  exact vx_hat (fun w hw => C.2.2.2.2.2.1 w (lwm (tw_3 w hw) (List.mem_filter.mp hw).2)) tn_3 (vx_c (fw_mv C rfl rfl (hb _ (tb2 _ (List.mem_of_getElem? (i := 184) rfl)))) (vx_c (fw_mv C rfl rfl (hb _ (tb2 _ (List.mem_of_getElem? (i := 96) rfl)))) (vx_c (fw_mv C rfl rfl (hb _ (tb2 _ (List.mem_of_getElem? (i := 98) rfl)))) (vx_c (fw_mv C rfl rfl (hb _ (tb2 _ (List.mem_of_getElem? (i := 100) rfl)))) vx_n))))
theorem x_thr3 (C : Cx l G RX11 cc nL ret p s m meth c args) (hw : WH G s w H locs) {Qc : Array Value → State → Outcome → State → Prop} {px : Nat → Prop} {Wx : Nat → va_W} {is mc ms : Nat} {tx : String} (hsr : ∃ a, vk_R RX11 is tx a G.2.1) (hp : px 3) (hWx : w = Wx 3) (hnt : ∀ x ∈ c.exceptionTable.toList, False) (hsz : ls.size = nL)
    (d0 : decode cc pc = .ok (.new 194, 3)) (d3 : decode cc (pc + 3) = .ok (.dup, 1)) (d4 : decode cc (pc + 4) = .ok (.ldc is, 2)) (d6 : decode cc (pc + 6) = .ok (.invokespecial 198, 3)) (d9 : decode cc (pc + 9) = .ok (.athrow, 1))
    (hR1 : 5 < R.frames) (hR2 : (rest.map fun v => v.category).sum + 82 ≤ R.locals) (hR3 : cells + 1 ≤ R.cells) (hR4 : slots + 6 ≤ R.slots) (hc : cells + 1 ≤ mc) (hs : slots + 6 ≤ ms) :
    W p l e R s m args below meth c H locs cells slots (vx_MQ below Qc (XQ G px Wx) args s mc ms (gA G)) (F0 m pc ls rest) := by
  obtain ⟨sa, hsa⟩ := hsr
  have hF := C.2.2.2.2.2.2.2.2
  have hW := C.2.2.2.2.2.2.2.1
  exact vx_throwS (own := RX11) (cls := "java/lang/IllegalStateException") (names := thN) (A := gA G) C.1 C.2.1 hF.1 C.2.2.2.2.1 (by decide +kernel) (by decide +kernel) (C.2.2.2.2.2.1 _ cl_X11_194) (C.2.2.2.2.2.1 _ ini_java_lang_IllegalStateException) (vk_R.warm hW hsa) (ta_3 C) tg_3 ((vx_Zq.moved hW.alike hF.unst.1).kept (H1 := s.heap) hw.1.2) ((vx_Zq.moved hW.alike hF.unst.2).kept (H1 := s.heap) hw.1.2) hw.2.1 (hsz.trans C.2.2.2.1.symm) d0 d3 d4 d6 d9 (fun x hx => (hnt x hx).elim) (by simpa using hR1) (by simpa using hR2) hR3 hR4 C.2.2.2.2.2.2.1 (fun t _ h1 h2 => thr_hx hw hp hWx h1 h2) hw.2.1.2.2 hc hs
theorem x_thr3W (C : Cx l G RX11 cc nL ret p s m meth c args) (hw : WH G s w H locs) {Qc : Array Value → State → Outcome → State → Prop} {px : Nat → Prop} {Wx : Nat → va_W} {is mc ms : Nat} {tx : String} (hsr : ∃ a, vk_R RX11 is tx a G.2.1) (hp : px 3) (hWx : w = Wx 3) (hnt : ∀ x ∈ c.exceptionTable.toList, False) (hsz : ls.size = nL)
    (d0 : decode cc pc = .ok (.new 194, 3)) (d3 : decode cc (pc + 3) = .ok (.dup, 1)) (d4 : decode cc (pc + 4) = .ok (.ldc_w is, 3)) (d6 : decode cc (pc + 7) = .ok (.invokespecial 198, 3)) (d9 : decode cc (pc + 10) = .ok (.athrow, 1))
    (hR1 : 5 < R.frames) (hR2 : (rest.map fun v => v.category).sum + 82 ≤ R.locals) (hR3 : cells + 1 ≤ R.cells) (hR4 : slots + 6 ≤ R.slots) (hc : cells + 1 ≤ mc) (hs : slots + 6 ≤ ms) :
    W p l e R s m args below meth c H locs cells slots (vx_MQ below Qc (XQ G px Wx) args s mc ms (gA G)) (F0 m pc ls rest) := by
  obtain ⟨sa, hsa⟩ := hsr
  have hF := C.2.2.2.2.2.2.2.2
  have hW := C.2.2.2.2.2.2.2.1
  exact vx_throwSW (own := RX11) (cls := "java/lang/IllegalStateException") (names := thN) (A := gA G) C.1 C.2.1 hF.1 C.2.2.2.2.1 (by decide +kernel) (by decide +kernel) (C.2.2.2.2.2.1 _ cl_X11_194) (C.2.2.2.2.2.1 _ ini_java_lang_IllegalStateException) (vk_R.warm hW hsa) (ta_3 C) tg_3 ((vx_Zq.moved hW.alike hF.unst.1).kept (H1 := s.heap) hw.1.2) ((vx_Zq.moved hW.alike hF.unst.2).kept (H1 := s.heap) hw.1.2) hw.2.1 (hsz.trans C.2.2.2.1.symm) d0 d3 d4 d6 d9 (fun x hx => (hnt x hx).elim) (by simpa using hR1) (by simpa using hR2) hR3 hR4 C.2.2.2.2.2.2.1 (fun t _ h1 h2 => thr_hx hw hp hWx h1 h2) hw.2.1.2.2 hc hs
set_option maxHeartbeats 4000000 in
set_option maxRecDepth 100000 in
theorem tw_4 : ∀ w ∈ (vx_atS RX11 396 "java/lang/UnsupportedOperationException" thN).filter goodWord, w ∈ lw_tbl := by decide +kernel
set_option maxHeartbeats 4000000 in
set_option maxRecDepth 100000 in
theorem tn_4 : ∀ w ∈ (vx_atS RX11 396 "java/lang/UnsupportedOperationException" thN).filter (fun w => !goodWord w), w ∈ [Cond.castable "java/lang/UnsupportedOperationException" "java/lang/UnsupportedOperationException", thD "java/lang/RuntimeException", thD "java/lang/Exception", thD "java/lang/Throwable"] := by decide +kernel
set_option maxHeartbeats 4000000 in
set_option maxRecDepth 100000 in
theorem tg_4 : ∀ w ∈ Cond.classLink RX11 392 "java/lang/UnsupportedOperationException" :: Cond.initialized "java/lang/UnsupportedOperationException" :: vx_atS RX11 396 "java/lang/UnsupportedOperationException" thN, vx_ot w = true := by decide +kernel
theorem ta_4 (C : Cx l G own cc nL ret p s m meth c args) : ∀ w ∈ vx_atS RX11 396 "java/lang/UnsupportedOperationException" thN, w.before args s = true := by
  obtain ⟨b, hb, -⟩ := C.2.2.2.2.2.2.2.2.2.2.2.2
  exact vx_hat (fun w hw => C.2.2.2.2.2.1 w (lwm (tw_4 w hw) (List.mem_filter.mp hw).2)) tn_4 (vx_c (fw_mv C rfl rfl (hb _ (tb2 _ (List.mem_of_getElem? (i := 202) rfl)))) (vx_c (fw_mv C rfl rfl (hb _ (tb2 _ (List.mem_of_getElem? (i := 96) rfl)))) (vx_c (fw_mv C rfl rfl (hb _ (tb2 _ (List.mem_of_getElem? (i := 98) rfl)))) (vx_c (fw_mv C rfl rfl (hb _ (tb2 _ (List.mem_of_getElem? (i := 100) rfl)))) vx_n))))
theorem x_thr4 (C : Cx l G RX11 cc nL ret p s m meth c args) (hw : WH G s w H locs) {Qc : Array Value → State → Outcome → State → Prop} {px : Nat → Prop} {Wx : Nat → va_W} {is mc ms : Nat} {tx : String} (hsr : ∃ a, vk_R RX11 is tx a G.2.1) (hp : px 4) (hWx : w = Wx 4) (hnt : ∀ x ∈ c.exceptionTable.toList, False) (hsz : ls.size = nL)
    (d0 : decode cc pc = .ok (.new 392, 3)) (d3 : decode cc (pc + 3) = .ok (.dup, 1)) (d4 : decode cc (pc + 4) = .ok (.ldc is, 2)) (d6 : decode cc (pc + 6) = .ok (.invokespecial 396, 3)) (d9 : decode cc (pc + 9) = .ok (.athrow, 1))
    (hR1 : 5 < R.frames) (hR2 : (rest.map fun v => v.category).sum + 82 ≤ R.locals) (hR3 : cells + 1 ≤ R.cells) (hR4 : slots + 6 ≤ R.slots) (hc : cells + 1 ≤ mc) (hs : slots + 6 ≤ ms) :
    W p l e R s m args below meth c H locs cells slots (vx_MQ below Qc (XQ G px Wx) args s mc ms (gA G)) (F0 m pc ls rest) := by
  obtain ⟨sa, hsa⟩ := hsr
  have hF := C.2.2.2.2.2.2.2.2
  have hW := C.2.2.2.2.2.2.2.1
  exact vx_throwS (own := RX11) (cls := "java/lang/UnsupportedOperationException") (names := thN) (A := gA G) C.1 C.2.1 hF.1 C.2.2.2.2.1 (by decide +kernel) (by decide +kernel) (C.2.2.2.2.2.1 _ cl_X11_392) (C.2.2.2.2.2.1 _ ini_java_lang_UnsupportedOperationException) (vk_R.warm hW hsa) (ta_4 C) tg_4 ((vx_Zq.moved hW.alike hF.unst.1).kept (H1 := s.heap) hw.1.2) ((vx_Zq.moved hW.alike hF.unst.2).kept (H1 := s.heap) hw.1.2) hw.2.1 (hsz.trans C.2.2.2.1.symm) d0 d3 d4 d6 d9 (fun x hx => (hnt x hx).elim) (by simpa using hR1) (by simpa using hR2) hR3 hR4 C.2.2.2.2.2.2.1 (fun t _ h1 h2 => thr_hx hw hp hWx h1 h2) hw.2.1.2.2 hc hs
theorem x_thr4W (C : Cx l G RX11 cc nL ret p s m meth c args) (hw : WH G s w H locs) {Qc : Array Value → State → Outcome → State → Prop} {px : Nat → Prop} {Wx : Nat → va_W} {is mc ms : Nat} {tx : String} (hsr : ∃ a, vk_R RX11 is tx a G.2.1) (hp : px 4) (hWx : w = Wx 4) (hnt : ∀ x ∈ c.exceptionTable.toList, False) (hsz : ls.size = nL)
    (d0 : decode cc pc = .ok (.new 392, 3)) (d3 : decode cc (pc + 3) = .ok (.dup, 1)) (d4 : decode cc (pc + 4) = .ok (.ldc_w is, 3)) (d6 : decode cc (pc + 7) = .ok (.invokespecial 396, 3)) (d9 : decode cc (pc + 10) = .ok (.athrow, 1))
    (hR1 : 5 < R.frames) (hR2 : (rest.map fun v => v.category).sum + 82 ≤ R.locals) (hR3 : cells + 1 ≤ R.cells) (hR4 : slots + 6 ≤ R.slots) (hc : cells + 1 ≤ mc) (hs : slots + 6 ≤ ms) :
    W p l e R s m args below meth c H locs cells slots (vx_MQ below Qc (XQ G px Wx) args s mc ms (gA G)) (F0 m pc ls rest) := by
  obtain ⟨sa, hsa⟩ := hsr
  have hF := C.2.2.2.2.2.2.2.2
  have hW := C.2.2.2.2.2.2.2.1
  exact vx_throwSW (own := RX11) (cls := "java/lang/UnsupportedOperationException") (names := thN) (A := gA G) C.1 C.2.1 hF.1 C.2.2.2.2.1 (by decide +kernel) (by decide +kernel) (C.2.2.2.2.2.1 _ cl_X11_392) (C.2.2.2.2.2.1 _ ini_java_lang_UnsupportedOperationException) (vk_R.warm hW hsa) (ta_4 C) tg_4 ((vx_Zq.moved hW.alike hF.unst.1).kept (H1 := s.heap) hw.1.2) ((vx_Zq.moved hW.alike hF.unst.2).kept (H1 := s.heap) hw.1.2) hw.2.1 (hsz.trans C.2.2.2.1.symm) d0 d3 d4 d6 d9 (fun x hx => (hnt x hx).elim) (by simpa using hR1) (by simpa using hR2) hR3 hR4 C.2.2.2.2.2.2.1 (fun t _ h1 h2 => thr_hx hw hp hWx h1 h2) hw.2.1.2.2 hc hs
set_option maxHeartbeats 4000000 in
set_option maxRecDepth 100000 in
theorem tw_6 : ∀ w ∈ (vx_atS RX11 240 "java/lang/ArithmeticException" thN).filter goodWord, w ∈ lw_tbl := by decide +kernel
set_option maxHeartbeats 4000000 in
set_option maxRecDepth 100000 in
theorem tn_6 : ∀ w ∈ (vx_atS RX11 240 "java/lang/ArithmeticException" thN).filter (fun w => !goodWord w), w ∈ [Cond.castable "java/lang/ArithmeticException" "java/lang/ArithmeticException", thD "java/lang/RuntimeException", thD "java/lang/Exception", thD "java/lang/Throwable"] := by decide +kernel
set_option maxHeartbeats 4000000 in
set_option maxRecDepth 100000 in
theorem tg_6 : ∀ w ∈ Cond.classLink RX11 238 "java/lang/ArithmeticException" :: Cond.initialized "java/lang/ArithmeticException" :: vx_atS RX11 240 "java/lang/ArithmeticException" thN, vx_ot w = true := by decide +kernel
theorem ta_6 (C : Cx l G own cc nL ret p s m meth c args) : ∀ w ∈ vx_atS RX11 240 "java/lang/ArithmeticException" thN, w.before args s = true := by
  obtain ⟨b, hb, -⟩ := C.2.2.2.2.2.2.2.2.2.2.2.2
  exact vx_hat (fun w hw => C.2.2.2.2.2.1 w (lwm (tw_6 w hw) (List.mem_filter.mp hw).2)) tn_6 (vx_c (fw_mv C rfl rfl (hb _ (tb4 _ (List.mem_of_getElem? (i := 209) rfl)))) (vx_c (fw_mv C rfl rfl (hb _ (tb2 _ (List.mem_of_getElem? (i := 96) rfl)))) (vx_c (fw_mv C rfl rfl (hb _ (tb2 _ (List.mem_of_getElem? (i := 98) rfl)))) (vx_c (fw_mv C rfl rfl (hb _ (tb2 _ (List.mem_of_getElem? (i := 100) rfl)))) vx_n))))
theorem x_thr6 (C : Cx l G RX11 cc nL ret p s m meth c args) (hw : WH G s w H locs) {Qc : Array Value → State → Outcome → State → Prop} {px : Nat → Prop} {Wx : Nat → va_W} {is mc ms : Nat} {tx : String} (hsr : ∃ a, vk_R RX11 is tx a G.2.1) (hp : px 6) (hWx : w = Wx 6) (hnt : ∀ x ∈ c.exceptionTable.toList, False) (hsz : ls.size = nL)
    (d0 : decode cc pc = .ok (.new 238, 3)) (d3 : decode cc (pc + 3) = .ok (.dup, 1)) (d4 : decode cc (pc + 4) = .ok (.ldc is, 2)) (d6 : decode cc (pc + 6) = .ok (.invokespecial 240, 3)) (d9 : decode cc (pc + 9) = .ok (.athrow, 1))
    (hR1 : 5 < R.frames) (hR2 : (rest.map fun v => v.category).sum + 82 ≤ R.locals) (hR3 : cells + 1 ≤ R.cells) (hR4 : slots + 6 ≤ R.slots) (hc : cells + 1 ≤ mc) (hs : slots + 6 ≤ ms) :
    W p l e R s m args below meth c H locs cells slots (vx_MQ below Qc (XQ G px Wx) args s mc ms (gA G)) (F0 m pc ls rest) := by
  obtain ⟨sa, hsa⟩ := hsr
  have hF := C.2.2.2.2.2.2.2.2
  have hW := C.2.2.2.2.2.2.2.1
  exact vx_throwS (own := RX11) (cls := "java/lang/ArithmeticException") (names := thN) (A := gA G) C.1 C.2.1 hF.1 C.2.2.2.2.1 (by decide +kernel) (by decide +kernel) (C.2.2.2.2.2.1 _ cl_X11_238) (C.2.2.2.2.2.1 _ ini_java_lang_ArithmeticException) (vk_R.warm hW hsa) (ta_6 C) tg_6 ((vx_Zq.moved hW.alike hF.unst.1).kept (H1 := s.heap) hw.1.2) ((vx_Zq.moved hW.alike hF.unst.2).kept (H1 := s.heap) hw.1.2) hw.2.1 (hsz.trans C.2.2.2.1.symm) d0 d3 d4 d6 d9 (fun x hx => (hnt x hx).elim) (by simpa using hR1) (by simpa using hR2) hR3 hR4 C.2.2.2.2.2.2.1 (fun t _ h1 h2 => thr_hx hw hp hWx h1 h2) hw.2.1.2.2 hc hs
theorem x_thr6W (C : Cx l G RX11 cc nL ret p s m meth c args) (hw : WH G s w H locs) {Qc : Array Value → State → Outcome → State → Prop} {px : Nat → Prop} {Wx : Nat → va_W} {is mc ms : Nat} {tx : String} (hsr : ∃ a, vk_R RX11 is tx a G.2.1) (hp : px 6) (hWx : w = Wx 6) (hnt : ∀ x ∈ c.exceptionTable.toList, False) (hsz : ls.size = nL)
    (d0 : decode cc pc = .ok (.new 238, 3)) (d3 : decode cc (pc + 3) = .ok (.dup, 1)) (d4 : decode cc (pc + 4) = .ok (.ldc_w is, 3)) (d6 : decode cc (pc + 7) = .ok (.invokespecial 240, 3)) (d9 : decode cc (pc + 10) = .ok (.athrow, 1))
    (hR1 : 5 < R.frames) (hR2 : (rest.map fun v => v.category).sum + 82 ≤ R.locals) (hR3 : cells + 1 ≤ R.cells) (hR4 : slots + 6 ≤ R.slots) (hc : cells + 1 ≤ mc) (hs : slots + 6 ≤ ms) :
    W p l e R s m args below meth c H locs cells slots (vx_MQ below Qc (XQ G px Wx) args s mc ms (gA G)) (F0 m pc ls rest) := by
  obtain ⟨sa, hsa⟩ := hsr
  have hF := C.2.2.2.2.2.2.2.2
  have hW := C.2.2.2.2.2.2.2.1
  exact vx_throwSW (own := RX11) (cls := "java/lang/ArithmeticException") (names := thN) (A := gA G) C.1 C.2.1 hF.1 C.2.2.2.2.1 (by decide +kernel) (by decide +kernel) (C.2.2.2.2.2.1 _ cl_X11_238) (C.2.2.2.2.2.1 _ ini_java_lang_ArithmeticException) (vk_R.warm hW hsa) (ta_6 C) tg_6 ((vx_Zq.moved hW.alike hF.unst.1).kept (H1 := s.heap) hw.1.2) ((vx_Zq.moved hW.alike hF.unst.2).kept (H1 := s.heap) hw.1.2) hw.2.1 (hsz.trans C.2.2.2.1.symm) d0 d3 d4 d6 d9 (fun x hx => (hnt x hx).elim) (by simpa using hR1) (by simpa using hR2) hR3 hR4 C.2.2.2.2.2.2.1 (fun t _ h1 h2 => thr_hx hw hp hWx h1 h2) hw.2.1.2.2 hc hs
end THR
