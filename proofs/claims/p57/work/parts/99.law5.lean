/-! The law's questions over the market's world: a_NAME the wrappers, d_NAME calls of the class itself -/
theorem bI_01 (b : Bool) : (if bI b = 0 then (0 : Int32) else 1) = bI b := by cases b <;> rfl
section PROWS
variable {p : Program} {l : Launch} {e : Env} {R : Room} {s : State} {m : MethodId} {args : Array Value} {below : List Frame} {meth : Method} {c : Code} {H : Heap} {locs : List Loc} {cells slots : Nat} {Q : State → Prop}
variable {G : Gx} {own : String} {cc : ByteArray} {nL : Nat} {ret : Option FieldType} {pc : Nat} {ls : Array Slot} {rest st : List Value} {w : va_W}
/-- a call that doesn't throw here, of a method that may -/
theorem y_vp (C : Cx l G own cc nL ret p s m meth c args) (hw : WH G s w H locs) {y : MethodName} {bytes : ByteArray} {maxL d k z n index : Nat} {As : List Value} {S : Type} {rt : FieldType} {post : Int32 → S → Prop} {Wf : S → va_W} {px : Nat → Prop} {Wx : Nat → va_W} {b ci : Nat} {fs : List Value} (hM : XI l G y bytes maxL rt d k z (.ref b :: As) w post Wf px Wx) (hno : ∀ k1, px k1 → False) (ml : Cond.methodLink own index y ∈ LW) (yf : YfV y bytes maxL (some rt) n) (q0 : Nat) (he : w[q0]? = some (b, .inr (ci, fs))) {T : u_T} {N : Nat} (hci : vwCl[ci]? = some (y.cls, T, N)) (hn : As.length = n) (hst : st = As.reverse ++ .ref b :: rest) (hR : d + 1 ≤ R.frames ∧ 8 + (maxL + 11) + 64 * d ≤ R.locals) (hf : cells + k ≤ R.cells ∧ slots + z ≤ R.slots) (hsz : ls.size = nL) (hrest : (rest.map fun v => v.category).sum ≤ 8) (hdg : decode cc pc = .ok (.invokevirtual index, 3))
    (kk : ∀ (r : Int32) (u : S) (H : Heap) (locs : List Loc), post r u → WH G s (Wf u) H locs → W p l e R s m args below meth c H locs (cells + k) (slots + z) Q (F0 m (pc + 3) ls (.int r :: rest))) : W p l e R s m args below meth c H locs cells slots Q (F0 m pc ls st) :=
  y_vi C hw hM ml yf q0 he hci hn hst hR hf hsz hrest hdg (fun k1 _ _ _ _ hp _ _ _ _ => (hno k1 hp).elim) kk
end PROWS
set_option maxHeartbeats 4000000 in
set_option maxRecDepth 100000 in
theorem a_money {l : Launch} {G : Gx} (hF : SF l G) {c : Int} {D : CD} {U : MV_} (h : Sm c D U) {K r : Nat → Nat → Nat} {X : va_W} (x0 : Int32) : HI l G yL_money cL_money 3 [(0, 5, 6, 22)] 8 1 6 [.ref (K 7 0), .int x0] (cW G K r D X) (fun v (_ : Unit) => v = (if isF (U.2 0) x0 = true then sF (U.2 0) x0.toNatClampNeg 0 else (-11))) (fun _ => (cW G K r D X)) :=
  w_money hF (x11_moneyOf hF (K := K) (S := D.S) (F := D.F) (X := uwA G K r D X) h.ok x0) (List.Perm.refl _) 19 rfl (fun r9 u9 hp => ⟨(), by obtain ⟨p1, p2⟩ := (v_moneyOf h x0).1 r9 u9 hp; show _ = if _ then _ else _; rw [if_pos p1]; exact p2.symm.trans (if_pos p1), (List.Perm.refl _)⟩) (fun k1 hp => by
    obtain ⟨p1, p2⟩ := (v_moneyOf h x0).2 k1 hp
    subst p2
    exact ⟨rfl, (), by show _ = if _ then _ else _; rw [p1]; rfl, (List.Perm.refl _)⟩)
set_option maxHeartbeats 4000000 in
set_option maxRecDepth 100000 in
theorem a_drops {l : Launch} {G : Gx} (hF : SF l G) {c : Int} {D : CD} {U : MV_} (h : Sm c D U) {K r : Nat → Nat → Nat} {X : va_W} (x0 : Int32) : HI l G yL_drops cL_drops 3 [(0, 5, 6, 22)] 8 1 6 [.ref (K 7 0), .int x0] (cW G K r D X) (fun v (_ : Unit) => v = (if isF (U.2 0) x0 = true then sF (U.2 0) x0.toNatClampNeg 1 else (-11))) (fun _ => (cW G K r D X)) :=
  w_drops hF (x11_dropsOf hF (K := K) (S := D.S) (F := D.F) (X := uwA G K r D X) h.ok x0) (List.Perm.refl _) 19 rfl (fun r9 u9 hp => ⟨(), by obtain ⟨p1, p2⟩ := (v_dropsOf h x0).1 r9 u9 hp; show _ = if _ then _ else _; rw [if_pos p1]; exact p2.symm.trans (if_pos p1), (List.Perm.refl _)⟩) (fun k1 hp => by
    obtain ⟨p1, p2⟩ := (v_dropsOf h x0).2 k1 hp
    subst p2
    exact ⟨rfl, (), by show _ = if _ then _ else _; rw [p1]; rfl, (List.Perm.refl _)⟩)
set_option maxHeartbeats 4000000 in
set_option maxRecDepth 100000 in
theorem a_byMoney {l : Launch} {G : Gx} (hF : SF l G) {c : Int} {D : CD} {U : MV_} (h : Sm c D U) {K r : Nat → Nat → Nat} {X : va_W} (x0 : Int32) : HI l G yL_byMoney cL_byMoney 3 [(0, 5, 6, 46)] 7 1 6 [.ref (K 7 0), .int x0] (cW G K r D X) (fun v (_ : Unit) => v = (if isF (U.2 0) x0 = true then sbV (U.2 0) x0 else (-13))) (fun _ => (cW G K r D X)) :=
  w_byMoney hF (x11_stallByMoney hF (K := K) (S := D.S) (F := D.F) (X := uwA G K r D X) h.ok x0) (List.Perm.refl _) 19 rfl (fun r9 u9 hp => ⟨(), by obtain ⟨p1, p2⟩ := (v_stallByMoney h x0).1 r9 u9 hp; show _ = if _ then _ else _; rw [if_pos p1]; exact p2.symm, (List.Perm.refl _)⟩) (fun k1 hp => by
    obtain ⟨p1, p2⟩ := (v_stallByMoney h x0).2 k1 hp
    subst p2
    exact ⟨rfl, (), by show _ = if _ then _ else _; rw [p1]; rfl, (List.Perm.refl _)⟩)
set_option maxHeartbeats 4000000 in
set_option maxRecDepth 100000 in
theorem a_freeMoney {l : Launch} {G : Gx} (hF : SF l G) {c : Int} {D : CD} {U : MV_} (h : Sm c D U) {K r : Nat → Nat → Nat} {X : va_W} (x0 : Int32) : HI l G yL_freeMoney cL_freeMoney 3 [(0, 5, 6, 22)] 8 1 6 [.ref (K 7 0), .int x0] (cW G K r D X) (fun v (_ : Unit) => v = (if isF (U.2 0) x0 = true then fqR (U.2 0) x0.toNatClampNeg true (nF (U.2 0)) else (-11))) (fun _ => (cW G K r D X)) :=
  w_freeMoney hF (x11_freeMoneyOf hF (K := K) (S := D.S) (F := D.F) (X := uwA G K r D X) h.ok x0) (List.Perm.refl _) 19 rfl (fun r9 u9 hp => ⟨(), by obtain ⟨p1, p2⟩ := (v_freeMoneyOf h x0).1 r9 u9 hp; show _ = if _ then _ else _; rw [if_pos p1]; exact p2.symm.trans (if_pos p1), (List.Perm.refl _)⟩) (fun k1 hp => by
    obtain ⟨p1, p2⟩ := (v_freeMoneyOf h x0).2 k1 hp
    subst p2
    exact ⟨rfl, (), by show _ = if _ then _ else _; rw [p1]; rfl, (List.Perm.refl _)⟩)
set_option maxHeartbeats 4000000 in
set_option maxRecDepth 100000 in
theorem a_freeDrops {l : Launch} {G : Gx} (hF : SF l G) {c : Int} {D : CD} {U : MV_} (h : Sm c D U) {K r : Nat → Nat → Nat} {X : va_W} (x0 : Int32) : HI l G yL_freeDrops cL_freeDrops 3 [(0, 5, 6, 22)] 8 1 6 [.ref (K 7 0), .int x0] (cW G K r D X) (fun v (_ : Unit) => v = (if isF (U.2 0) x0 = true then fqR (U.2 0) x0.toNatClampNeg false (nF (U.2 0)) else (-11))) (fun _ => (cW G K r D X)) :=
  w_freeDrops hF (x11_freeDropsOf hF (K := K) (S := D.S) (F := D.F) (X := uwA G K r D X) h.ok x0) (List.Perm.refl _) 19 rfl (fun r9 u9 hp => ⟨(), by obtain ⟨p1, p2⟩ := (v_freeDropsOf h x0).1 r9 u9 hp; show _ = if _ then _ else _; rw [if_pos p1]; exact p2.symm.trans (if_pos p1), (List.Perm.refl _)⟩) (fun k1 hp => by
    obtain ⟨p1, p2⟩ := (v_freeDropsOf h x0).2 k1 hp
    subst p2
    exact ⟨rfl, (), by show _ = if _ then _ else _; rw [p1]; rfl, (List.Perm.refl _)⟩)
set_option maxHeartbeats 4000000 in
set_option maxRecDepth 100000 in
theorem a_orderAt {l : Launch} {G : Gx} (hF : SF l G) {c : Int} {D : CD} {U : MV_} (h : Sm c D U) {K r : Nat → Nat → Nat} {X : va_W} (x0 : Int32) : HI l G yL_orderAt cL_orderAt 3 [(0, 5, 6, 22)] 7 1 6 [.ref (K 7 0), .int x0] (cW G K r D X) (fun v (_ : Unit) => v = (if inR x0 0 (nI (nF (U.2 0)) - 1) = true then oF (U.2 0) x0.toNatClampNeg 0 else (-11))) (fun _ => (cW G K r D X)) :=
  w_orderAt hF (x11_orderAt hF (K := K) (S := D.S) (F := D.F) (X := uwA G K r D X) h.ok x0) (List.Perm.refl _) 19 rfl (fun r9 u9 hp => ⟨(), by obtain ⟨p1, p2⟩ := (v_orderAt h x0).1 r9 u9 hp; show _ = if _ then _ else _; rw [if_pos p1]; exact p2.symm.trans (if_pos p1), (List.Perm.refl _)⟩) (fun k1 hp => by
    obtain ⟨p1, p2⟩ := (v_orderAt h x0).2 k1 hp
    subst p2
    exact ⟨rfl, (), by show _ = if _ then _ else _; rw [p1]; rfl, (List.Perm.refl _)⟩)
set_option maxHeartbeats 4000000 in
set_option maxRecDepth 100000 in
theorem a_isBuying {l : Launch} {G : Gx} (hF : SF l G) {c : Int} {D : CD} {U : MV_} (h : Sm c D U) {K r : Nat → Nat → Nat} {X : va_W} (x0 : Int32) : HI l G yL_isBuying cL_isBuying 3 [(0, 13, 14, 46)] 8 1 6 [.ref (K 7 0), .int x0] (cW G K r D X) (fun v (_ : Unit) => v = (if teB (U.2 0) x0 = true then bI (decide (teV (U.2 0) x0 2 = 1)) else (-13))) (fun _ => (cW G K r D X)) :=
  w_isBuying hF (x11_isBuying hF (K := K) (S := D.S) (F := D.F) (X := uwA G K r D X) h.ok x0) (List.Perm.refl _) 19 rfl (fun r9 u9 hp => ⟨(), by obtain ⟨p1, p2⟩ := (v_isBuying h x0).1 r9 u9 hp; show (if _ = (0 : Int32) then (0 : Int32) else 1) = _; rw [if_pos p1, p2.symm]; exact bI_01 _, (List.Perm.refl _)⟩) (fun k1 hp => by
    obtain ⟨p1, p2⟩ := (v_isBuying h x0).2 k1 hp
    subst p2
    exact ⟨rfl, (), by show _ = if _ then _ else _; rw [p1]; rfl, (List.Perm.refl _)⟩)
set_option maxHeartbeats 4000000 in
set_option maxRecDepth 100000 in
theorem a_priceOf {l : Launch} {G : Gx} (hF : SF l G) {c : Int} {D : CD} {U : MV_} (h : Sm c D U) {K r : Nat → Nat → Nat} {X : va_W} (x0 : Int32) : HI l G yL_priceOf cL_priceOf 3 [(0, 5, 6, 46)] 8 1 6 [.ref (K 7 0), .int x0] (cW G K r D X) (fun v (_ : Unit) => v = (if teB (U.2 0) x0 = true then teV (U.2 0) x0 3 else (-13))) (fun _ => (cW G K r D X)) :=
  w_priceOf hF (x11_priceOf hF (K := K) (S := D.S) (F := D.F) (X := uwA G K r D X) h.ok x0) (List.Perm.refl _) 19 rfl (fun r9 u9 hp => ⟨(), by obtain ⟨p1, p2⟩ := (v_priceOf h x0).1 r9 u9 hp; show _ = if _ then _ else _; rw [if_pos p1]; exact p2.symm, (List.Perm.refl _)⟩) (fun k1 hp => by
    obtain ⟨p1, p2⟩ := (v_priceOf h x0).2 k1 hp
    subst p2
    exact ⟨rfl, (), by show _ = if _ then _ else _; rw [p1]; rfl, (List.Perm.refl _)⟩)
set_option maxHeartbeats 4000000 in
set_option maxRecDepth 100000 in
theorem a_quantityOf {l : Launch} {G : Gx} (hF : SF l G) {c : Int} {D : CD} {U : MV_} (h : Sm c D U) {K r : Nat → Nat → Nat} {X : va_W} (x0 : Int32) : HI l G yL_quantityOf cL_quantityOf 3 [(0, 5, 6, 46)] 8 1 6 [.ref (K 7 0), .int x0] (cW G K r D X) (fun v (_ : Unit) => v = (if teB (U.2 0) x0 = true then teV (U.2 0) x0 4 else (-13))) (fun _ => (cW G K r D X)) :=
  w_quantityOf hF (x11_quantityOf hF (K := K) (S := D.S) (F := D.F) (X := uwA G K r D X) h.ok x0) (List.Perm.refl _) 19 rfl (fun r9 u9 hp => ⟨(), by obtain ⟨p1, p2⟩ := (v_quantityOf h x0).1 r9 u9 hp; show _ = if _ then _ else _; rw [if_pos p1]; exact p2.symm, (List.Perm.refl _)⟩) (fun k1 hp => by
    obtain ⟨p1, p2⟩ := (v_quantityOf h x0).2 k1 hp
    subst p2
    exact ⟨rfl, (), by show _ = if _ then _ else _; rw [p1]; rfl, (List.Perm.refl _)⟩)
set_option maxHeartbeats 4000000 in
set_option maxRecDepth 100000 in
theorem a_stallOf {l : Launch} {G : Gx} (hF : SF l G) {c : Int} {D : CD} {U : MV_} (h : Sm c D U) {K r : Nat → Nat → Nat} {X : va_W} (x0 : Int32) : HI l G yL_stallOf cL_stallOf 3 [(0, 5, 6, 46)] 8 1 6 [.ref (K 7 0), .int x0] (cW G K r D X) (fun v (_ : Unit) => v = (if teB (U.2 0) x0 = true then teV (U.2 0) x0 1 else (-13))) (fun _ => (cW G K r D X)) :=
  w_stallOf hF (x11_stallOf hF (K := K) (S := D.S) (F := D.F) (X := uwA G K r D X) h.ok x0) (List.Perm.refl _) 19 rfl (fun r9 u9 hp => ⟨(), by obtain ⟨p1, p2⟩ := (v_stallOf h x0).1 r9 u9 hp; show _ = if _ then _ else _; rw [if_pos p1]; exact p2.symm, (List.Perm.refl _)⟩) (fun k1 hp => by
    obtain ⟨p1, p2⟩ := (v_stallOf h x0).2 k1 hp
    subst p2
    exact ⟨rfl, (), by show _ = if _ then _ else _; rw [p1]; rfl, (List.Perm.refl _)⟩)
set_option maxHeartbeats 4000000 in
set_option maxRecDepth 100000 in
theorem a_buyingAt {l : Launch} {G : Gx} (hF : SF l G) {c : Int} {D : CD} {U : MV_} (h : Sm c D U) {K r : Nat → Nat → Nat} {X : va_W} (x0 : Int32) : HI l G yL_buyingAt cL_buyingAt 3 [(0, 5, 6, 14)] 8 1 6 [.ref (K 7 0), .int x0] (cW G K r D X) (fun v (_ : Unit) => v = (if inR x0 1 99 = true then smF (U.2 0) true x0 x0 (nF (U.2 0)) else (-12))) (fun _ => (cW G K r D X)) :=
  w_buyingAt hF (x11_buyingAt hF (K := K) (S := D.S) (F := D.F) (X := uwA G K r D X) h.ok x0) (List.Perm.refl _) 19 rfl (fun r9 u9 hp => ⟨(), by obtain ⟨p1, p2⟩ := (v_buyingAt h x0).1 r9 u9 hp; show _ = if _ then _ else _; rw [if_pos p1]; exact p2.symm.trans (if_pos p1), (List.Perm.refl _)⟩) (fun k1 hp => by
    obtain ⟨p1, p2⟩ := (v_buyingAt h x0).2 k1 hp
    subst p2
    exact ⟨rfl, (), by show _ = if _ then _ else _; rw [p1]; rfl, (List.Perm.refl _)⟩)
set_option maxHeartbeats 4000000 in
set_option maxRecDepth 100000 in
theorem a_sellingAt {l : Launch} {G : Gx} (hF : SF l G) {c : Int} {D : CD} {U : MV_} (h : Sm c D U) {K r : Nat → Nat → Nat} {X : va_W} (x0 : Int32) : HI l G yL_sellingAt cL_sellingAt 3 [(0, 5, 6, 14)] 8 1 6 [.ref (K 7 0), .int x0] (cW G K r D X) (fun v (_ : Unit) => v = (if inR x0 1 99 = true then smF (U.2 0) false x0 x0 (nF (U.2 0)) else (-12))) (fun _ => (cW G K r D X)) :=
  w_sellingAt hF (x11_sellingAt hF (K := K) (S := D.S) (F := D.F) (X := uwA G K r D X) h.ok x0) (List.Perm.refl _) 19 rfl (fun r9 u9 hp => ⟨(), by obtain ⟨p1, p2⟩ := (v_sellingAt h x0).1 r9 u9 hp; show _ = if _ then _ else _; rw [if_pos p1]; exact p2.symm.trans (if_pos p1), (List.Perm.refl _)⟩) (fun k1 hp => by
    obtain ⟨p1, p2⟩ := (v_sellingAt h x0).2 k1 hp
    subst p2
    exact ⟨rfl, (), by show _ = if _ then _ else _; rw [p1]; rfl, (List.Perm.refl _)⟩)
set_option maxHeartbeats 4000000 in
set_option maxRecDepth 100000 in
theorem a_bestBuy {l : Launch} {G : Gx} (hF : SF l G) {c : Int} {D : CD} {U : MV_} (h : Sm c D U) {K r : Nat → Nat → Nat} {X : va_W} : HI l G yL_bestBuy cL_bestBuy 2 [(0, 4, 5, 46)] 8 1 6 [.ref (K 7 0)] (cW G K r D X) (fun v (_ : Unit) => v = (if beB (U.2 0) true = true then beV (U.2 0) true 0 else (-13))) (fun _ => (cW G K r D X)) :=
  w_bestBuy hF (x11_bestBuy hF (K := K) (S := D.S) (F := D.F) (X := uwA G K r D X) h.ok ) (List.Perm.refl _) 19 rfl (fun r9 u9 hp => ⟨(), by obtain ⟨p1, p2⟩ := (v_bestBuy h).1 r9 u9 hp; show _ = if _ then _ else _; rw [if_pos p1]; exact p2.symm, (List.Perm.refl _)⟩) (fun k1 hp => by
    obtain ⟨p1, p2⟩ := (v_bestBuy h).2 k1 hp
    subst p2
    exact ⟨rfl, (), by show _ = if _ then _ else _; rw [p1]; rfl, (List.Perm.refl _)⟩)
set_option maxHeartbeats 4000000 in
set_option maxRecDepth 100000 in
theorem a_bestSell {l : Launch} {G : Gx} (hF : SF l G) {c : Int} {D : CD} {U : MV_} (h : Sm c D U) {K r : Nat → Nat → Nat} {X : va_W} : HI l G yL_bestSell cL_bestSell 2 [(0, 4, 5, 46)] 8 1 6 [.ref (K 7 0)] (cW G K r D X) (fun v (_ : Unit) => v = (if beB (U.2 0) false = true then beV (U.2 0) false 0 else (-13))) (fun _ => (cW G K r D X)) :=
  w_bestSell hF (x11_bestSell hF (K := K) (S := D.S) (F := D.F) (X := uwA G K r D X) h.ok ) (List.Perm.refl _) 19 rfl (fun r9 u9 hp => ⟨(), by obtain ⟨p1, p2⟩ := (v_bestSell h).1 r9 u9 hp; show _ = if _ then _ else _; rw [if_pos p1]; exact p2.symm, (List.Perm.refl _)⟩) (fun k1 hp => by
    obtain ⟨p1, p2⟩ := (v_bestSell h).2 k1 hp
    subst p2
    exact ⟨rfl, (), by show _ = if _ then _ else _; rw [p1]; rfl, (List.Perm.refl _)⟩)
set_option maxHeartbeats 4000000 in
set_option maxRecDepth 100000 in
theorem a_spread {l : Launch} {G : Gx} (hF : SF l G) {c : Int} {D : CD} {U : MV_} (h : Sm c D U) {K r : Nat → Nat → Nat} {X : va_W} : HI l G yL_spread cL_spread 2 [(0, 4, 5, 46)] 8 1 6 [.ref (K 7 0)] (cW G K r D X) (fun v (_ : Unit) => v = (if spB (U.2 0) = true then spV (U.2 0) else (-1300))) (fun _ => (cW G K r D X)) :=
  w_spread hF (x11_spread hF (K := K) (S := D.S) (F := D.F) (X := uwA G K r D X) h.ok ) (List.Perm.refl _) 19 rfl (fun r9 u9 hp => ⟨(), by obtain ⟨p1, p2⟩ := (v_spread h).1 r9 u9 hp; show _ = if _ then _ else _; rw [if_pos p1]; exact p2.symm, (List.Perm.refl _)⟩) (fun k1 hp => by
    obtain ⟨p1, p2⟩ := (v_spread h).2 k1 hp
    subst p2
    exact ⟨rfl, (), by show _ = if _ then _ else _; rw [p1]; rfl, (List.Perm.refl _)⟩)
set_option maxHeartbeats 4000000 in
set_option maxRecDepth 100000 in
theorem a_spreadBySums {l : Launch} {G : Gx} (hF : SF l G) {c : Int} {D : CD} {U : MV_} (h : Sm c D U) {K r : Nat → Nat → Nat} {X : va_W} : HI l G yL_spreadBySums cL_spreadBySums 2 [(0, 4, 5, 46)] 8 1 6 [.ref (K 7 0)] (cW G K r D X) (fun v (_ : Unit) => v = (if spB (U.2 0) = true then spV (U.2 0) else (-1300))) (fun _ => (cW G K r D.sg X)) :=
  w_spreadBySums hF (x11_spreadBySums hF (K := K) (S := D.S) (F := D.F) (f := D.f) (g := D.g) (X := uwE G K r D X) h.ok ) (pw_E _ _ _ _ _ _ _ _ _ _) 19 rfl (fun r9 u9 hp => ⟨(), by obtain ⟨p1, p2⟩ := (v_spreadBySums h).1 r9 u9 hp; show _ = if _ then _ else _; rw [if_pos p1]; exact p2.symm, (pw_E _ _ _ _ _ _ _ _ _ _).symm⟩) (fun k1 hp => by
    obtain ⟨p1, p2⟩ := (v_spreadBySums h).2 k1 hp
    subst p2
    exact ⟨rfl, (), by show _ = if _ then _ else _; rw [p1]; rfl, (pw_E _ _ _ _ _ _ _ _ _ _).symm⟩)
set_option maxHeartbeats 4000000 in
set_option maxRecDepth 100000 in
theorem a_volumeAt {l : Launch} {G : Gx} (hF : SF l G) {c : Int} {D : CD} {U : MV_} (h : Sm c D U) {K r : Nat → Nat → Nat} {X : va_W} (x0 : Int32) : HI l G yL_volumeAt cL_volumeAt 3 [(0, 5, 6, 14)] 8 1 6 [.ref (K 7 0), .int x0] (cW G K r D X) (fun v (_ : Unit) => v = (if inR x0 1 99 = true then voF (U.2 0) (nF (U.2 0)) x0 else (-12))) (fun _ => (cW G K r D X)) :=
  w_volumeAt hF (x11_volumeAt hF (K := K) (S := D.S) (F := D.F) (X := uwA G K r D X) h.ok x0) (List.Perm.refl _) 19 rfl (fun r9 u9 hp => ⟨(), by obtain ⟨p1, p2⟩ := (v_volumeAt h x0).1 r9 u9 hp; show _ = if _ then _ else _; rw [if_pos p1]; exact p2.symm.trans (if_pos p1), (List.Perm.refl _)⟩) (fun k1 hp => by
    obtain ⟨p1, p2⟩ := (v_volumeAt h x0).2 k1 hp
    subst p2
    exact ⟨rfl, (), by show _ = if _ then _ else _; rw [p1]; rfl, (List.Perm.refl _)⟩)
set_option maxHeartbeats 4000000 in
set_option maxRecDepth 100000 in
theorem a_lastPrice {l : Launch} {G : Gx} (hF : SF l G) {c : Int} {D : CD} {U : MV_} (h : Sm c D U) {K r : Nat → Nat → Nat} {X : va_W} : HI l G yL_lastPrice cL_lastPrice 2 [(0, 4, 5, 46)] 7 1 6 [.ref (K 7 0)] (cW G K r D X) (fun v (_ : Unit) => v = (if laB (U.2 0) = true then (U.2 0) 5 else (-13))) (fun _ => (cW G K r D X)) :=
  w_lastPrice hF (x11_lastPrice hF (K := K) (S := D.S) (F := D.F) (X := uwA G K r D X)  ) (List.Perm.refl _) 19 rfl (fun r9 u9 hp => ⟨(), by obtain ⟨p1, p2⟩ := (v_lastPrice h).1 r9 u9 hp; show _ = if _ then _ else _; rw [if_pos p1]; exact p2.symm.trans (if_pos p1), (List.Perm.refl _)⟩) (fun k1 hp => by
    obtain ⟨p1, p2⟩ := (v_lastPrice h).2 k1 hp
    subst p2
    exact ⟨rfl, (), by show _ = if _ then _ else _; rw [p1]; rfl, (List.Perm.refl _)⟩)
set_option maxHeartbeats 4000000 in
set_option maxRecDepth 100000 in
theorem a_poolPrice {l : Launch} {G : Gx} (hF : SF l G) {c : Int} {D : CD} {U : MV_} (h : Sm c D U) {K r : Nat → Nat → Nat} {X : va_W} : HI l G yL_poolPrice cL_poolPrice 2 [(0, 4, 5, 46)] 8 2 9 [.ref (K 7 0)] (cW G K r D X) (fun v (_ : Unit) => v = (if ppB (U.2 0) = true then clP (U.2 0) else (-13))) (fun _ => (cW G K r D X)) :=
  w_poolPrice hF (x11_poolPrice hF (K := K) (S := D.S) (F := D.F) (X := uwA G K r D X) h.ok ) (List.Perm.refl _) 19 rfl (fun r9 u9 hp => ⟨(), by obtain ⟨p1, p2⟩ := (v_poolPrice h).1 r9 u9 hp; show _ = if _ then _ else _; rw [if_pos p1]; exact p2.symm.trans (if_pos p1), (List.Perm.refl _)⟩) (fun k1 hp => by
    obtain ⟨p1, p2⟩ := (v_poolPrice h).2 k1 hp
    subst p2
    exact ⟨rfl, (), by show _ = if _ then _ else _; rw [p1]; rfl, (List.Perm.refl _)⟩)
set_option maxHeartbeats 4000000 in
set_option maxRecDepth 100000 in
theorem a_poolBySums {l : Launch} {G : Gx} (hF : SF l G) {c : Int} {D : CD} {U : MV_} (h : Sm c D U) {K r : Nat → Nat → Nat} {X : va_W} : HI l G yL_poolBySums cL_poolBySums 2 [(0, 4, 5, 46)] 8 2 9 [.ref (K 7 0)] (cW G K r D X) (fun v (_ : Unit) => v = (if ppB (U.2 0) = true then clP (U.2 0) else (-13))) (fun _ => (cW G K r D.sg X)) :=
  w_poolBySums hF (x11_poolPriceBySums hF (K := K) (S := D.S) (F := D.F) (f := D.f) (g := D.g) (X := uwE G K r D X) h.ok ) (pw_E _ _ _ _ _ _ _ _ _ _) 19 rfl (fun r9 u9 hp => ⟨(), by obtain ⟨p1, p2⟩ := (v_poolPriceBySums h).1 r9 u9 hp; show _ = if _ then _ else _; rw [if_pos p1]; exact p2.symm.trans (if_pos p1), (pw_E _ _ _ _ _ _ _ _ _ _).symm⟩) (fun k1 hp => by
    obtain ⟨p1, p2⟩ := (v_poolPriceBySums h).2 k1 hp
    subst p2
    exact ⟨rfl, (), by show _ = if _ then _ else _; rw [p1]; rfl, (((List.perm_append_comm_assoc _ _ _).append_left _).trans (pw_E _ _ _ _ _ _ _ _ _ _).symm)⟩)
set_option maxHeartbeats 4000000 in
set_option maxRecDepth 100000 in
theorem a_minutesLeft {l : Launch} {G : Gx} (hF : SF l G) {c : Int} {D : CD} {U : MV_} (h : Sm c D U) {K r : Nat → Nat → Nat} {X : va_W} (hc : c + 60 ≤ 40000) (x0 : Int32) : HI l G yL_minutesLeft cL_minutesLeft 3 [(0, 5, 6, 46), (0, 5, 10, 16)] 8 2 12 [.ref (K 7 0), .int x0] (cW G K r D X) (fun v (_ : Unit) => v = if miT (U.2 0) x0 = 0 then teV (U.2 0) x0 5 else if miT (U.2 0) x0 = 1 then -13 else -14) (fun _ => (cW G K r D X)) :=
  w_minutesLeft hF (x11_minutesLeft hF (K := K) (S := D.S) (F := D.F) (X := uwA G K r D X) h.ok x0) (List.Perm.refl _) 19 rfl (fun r9 u9 hp => ⟨(), by
    obtain ⟨p1, p2, -⟩ := (fin_minutesLeft h (Int.le_refl _) hc x0).1 r9 u9 hp
    have p1 : miT (U.2 0) x0 = 0 := p1
    show _ = if _ then _ else _
    rw [if_pos p1]
    exact p2.symm, List.Perm.refl _⟩) (fun k1 hp => by
    obtain ⟨p1, p2, -⟩ := (fin_minutesLeft h (Int.le_refl _) hc x0).2 k1 hp
    refine ⟨p1, (), ?_, List.Perm.refl _⟩
    rcases p1 with rfl | rfl
    · have p2 : (1 : Int32) = miT (U.2 0) x0 := p2
      rw [← p2]
      rfl
    · have p2 : (2 : Int32) = miT (U.2 0) x0 := p2
      rw [← p2]
      rfl)
section DROWS
variable {p : Program} {l : Launch} {e : Env} {R : Room} {s : State} {m : MethodId} {args : Array Value} {below : List Frame} {meth : Method} {c : Code} {H : Heap} {locs : List Loc} {cells slots : Nat} {Q : State → Prop}
variable {G : Gx} {own : String} {cc : ByteArray} {nL : Nat} {ret : Option FieldType} {pc : Nat} {ls : Array Slot} {rest st : List Value}
variable {c9 : Int} {D : CD} {U : MV_} {K r : Nat → Nat → Nat} {X : va_W}
theorem d_moneyOf (C : Cx l G RL cc nL ret p s m meth c args) (hw : WH G s (cW G K r D X) H locs) (h : Sm c9 D U) {x0 : Int32} (hB : isF (U.2 0) x0 = true) {index : Nat} (ml : Cond.methodLink RL index yX11_moneyOf ∈ LW) (hR : 8 ≤ R.frames ∧ 469 ≤ R.locals) (hf : cells + 1 ≤ R.cells ∧ slots + 6 ≤ R.slots) (hsz : ls.size = nL) (hrest : (rest.map fun v => v.category).sum ≤ 8) (hdg : decode cc pc = .ok (.invokevirtual index, 3))
    (kk : ∀ (H : Heap) (locs : List Loc), WH G s (cW G K r D X) H locs → W p l e R s m args below meth c H locs (cells + 1) (slots + 6) Q (F0 m (pc + 3) ls (.int (sF (U.2 0) x0.toNatClampNeg 0) :: rest))) : W p l e R s m args below meth c H locs cells slots Q (F0 m pc ls (.int x0 :: .ref (K 7 0) :: rest)) := by
  have hF := C.2.2.2.2.2.2.2.2
  refine y_vp C hw (x11_moneyOf hF (K := K) (S := D.S) (F := D.F) (X := uwA G K r D X) h.ok x0) (fun k1 hp => by have q := ((v_moneyOf h x0).2 k1 hp).1; rw [hB] at q; cases q) ml yf_X11_moneyOf 19 rfl rfl (As := [.int x0]) rfl rfl ⟨hR.1, hR.2⟩ hf hsz hrest hdg (fun r9 u9 H locs hp hw => ?_)
  have p2 := ((v_moneyOf h x0).1 r9 u9 hp).2
  rw [if_pos hB] at p2
  have hk := kk H locs hw
  rw [p2] at hk
  exact hk
theorem d_dropsOf (C : Cx l G RL cc nL ret p s m meth c args) (hw : WH G s (cW G K r D X) H locs) (h : Sm c9 D U) {x0 : Int32} (hB : isF (U.2 0) x0 = true) {index : Nat} (ml : Cond.methodLink RL index yX11_dropsOf ∈ LW) (hR : 8 ≤ R.frames ∧ 469 ≤ R.locals) (hf : cells + 1 ≤ R.cells ∧ slots + 6 ≤ R.slots) (hsz : ls.size = nL) (hrest : (rest.map fun v => v.category).sum ≤ 8) (hdg : decode cc pc = .ok (.invokevirtual index, 3))
    (kk : ∀ (H : Heap) (locs : List Loc), WH G s (cW G K r D X) H locs → W p l e R s m args below meth c H locs (cells + 1) (slots + 6) Q (F0 m (pc + 3) ls (.int (sF (U.2 0) x0.toNatClampNeg 1) :: rest))) : W p l e R s m args below meth c H locs cells slots Q (F0 m pc ls (.int x0 :: .ref (K 7 0) :: rest)) := by
  have hF := C.2.2.2.2.2.2.2.2
  refine y_vp C hw (x11_dropsOf hF (K := K) (S := D.S) (F := D.F) (X := uwA G K r D X) h.ok x0) (fun k1 hp => by have q := ((v_dropsOf h x0).2 k1 hp).1; rw [hB] at q; cases q) ml yf_X11_dropsOf 19 rfl rfl (As := [.int x0]) rfl rfl ⟨hR.1, hR.2⟩ hf hsz hrest hdg (fun r9 u9 H locs hp hw => ?_)
  have p2 := ((v_dropsOf h x0).1 r9 u9 hp).2
  rw [if_pos hB] at p2
  have hk := kk H locs hw
  rw [p2] at hk
  exact hk
theorem d_orderAt (C : Cx l G RL cc nL ret p s m meth c args) (hw : WH G s (cW G K r D X) H locs) (h : Sm c9 D U) {x0 : Int32} (hB : inR x0 0 (nI (nF (U.2 0)) - 1) = true) {index : Nat} (ml : Cond.methodLink RL index yX11_orderAt ∈ LW) (hR : 7 ≤ R.frames ∧ 405 ≤ R.locals) (hf : cells + 1 ≤ R.cells ∧ slots + 6 ≤ R.slots) (hsz : ls.size = nL) (hrest : (rest.map fun v => v.category).sum ≤ 8) (hdg : decode cc pc = .ok (.invokevirtual index, 3))
    (kk : ∀ (H : Heap) (locs : List Loc), WH G s (cW G K r D X) H locs → W p l e R s m args below meth c H locs (cells + 1) (slots + 6) Q (F0 m (pc + 3) ls (.int (oF (U.2 0) x0.toNatClampNeg 0) :: rest))) : W p l e R s m args below meth c H locs cells slots Q (F0 m pc ls (.int x0 :: .ref (K 7 0) :: rest)) := by
  have hF := C.2.2.2.2.2.2.2.2
  refine y_vp C hw (x11_orderAt hF (K := K) (S := D.S) (F := D.F) (X := uwA G K r D X) h.ok x0) (fun k1 hp => by have q := ((v_orderAt h x0).2 k1 hp).1; rw [hB] at q; cases q) ml yf_X11_orderAt 19 rfl rfl (As := [.int x0]) rfl rfl ⟨hR.1, hR.2⟩ hf hsz hrest hdg (fun r9 u9 H locs hp hw => ?_)
  have p2 := ((v_orderAt h x0).1 r9 u9 hp).2
  rw [if_pos hB] at p2
  have hk := kk H locs hw
  rw [p2] at hk
  exact hk
theorem d_stallOf (C : Cx l G RL cc nL ret p s m meth c args) (hw : WH G s (cW G K r D X) H locs) (h : Sm c9 D U) {x0 : Int32} (hB : teB (U.2 0) x0 = true) {index : Nat} (ml : Cond.methodLink RL index yX11_stallOf ∈ LW) (hR : 8 ≤ R.frames ∧ 469 ≤ R.locals) (hf : cells + 1 ≤ R.cells ∧ slots + 6 ≤ R.slots) (hsz : ls.size = nL) (hrest : (rest.map fun v => v.category).sum ≤ 8) (hdg : decode cc pc = .ok (.invokevirtual index, 3))
    (kk : ∀ (H : Heap) (locs : List Loc), WH G s (cW G K r D X) H locs → W p l e R s m args below meth c H locs (cells + 1) (slots + 6) Q (F0 m (pc + 3) ls (.int (teV (U.2 0) x0 1) :: rest))) : W p l e R s m args below meth c H locs cells slots Q (F0 m pc ls (.int x0 :: .ref (K 7 0) :: rest)) := by
  have hF := C.2.2.2.2.2.2.2.2
  refine y_vp C hw (x11_stallOf hF (K := K) (S := D.S) (F := D.F) (X := uwA G K r D X) h.ok x0) (fun k1 hp => by have q := ((v_stallOf h x0).2 k1 hp).1; rw [hB] at q; cases q) ml yf_X11_stallOf 19 rfl rfl (As := [.int x0]) rfl rfl ⟨hR.1, hR.2⟩ hf hsz hrest hdg (fun r9 u9 H locs hp hw => ?_)
  have p2 := ((v_stallOf h x0).1 r9 u9 hp).2
  have hk := kk H locs hw
  rw [p2] at hk
  exact hk
theorem d_isBuying (C : Cx l G RL cc nL ret p s m meth c args) (hw : WH G s (cW G K r D X) H locs) (h : Sm c9 D U) {x0 : Int32} (hB : teB (U.2 0) x0 = true) {index : Nat} (ml : Cond.methodLink RL index yX11_isBuying ∈ LW) (hR : 8 ≤ R.frames ∧ 469 ≤ R.locals) (hf : cells + 1 ≤ R.cells ∧ slots + 6 ≤ R.slots) (hsz : ls.size = nL) (hrest : (rest.map fun v => v.category).sum ≤ 8) (hdg : decode cc pc = .ok (.invokevirtual index, 3))
    (kk : ∀ (H : Heap) (locs : List Loc), WH G s (cW G K r D X) H locs → W p l e R s m args below meth c H locs (cells + 1) (slots + 6) Q (F0 m (pc + 3) ls (.int (bI (decide (teV (U.2 0) x0 2 = 1))) :: rest))) : W p l e R s m args below meth c H locs cells slots Q (F0 m pc ls (.int x0 :: .ref (K 7 0) :: rest)) := by
  have hF := C.2.2.2.2.2.2.2.2
  refine y_vp C hw (x11_isBuying hF (K := K) (S := D.S) (F := D.F) (X := uwA G K r D X) h.ok x0) (fun k1 hp => by have q := ((v_isBuying h x0).2 k1 hp).1; rw [hB] at q; cases q) ml yf_X11_isBuying 19 rfl rfl (As := [.int x0]) rfl rfl ⟨hR.1, hR.2⟩ hf hsz hrest hdg (fun r9 u9 H locs hp hw => ?_)
  have p2 := ((v_isBuying h x0).1 r9 u9 hp).2
  have hk := kk H locs hw
  rw [p2] at hk
  exact hk
theorem d_priceOf (C : Cx l G RL cc nL ret p s m meth c args) (hw : WH G s (cW G K r D X) H locs) (h : Sm c9 D U) {x0 : Int32} (hB : teB (U.2 0) x0 = true) {index : Nat} (ml : Cond.methodLink RL index yX11_priceOf ∈ LW) (hR : 8 ≤ R.frames ∧ 469 ≤ R.locals) (hf : cells + 1 ≤ R.cells ∧ slots + 6 ≤ R.slots) (hsz : ls.size = nL) (hrest : (rest.map fun v => v.category).sum ≤ 8) (hdg : decode cc pc = .ok (.invokevirtual index, 3))
    (kk : ∀ (H : Heap) (locs : List Loc), WH G s (cW G K r D X) H locs → W p l e R s m args below meth c H locs (cells + 1) (slots + 6) Q (F0 m (pc + 3) ls (.int (teV (U.2 0) x0 3) :: rest))) : W p l e R s m args below meth c H locs cells slots Q (F0 m pc ls (.int x0 :: .ref (K 7 0) :: rest)) := by
  have hF := C.2.2.2.2.2.2.2.2
  refine y_vp C hw (x11_priceOf hF (K := K) (S := D.S) (F := D.F) (X := uwA G K r D X) h.ok x0) (fun k1 hp => by have q := ((v_priceOf h x0).2 k1 hp).1; rw [hB] at q; cases q) ml yf_X11_priceOf 19 rfl rfl (As := [.int x0]) rfl rfl ⟨hR.1, hR.2⟩ hf hsz hrest hdg (fun r9 u9 H locs hp hw => ?_)
  have p2 := ((v_priceOf h x0).1 r9 u9 hp).2
  have hk := kk H locs hw
  rw [p2] at hk
  exact hk
theorem d_quantityOf (C : Cx l G RL cc nL ret p s m meth c args) (hw : WH G s (cW G K r D X) H locs) (h : Sm c9 D U) {x0 : Int32} (hB : teB (U.2 0) x0 = true) {index : Nat} (ml : Cond.methodLink RL index yX11_quantityOf ∈ LW) (hR : 8 ≤ R.frames ∧ 469 ≤ R.locals) (hf : cells + 1 ≤ R.cells ∧ slots + 6 ≤ R.slots) (hsz : ls.size = nL) (hrest : (rest.map fun v => v.category).sum ≤ 8) (hdg : decode cc pc = .ok (.invokevirtual index, 3))
    (kk : ∀ (H : Heap) (locs : List Loc), WH G s (cW G K r D X) H locs → W p l e R s m args below meth c H locs (cells + 1) (slots + 6) Q (F0 m (pc + 3) ls (.int (teV (U.2 0) x0 4) :: rest))) : W p l e R s m args below meth c H locs cells slots Q (F0 m pc ls (.int x0 :: .ref (K 7 0) :: rest)) := by
  have hF := C.2.2.2.2.2.2.2.2
  refine y_vp C hw (x11_quantityOf hF (K := K) (S := D.S) (F := D.F) (X := uwA G K r D X) h.ok x0) (fun k1 hp => by have q := ((v_quantityOf h x0).2 k1 hp).1; rw [hB] at q; cases q) ml yf_X11_quantityOf 19 rfl rfl (As := [.int x0]) rfl rfl ⟨hR.1, hR.2⟩ hf hsz hrest hdg (fun r9 u9 H locs hp hw => ?_)
  have p2 := ((v_quantityOf h x0).1 r9 u9 hp).2
  have hk := kk H locs hw
  rw [p2] at hk
  exact hk
theorem d_buyingAt (C : Cx l G RL cc nL ret p s m meth c args) (hw : WH G s (cW G K r D X) H locs) (h : Sm c9 D U) {x0 : Int32} (hB : inR x0 1 99 = true) {index : Nat} (ml : Cond.methodLink RL index yX11_buyingAt ∈ LW) (hR : 8 ≤ R.frames ∧ 469 ≤ R.locals) (hf : cells + 1 ≤ R.cells ∧ slots + 6 ≤ R.slots) (hsz : ls.size = nL) (hrest : (rest.map fun v => v.category).sum ≤ 8) (hdg : decode cc pc = .ok (.invokevirtual index, 3))
    (kk : ∀ (H : Heap) (locs : List Loc), WH G s (cW G K r D X) H locs → W p l e R s m args below meth c H locs (cells + 1) (slots + 6) Q (F0 m (pc + 3) ls (.int (smF (U.2 0) true x0 x0 (nF (U.2 0))) :: rest))) : W p l e R s m args below meth c H locs cells slots Q (F0 m pc ls (.int x0 :: .ref (K 7 0) :: rest)) := by
  have hF := C.2.2.2.2.2.2.2.2
  refine y_vp C hw (x11_buyingAt hF (K := K) (S := D.S) (F := D.F) (X := uwA G K r D X) h.ok x0) (fun k1 hp => by have q := ((v_buyingAt h x0).2 k1 hp).1; rw [hB] at q; cases q) ml yf_X11_buyingAt 19 rfl rfl (As := [.int x0]) rfl rfl ⟨hR.1, hR.2⟩ hf hsz hrest hdg (fun r9 u9 H locs hp hw => ?_)
  have p2 := ((v_buyingAt h x0).1 r9 u9 hp).2
  rw [if_pos hB] at p2
  have hk := kk H locs hw
  rw [p2] at hk
  exact hk
theorem d_sellingAt (C : Cx l G RL cc nL ret p s m meth c args) (hw : WH G s (cW G K r D X) H locs) (h : Sm c9 D U) {x0 : Int32} (hB : inR x0 1 99 = true) {index : Nat} (ml : Cond.methodLink RL index yX11_sellingAt ∈ LW) (hR : 8 ≤ R.frames ∧ 469 ≤ R.locals) (hf : cells + 1 ≤ R.cells ∧ slots + 6 ≤ R.slots) (hsz : ls.size = nL) (hrest : (rest.map fun v => v.category).sum ≤ 8) (hdg : decode cc pc = .ok (.invokevirtual index, 3))
    (kk : ∀ (H : Heap) (locs : List Loc), WH G s (cW G K r D X) H locs → W p l e R s m args below meth c H locs (cells + 1) (slots + 6) Q (F0 m (pc + 3) ls (.int (smF (U.2 0) false x0 x0 (nF (U.2 0))) :: rest))) : W p l e R s m args below meth c H locs cells slots Q (F0 m pc ls (.int x0 :: .ref (K 7 0) :: rest)) := by
  have hF := C.2.2.2.2.2.2.2.2
  refine y_vp C hw (x11_sellingAt hF (K := K) (S := D.S) (F := D.F) (X := uwA G K r D X) h.ok x0) (fun k1 hp => by have q := ((v_sellingAt h x0).2 k1 hp).1; rw [hB] at q; cases q) ml yf_X11_sellingAt 19 rfl rfl (As := [.int x0]) rfl rfl ⟨hR.1, hR.2⟩ hf hsz hrest hdg (fun r9 u9 H locs hp hw => ?_)
  have p2 := ((v_sellingAt h x0).1 r9 u9 hp).2
  rw [if_pos hB] at p2
  have hk := kk H locs hw
  rw [p2] at hk
  exact hk
theorem d_stallCount (C : Cx l G RL cc nL ret p s m meth c args) (hw : WH G s (cW G K r D X) H locs) (h : Sm c9 D U) {index : Nat} (ml : Cond.methodLink RL index yX11_stallCount ∈ LW) (hR : 2 ≤ R.frames ∧ 84 ≤ R.locals) (hf : cells + 0 ≤ R.cells ∧ slots + 0 ≤ R.slots) (hsz : ls.size = nL) (hrest : (rest.map fun v => v.category).sum ≤ 8) (hdg : decode cc pc = .ok (.invokevirtual index, 3))
    (kk : ∀ (H : Heap) (locs : List Loc), WH G s (cW G K r D X) H locs → W p l e R s m args below meth c H locs (cells + 0) (slots + 0) Q (F0 m (pc + 3) ls (.int (nI (tF (U.2 0))) :: rest))) : W p l e R s m args below meth c H locs cells slots Q (F0 m pc ls (.ref (K 7 0) :: rest)) := by
  have hF := C.2.2.2.2.2.2.2.2
  refine r_vi C hw (k11_stallCount hF (K := K) (S := D.S) (F := D.F) (X := uwA G K r D X) ) ml yf_X11_stallCount 19 rfl rfl (As := []) rfl rfl ⟨hR.1, hR.2⟩ hf hsz hrest hdg (fun r9 u9 H locs hp hw => ?_)
  have hp : r9 = nI (tF (U.2 0)) := hp.trans (h.rl.1.1.trans h.okf.2.2.1)
  rw [hp]
  exact kk H locs hw
theorem d_orderCount (C : Cx l G RL cc nL ret p s m meth c args) (hw : WH G s (cW G K r D X) H locs) (h : Sm c9 D U) {index : Nat} (ml : Cond.methodLink RL index yX11_orderCount ∈ LW) (hR : 2 ≤ R.frames ∧ 84 ≤ R.locals) (hf : cells + 0 ≤ R.cells ∧ slots + 0 ≤ R.slots) (hsz : ls.size = nL) (hrest : (rest.map fun v => v.category).sum ≤ 8) (hdg : decode cc pc = .ok (.invokevirtual index, 3))
    (kk : ∀ (H : Heap) (locs : List Loc), WH G s (cW G K r D X) H locs → W p l e R s m args below meth c H locs (cells + 0) (slots + 0) Q (F0 m (pc + 3) ls (.int (nI (nF (U.2 0))) :: rest))) : W p l e R s m args below meth c H locs cells slots Q (F0 m pc ls (.ref (K 7 0) :: rest)) := by
  have hF := C.2.2.2.2.2.2.2.2
  refine r_vi C hw (k11_orderCount hF (K := K) (S := D.S) (F := D.F) (X := uwA G K r D X) ) ml yf_X11_orderCount 19 rfl rfl (As := []) rfl rfl ⟨hR.1, hR.2⟩ hf hsz hrest hdg (fun r9 u9 H locs hp hw => ?_)
  have hp : r9 = nI (nF (U.2 0)) := hp.trans (h.rl.1.2.1.trans h.okf.1)
  rw [hp]
  exact kk H locs hw
theorem d_tradeCount (C : Cx l G RL cc nL ret p s m meth c args) (hw : WH G s (cW G K r D X) H locs) (h : Sm c9 D U) {index : Nat} (ml : Cond.methodLink RL index yX11_tradeCount ∈ LW) (hR : 2 ≤ R.frames ∧ 84 ≤ R.locals) (hf : cells + 0 ≤ R.cells ∧ slots + 0 ≤ R.slots) (hsz : ls.size = nL) (hrest : (rest.map fun v => v.category).sum ≤ 8) (hdg : decode cc pc = .ok (.invokevirtual index, 3))
    (kk : ∀ (H : Heap) (locs : List Loc), WH G s (cW G K r D X) H locs → W p l e R s m args below meth c H locs (cells + 0) (slots + 0) Q (F0 m (pc + 3) ls (.int (U.2 0 6) :: rest))) : W p l e R s m args below meth c H locs cells slots Q (F0 m pc ls (.ref (K 7 0) :: rest)) := by
  have hF := C.2.2.2.2.2.2.2.2
  refine r_vi C hw (k11_tradeCount hF (K := K) (S := D.S) (F := D.F) (X := uwA G K r D X) ) ml yf_X11_tradeCount 19 rfl rfl (As := []) rfl rfl ⟨hR.1, hR.2⟩ hf hsz hrest hdg (fun r9 u9 H locs hp hw => ?_)
  have hp : r9 = U.2 0 6 := hp.trans (h.rl.1.2.2.2.2.2.2.1)
  rw [hp]
  exact kk H locs hw
theorem d_tradedQuantity (C : Cx l G RL cc nL ret p s m meth c args) (hw : WH G s (cW G K r D X) H locs) (h : Sm c9 D U) {index : Nat} (ml : Cond.methodLink RL index yX11_tradedQuantity ∈ LW) (hR : 2 ≤ R.frames ∧ 84 ≤ R.locals) (hf : cells + 0 ≤ R.cells ∧ slots + 0 ≤ R.slots) (hsz : ls.size = nL) (hrest : (rest.map fun v => v.category).sum ≤ 8) (hdg : decode cc pc = .ok (.invokevirtual index, 3))
    (kk : ∀ (H : Heap) (locs : List Loc), WH G s (cW G K r D X) H locs → W p l e R s m args below meth c H locs (cells + 0) (slots + 0) Q (F0 m (pc + 3) ls (.int (U.2 0 7) :: rest))) : W p l e R s m args below meth c H locs cells slots Q (F0 m pc ls (.ref (K 7 0) :: rest)) := by
  have hF := C.2.2.2.2.2.2.2.2
  refine r_vi C hw (k11_tradedQuantity hF (K := K) (S := D.S) (F := D.F) (X := uwA G K r D X) ) ml yf_X11_tradedQuantity 19 rfl rfl (As := []) rfl rfl ⟨hR.1, hR.2⟩ hf hsz hrest hdg (fun r9 u9 H locs hp hw => ?_)
  have hp : r9 = U.2 0 7 := hp.trans (h.rl.1.2.2.2.2.2.2.2)
  rw [hp]
  exact kk H locs hw
theorem d_isPoolOpen (C : Cx l G RL cc nL ret p s m meth c args) (hw : WH G s (cW G K r D X) H locs) (h : Sm c9 D U) {index : Nat} (ml : Cond.methodLink RL index yX11_isPoolOpen ∈ LW) (hR : 2 ≤ R.frames ∧ 84 ≤ R.locals) (hf : cells + 0 ≤ R.cells ∧ slots + 0 ≤ R.slots) (hsz : ls.size = nL) (hrest : (rest.map fun v => v.category).sum ≤ 8) (hdg : decode cc pc = .ok (.invokevirtual index, 3))
    (kk : ∀ (H : Heap) (locs : List Loc), WH G s (cW G K r D X) H locs → W p l e R s m args below meth c H locs (cells + 0) (slots + 0) Q (F0 m (pc + 3) ls (.int (U.2 0 4) :: rest))) : W p l e R s m args below meth c H locs cells slots Q (F0 m pc ls (.ref (K 7 0) :: rest)) := by
  have hF := C.2.2.2.2.2.2.2.2
  refine r_vi C hw (k11_isPoolOpen hF (K := K) (S := D.S) (F := D.F) (X := uwA G K r D X) h.b2) ml yf_X11_isPoolOpen 19 rfl rfl (As := []) rfl rfl ⟨hR.1, hR.2⟩ hf hsz hrest hdg (fun r9 u9 H locs hp hw => ?_)
  have hp : r9 = U.2 0 4 := hp.trans (h.rl.1.2.2.1)
  rw [hp]
  exact kk H locs hw
theorem d_time (C : Cx l G RL cc nL ret p s m meth c args) (hw : WH G s (cW G K r D X) H locs) (h : Sm c9 D U) {index : Nat} (ml : Cond.methodLink RL index yX11_time ∈ LW) (hR : 2 ≤ R.frames ∧ 84 ≤ R.locals) (hf : cells + 0 ≤ R.cells ∧ slots + 0 ≤ R.slots) (hsz : ls.size = nL) (hrest : (rest.map fun v => v.category).sum ≤ 8) (hdg : decode cc pc = .ok (.invokevirtual index, 3))
    (kk : ∀ (H : Heap) (locs : List Loc), WH G s (cW G K r D X) H locs → W p l e R s m args below meth c H locs (cells + 0) (slots + 0) Q (F0 m (pc + 3) ls (.int (U.2 0 3) :: rest))) : W p l e R s m args below meth c H locs cells slots Q (F0 m pc ls (.ref (K 7 0) :: rest)) := by
  have hF := C.2.2.2.2.2.2.2.2
  refine r_vi C hw (k11_time hF (K := K) (S := D.S) (F := D.F) (X := uwA G K r D X) ) ml yf_X11_time 19 rfl rfl (As := []) rfl rfl ⟨hR.1, hR.2⟩ hf hsz hrest hdg (fun r9 u9 H locs hp hw => ?_)
  have hp : r9 = U.2 0 3 := hp.trans (h.rl.1.2.2.2.1)
  rw [hp]
  exact kk H locs hw
theorem d_totalMoney (C : Cx l G RL cc nL ret p s m meth c args) (hw : WH G s (cW G K r D X) H locs) (h : Sm c9 D U) {index : Nat} (ml : Cond.methodLink RL index yX11_totalMoney ∈ LW) (hR : 3 ≤ R.frames ∧ 148 ≤ R.locals) (hf : cells + 0 ≤ R.cells ∧ slots + 0 ≤ R.slots) (hsz : ls.size = nL) (hrest : (rest.map fun v => v.category).sum ≤ 8) (hdg : decode cc pc = .ok (.invokevirtual index, 3))
    (kk : ∀ (H : Heap) (locs : List Loc), WH G s (cW G K r D X) H locs → W p l e R s m args below meth c H locs (cells + 0) (slots + 0) Q (F0 m (pc + 3) ls (.int (toR (U.2 0) 0 (tF (U.2 0))) :: rest))) : W p l e R s m args below meth c H locs cells slots Q (F0 m pc ls (.ref (K 7 0) :: rest)) := by
  have hF := C.2.2.2.2.2.2.2.2
  refine r_vi C hw (k11_totalMoney hF (K := K) (S := D.S) (F := D.F) (X := uwA G K r D X) ) ml yf_X11_totalMoney 19 rfl rfl (As := []) rfl rfl ⟨hR.1, hR.2⟩ hf hsz hrest hdg (fun r9 u9 H locs hp hw => ?_)
  have hp : r9 = toR (U.2 0) 0 (tF (U.2 0)) := hp.trans (h.rl.tot h.okf (k := 0) (by decide))
  rw [hp]
  exact kk H locs hw
theorem d_totalDrops (C : Cx l G RL cc nL ret p s m meth c args) (hw : WH G s (cW G K r D X) H locs) (h : Sm c9 D U) {index : Nat} (ml : Cond.methodLink RL index yX11_totalDrops ∈ LW) (hR : 3 ≤ R.frames ∧ 148 ≤ R.locals) (hf : cells + 0 ≤ R.cells ∧ slots + 0 ≤ R.slots) (hsz : ls.size = nL) (hrest : (rest.map fun v => v.category).sum ≤ 8) (hdg : decode cc pc = .ok (.invokevirtual index, 3))
    (kk : ∀ (H : Heap) (locs : List Loc), WH G s (cW G K r D X) H locs → W p l e R s m args below meth c H locs (cells + 0) (slots + 0) Q (F0 m (pc + 3) ls (.int (toR (U.2 0) 1 (tF (U.2 0))) :: rest))) : W p l e R s m args below meth c H locs cells slots Q (F0 m pc ls (.ref (K 7 0) :: rest)) := by
  have hF := C.2.2.2.2.2.2.2.2
  refine r_vi C hw (k11_totalDrops hF (K := K) (S := D.S) (F := D.F) (X := uwA G K r D X) ) ml yf_X11_totalDrops 19 rfl rfl (As := []) rfl rfl ⟨hR.1, hR.2⟩ hf hsz hrest hdg (fun r9 u9 H locs hp hw => ?_)
  have hp : r9 = toR (U.2 0) 1 (tF (U.2 0)) := hp.trans (h.rl.tot h.okf (k := 1) (by decide))
  rw [hp]
  exact kk H locs hw
theorem d_turnover (C : Cx l G RL cc nL ret p s m meth c args) (hw : WH G s (cW G K r D X) H locs) (h : Sm c9 D U) {index : Nat} (ml : Cond.methodLink RL index yX11_turnover ∈ LW) (hR : 2 ≤ R.frames ∧ 84 ≤ R.locals) (hf : cells + 0 ≤ R.cells ∧ slots + 0 ≤ R.slots) (hsz : ls.size = nL) (hrest : (rest.map fun v => v.category).sum ≤ 8) (hdg : decode cc pc = .ok (.invokevirtual index, 3))
    (kk : ∀ (H : Heap) (locs : List Loc), WH G s (cW G K r D X) H locs → W p l e R s m args below meth c H locs (cells + 0) (slots + 0) Q (F0 m (pc + 3) ls (.long (U.2 0 8).toInt64 :: rest))) : W p l e R s m args below meth c H locs cells slots Q (F0 m pc ls (.ref (K 7 0) :: rest)) := by
  have hF := C.2.2.2.2.2.2.2.2
  refine r_vl C hw (k11_turnover hF (K := K) (S := D.S) (F := D.F) (X := uwA G K r D X)) ml yf_X11_turnover 19 rfl rfl (As := []) rfl rfl ⟨hR.1, hR.2⟩ hf hsz hrest hdg (fun r9 u9 H locs hp hw => ?_)
  have hp : r9 = (U.2 0 8).toInt64 := hp.trans h.rl.2.1
  rw [hp]
  exact kk H locs hw
end DROWS
