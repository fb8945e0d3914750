set_option maxHeartbeats 4000000 in
set_option maxRecDepth 100000 in
theorem lit_203 {l : Launch} {G : Gx} (hF : SF l G) : ∃ a, vk_R "DropMarketModel" 203 " " a G.2.1 ∧ StrAt G a [32] := by
  obtain ⟨b, hb, hn⟩ := hF.2.2.2.2
  have hs := flat_of_before _ hn
  refine lit_of (L := [32]) (by decide) (hb (Cond.stringRef "DropMarketModel" 203 " ") (by decide +kernel)) (hs _ (List.mem_of_getElem? (i := 1194) rfl)) (hs _ (List.mem_of_getElem? (i := 1195) rfl)) (hs _ (List.mem_of_getElem? (i := 1196) rfl)) (hs _ (List.mem_of_getElem? (i := 1197) rfl)) ?_
  intro j hj
  match j, hj with
    | 0, _ => exact hs _ (List.mem_of_getElem? (i := 1198) rfl)
    | j + 1, hj => exact absurd hj (by simp)
