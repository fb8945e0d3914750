set_option maxHeartbeats 4000000 in
set_option maxRecDepth 100000 in
theorem lit_203 {l : Launch} {G : Gx} (hF : SF l G) : ∃ a, vk_R "DropMarketModel" 203 " " a G.2.1 ∧ StrAt G a [32] := by
  obtain ⟨b, hb, hn⟩ := hF.2.2.2.2
  have hs := flat_of_before _ hn
  refine lit_of (L := [32]) (by decide) (hb (Cond.stringRef "DropMarketModel" 203 " ") (by decide +kernel)) (hs _ (List.mem_of_getElem? (i := 1194) rfl)) (hs _ (List.mem_of_getElem? (i := 1195) rfl)) (hs _ (List.mem_of_getElem? (i := 1196) rfl)) (hs _ (List.mem_of_getElem? (i := 1197) rfl)) ?_
  intro j hj
  match j, hj with
    | 0, _ => exact hs _ (List.mem_of_getElem? (i := 1198) rfl)
    | j + 1, hj => exact absurd hj (by simp)
set_option maxHeartbeats 4000000 in
set_option maxRecDepth 100000 in
theorem lit_216 {l : Launch} {G : Gx} (hF : SF l G) : ∃ a, vk_R "DropMarketModel" 216 "stall" a G.2.1 ∧ StrAt G a [115, 116, 97, 108, 108] := by
  obtain ⟨b, hb, hn⟩ := hF.2.2.2.2
  have hs := flat_of_before _ hn
  refine lit_of (L := [115, 116, 97, 108, 108]) (by decide) (hb (Cond.stringRef "DropMarketModel" 216 "stall") (by decide +kernel)) (hs _ (List.mem_of_getElem? (i := 1185) rfl)) (hs _ (List.mem_of_getElem? (i := 1186) rfl)) (hs _ (List.mem_of_getElem? (i := 1187) rfl)) (hs _ (List.mem_of_getElem? (i := 1188) rfl)) ?_
  intro j hj
  match j, hj with
    | 0, _ => exact hs _ (List.mem_of_getElem? (i := 1189) rfl)
    | 1, _ => exact hs _ (List.mem_of_getElem? (i := 1190) rfl)
    | 2, _ => exact hs _ (List.mem_of_getElem? (i := 1191) rfl)
    | 3, _ => exact hs _ (List.mem_of_getElem? (i := 1192) rfl)
    | 4, _ => exact hs _ (List.mem_of_getElem? (i := 1193) rfl)
    | j + 5, hj => exact absurd hj (by simp)
set_option maxHeartbeats 4000000 in
set_option maxRecDepth 100000 in
theorem lit_220 {l : Launch} {G : Gx} (hF : SF l G) : ∃ a, vk_R "DropMarketModel" 220 "buy" a G.2.1 ∧ StrAt G a [98, 117, 121] := by
  obtain ⟨b, hb, hn⟩ := hF.2.2.2.2
  have hs := flat_of_before _ hn
  refine lit_of (L := [98, 117, 121]) (by decide) (hb (Cond.stringRef "DropMarketModel" 220 "buy") (by decide +kernel)) (hs _ (List.mem_of_getElem? (i := 1199) rfl)) (hs _ (List.mem_of_getElem? (i := 1200) rfl)) (hs _ (List.mem_of_getElem? (i := 1201) rfl)) (hs _ (List.mem_of_getElem? (i := 1202) rfl)) ?_
  intro j hj
  match j, hj with
    | 0, _ => exact hs _ (List.mem_of_getElem? (i := 1203) rfl)
    | 1, _ => exact hs _ (List.mem_of_getElem? (i := 1204) rfl)
    | 2, _ => exact hs _ (List.mem_of_getElem? (i := 1205) rfl)
    | j + 3, hj => exact absurd hj (by simp)
set_option maxHeartbeats 4000000 in
set_option maxRecDepth 100000 in
theorem lit_222 {l : Launch} {G : Gx} (hF : SF l G) : ∃ a, vk_R "DropMarketModel" 222 "sell" a G.2.1 ∧ StrAt G a [115, 101, 108, 108] := by
  obtain ⟨b, hb, hn⟩ := hF.2.2.2.2
  have hs := flat_of_before _ hn
  refine lit_of (L := [115, 101, 108, 108]) (by decide) (hb (Cond.stringRef "DropMarketModel" 222 "sell") (by decide +kernel)) (hs _ (List.mem_of_getElem? (i := 1206) rfl)) (hs _ (List.mem_of_getElem? (i := 1207) rfl)) (hs _ (List.mem_of_getElem? (i := 1208) rfl)) (hs _ (List.mem_of_getElem? (i := 1209) rfl)) ?_
  intro j hj
  match j, hj with
    | 0, _ => exact hs _ (List.mem_of_getElem? (i := 1210) rfl)
    | 1, _ => exact hs _ (List.mem_of_getElem? (i := 1211) rfl)
    | 2, _ => exact hs _ (List.mem_of_getElem? (i := 1212) rfl)
    | 3, _ => exact hs _ (List.mem_of_getElem? (i := 1213) rfl)
    | j + 4, hj => exact absurd hj (by simp)
set_option maxHeartbeats 4000000 in
set_option maxRecDepth 100000 in
theorem lit_224 {l : Launch} {G : Gx} (hF : SF l G) : ∃ a, vk_R "DropMarketModel" 224 "cancel" a G.2.1 ∧ StrAt G a [99, 97, 110, 99, 101, 108] := by
  obtain ⟨b, hb, hn⟩ := hF.2.2.2.2
  have hs := flat_of_before _ hn
  refine lit_of (L := [99, 97, 110, 99, 101, 108]) (by decide) (hb (Cond.stringRef "DropMarketModel" 224 "cancel") (by decide +kernel)) (hs _ (List.mem_of_getElem? (i := 1214) rfl)) (hs _ (List.mem_of_getElem? (i := 1215) rfl)) (hs _ (List.mem_of_getElem? (i := 1216) rfl)) (hs _ (List.mem_of_getElem? (i := 1217) rfl)) ?_
  intro j hj
  match j, hj with
    | 0, _ => exact hs _ (List.mem_of_getElem? (i := 1218) rfl)
    | 1, _ => exact hs _ (List.mem_of_getElem? (i := 1219) rfl)
    | 2, _ => exact hs _ (List.mem_of_getElem? (i := 1220) rfl)
    | 3, _ => exact hs _ (List.mem_of_getElem? (i := 1221) rfl)
    | 4, _ => exact hs _ (List.mem_of_getElem? (i := 1222) rfl)
    | 5, _ => exact hs _ (List.mem_of_getElem? (i := 1223) rfl)
    | j + 6, hj => exact absurd hj (by simp)
set_option maxHeartbeats 4000000 in
set_option maxRecDepth 100000 in
theorem lit_226 {l : Launch} {G : Gx} (hF : SF l G) : ∃ a, vk_R "DropMarketModel" 226 "pass" a G.2.1 ∧ StrAt G a [112, 97, 115, 115] := by
  obtain ⟨b, hb, hn⟩ := hF.2.2.2.2
  have hs := flat_of_before _ hn
  refine lit_of (L := [112, 97, 115, 115]) (by decide) (hb (Cond.stringRef "DropMarketModel" 226 "pass") (by decide +kernel)) (hs _ (List.mem_of_getElem? (i := 1224) rfl)) (hs _ (List.mem_of_getElem? (i := 1225) rfl)) (hs _ (List.mem_of_getElem? (i := 1226) rfl)) (hs _ (List.mem_of_getElem? (i := 1227) rfl)) ?_
  intro j hj
  match j, hj with
    | 0, _ => exact hs _ (List.mem_of_getElem? (i := 1228) rfl)
    | 1, _ => exact hs _ (List.mem_of_getElem? (i := 1229) rfl)
    | 2, _ => exact hs _ (List.mem_of_getElem? (i := 1230) rfl)
    | 3, _ => exact hs _ (List.mem_of_getElem? (i := 1231) rfl)
    | j + 4, hj => exact absurd hj (by simp)
set_option maxHeartbeats 4000000 in
set_option maxRecDepth 100000 in
theorem lit_228 {l : Launch} {G : Gx} (hF : SF l G) : ∃ a, vk_R "DropMarketModel" 228 "close" a G.2.1 ∧ StrAt G a [99, 108, 111, 115, 101] := by
  obtain ⟨b, hb, hn⟩ := hF.2.2.2.2
  have hs := flat_of_before _ hn
  refine lit_of (L := [99, 108, 111, 115, 101]) (by decide) (hb (Cond.stringRef "DropMarketModel" 228 "close") (by decide +kernel)) (hs _ (List.mem_of_getElem? (i := 1232) rfl)) (hs _ (List.mem_of_getElem? (i := 1233) rfl)) (hs _ (List.mem_of_getElem? (i := 1234) rfl)) (hs _ (List.mem_of_getElem? (i := 1235) rfl)) ?_
  intro j hj
  match j, hj with
    | 0, _ => exact hs _ (List.mem_of_getElem? (i := 1236) rfl)
    | 1, _ => exact hs _ (List.mem_of_getElem? (i := 1237) rfl)
    | 2, _ => exact hs _ (List.mem_of_getElem? (i := 1238) rfl)
    | 3, _ => exact hs _ (List.mem_of_getElem? (i := 1239) rfl)
    | 4, _ => exact hs _ (List.mem_of_getElem? (i := 1240) rfl)
    | j + 5, hj => exact absurd hj (by simp)
set_option maxHeartbeats 4000000 in
set_option maxRecDepth 100000 in
theorem lit_230 {l : Launch} {G : Gx} (hF : SF l G) : ∃ a, vk_R "DropMarketModel" 230 "open" a G.2.1 ∧ StrAt G a [111, 112, 101, 110] := by
  obtain ⟨b, hb, hn⟩ := hF.2.2.2.2
  have hs := flat_of_before _ hn
  refine lit_of (L := [111, 112, 101, 110]) (by decide) (hb (Cond.stringRef "DropMarketModel" 230 "open") (by decide +kernel)) (hs _ (List.mem_of_getElem? (i := 1241) rfl)) (hs _ (List.mem_of_getElem? (i := 1242) rfl)) (hs _ (List.mem_of_getElem? (i := 1243) rfl)) (hs _ (List.mem_of_getElem? (i := 1244) rfl)) ?_
  intro j hj
  match j, hj with
    | 0, _ => exact hs _ (List.mem_of_getElem? (i := 1245) rfl)
    | 1, _ => exact hs _ (List.mem_of_getElem? (i := 1246) rfl)
    | 2, _ => exact hs _ (List.mem_of_getElem? (i := 1247) rfl)
    | 3, _ => exact hs _ (List.mem_of_getElem? (i := 1248) rfl)
    | j + 4, hj => exact absurd hj (by simp)
