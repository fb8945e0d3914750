/-! Texts that stand at the start -/
section LDC
variable {p : Program} {l : Launch} {e : Env} {R : Room} {s : State} {m : MethodId} {args : Array Value} {below : List Frame} {meth : Method} {c : Code} {H : Heap} {locs : List Loc} {cells slots : Nat} {Q : State → Prop}
variable {G : Gx} {own : String} {cc : ByteArray} {nL : Nat} {ret : Option FieldType} {pc : Nat} {ls : Array Slot} {rest st : List Value} {w : va_W}
theorem r_ldcS (C : Cx l G own cc nL ret p s m meth c args) {index q : Nat} {tx : String} (h : vk_R own index tx q G.2.1) (hdg : decode cc pc = .ok (.ldc index, 2))
    (kk : W p l e R s m args below meth c H locs cells slots Q (F0 m (pc + 2) ls (.ref q :: rest))) : W p l e R s m args below meth c H locs cells slots Q (F0 m pc ls rest) := by
  obtain ⟨hx, hb, hr, hml, hown, hts, -, hW, hF⟩ := id C
  exact va_ldcS hx hb hown (h.warm hW) hdg kk
end LDC
theorem lit_of {G : Gx} {own tx : String} {k b : Nat} {L : List Int32} (hL : L.length < 2 ^ 31) (h1 : (Cond.stringRef own k tx).before #[Value.ref b] G.2.1 = true) (h2 : (Cond.exactly (.string own k) "java/lang/String").before #[Value.ref b] G.2.1 = true) (h3 : (Cond.eq (.field (.string own k) "java/lang/String" "coder" "B") (.int 0)).before #[Value.ref b] G.2.1 = true)
    (h4 : (Cond.arrayOf (.field (.string own k) "java/lang/String" "value" "[B") .byte).before #[Value.ref b] G.2.1 = true) (h5 : (Cond.eq (.length (.field (.string own k) "java/lang/String" "value" "[B")) (.int (Int32.ofNat L.length))).before #[Value.ref b] G.2.1 = true)
    (h6 : ∀ j : Nat, j < L.length → (Cond.eq (.elem (.field (.string own k) "java/lang/String" "value" "[B") (.int (Int32.ofNat j))) (.int (L.getD j 0))).before #[Value.ref b] G.2.1 = true) : ∃ a, vk_R own k tx a G.2.1 ∧ StrAt G a L := by
  obtain ⟨adK, adV, hS, hE⟩ := vk_Sof (args := #[Value.ref b]) (s := G.2.1) (N := 1) (tm := fun _ => .string own k) (len := [L.length]) (byt := [L]) (A := gA G)
    (fun i hi => by have q := Nat.lt_one_iff.mp hi; subst q; exact hL) (fun i hi => h2) (fun i hi => h3) (fun i hi => h4) (fun i hi => by have q := Nat.lt_one_iff.mp hi; subst q; exact h5) (fun i hi j hj => by have q := Nat.lt_one_iff.mp hi; subst q; exact h6 j hj) (fun i j hi hj hij => absurd (by omega : i = j) hij) (gA_no G)
  obtain ⟨g1, g2, g3, g4⟩ := hS.1 0 (by omega)
  exact ⟨adK 0, vk_R.of h1 (hE 0 (by omega)), adV 0, g1, g2, g3, g4⟩


set_option maxHeartbeats 4000000 in
set_option maxRecDepth 100000 in
theorem lit_312 {l : Launch} {G : Gx} (hF : SF l G) : ∃ a, vk_R "DropMarketLaw" 312 "b" a G.2.1 ∧ StrAt G a [98] := by
  obtain ⟨b, hb, hn⟩ := hF.2.2.2.2
  have hs := flat_of_before _ hn
  refine lit_of (L := [98]) (by decide) (hb (Cond.stringRef "DropMarketLaw" 312 "b") (by decide +kernel)) (hs _ (List.mem_of_getElem? (i := 825) rfl)) (hs _ (List.mem_of_getElem? (i := 826) rfl)) (hs _ (List.mem_of_getElem? (i := 827) rfl)) (hs _ (List.mem_of_getElem? (i := 828) rfl)) ?_
  intro j hj
  match j, hj with
    | 0, _ => exact hs _ (List.mem_of_getElem? (i := 829) rfl)
    | j + 1, hj => exact absurd hj (by simp)
set_option maxHeartbeats 4000000 in
set_option maxRecDepth 100000 in
theorem lit_314 {l : Launch} {G : Gx} (hF : SF l G) : ∃ a, vk_R "DropMarketLaw" 314 "s" a G.2.1 ∧ StrAt G a [115] := by
  obtain ⟨b, hb, hn⟩ := hF.2.2.2.2
  have hs := flat_of_before _ hn
  refine lit_of (L := [115]) (by decide) (hb (Cond.stringRef "DropMarketLaw" 314 "s") (by decide +kernel)) (hs _ (List.mem_of_getElem? (i := 830) rfl)) (hs _ (List.mem_of_getElem? (i := 831) rfl)) (hs _ (List.mem_of_getElem? (i := 832) rfl)) (hs _ (List.mem_of_getElem? (i := 833) rfl)) ?_
  intro j hj
  match j, hj with
    | 0, _ => exact hs _ (List.mem_of_getElem? (i := 834) rfl)
    | j + 1, hj => exact absurd hj (by simp)
set_option maxHeartbeats 4000000 in
set_option maxRecDepth 100000 in
theorem lit_319 {l : Launch} {G : Gx} (hF : SF l G) : ∃ a, vk_R "DropMarketLaw" 319 "x" a G.2.1 ∧ StrAt G a [120] := by
  obtain ⟨b, hb, hn⟩ := hF.2.2.2.2
  have hs := flat_of_before _ hn
  refine lit_of (L := [120]) (by decide) (hb (Cond.stringRef "DropMarketLaw" 319 "x") (by decide +kernel)) (hs _ (List.mem_of_getElem? (i := 835) rfl)) (hs _ (List.mem_of_getElem? (i := 836) rfl)) (hs _ (List.mem_of_getElem? (i := 837) rfl)) (hs _ (List.mem_of_getElem? (i := 838) rfl)) ?_
  intro j hj
  match j, hj with
    | 0, _ => exact hs _ (List.mem_of_getElem? (i := 839) rfl)
    | j + 1, hj => exact absurd hj (by simp)
set_option maxHeartbeats 4000000 in
set_option maxRecDepth 100000 in
theorem lit_331 {l : Launch} {G : Gx} (hF : SF l G) : ∃ a, vk_R "DropMarketLaw" 331 "-" a G.2.1 ∧ StrAt G a [45] := by
  obtain ⟨b, hb, hn⟩ := hF.2.2.2.2
  have hs := flat_of_before _ hn
  refine lit_of (L := [45]) (by decide) (hb (Cond.stringRef "DropMarketLaw" 331 "-") (by decide +kernel)) (hs _ (List.mem_of_getElem? (i := 964) rfl)) (hs _ (List.mem_of_getElem? (i := 965) rfl)) (hs _ (List.mem_of_getElem? (i := 966) rfl)) (hs _ (List.mem_of_getElem? (i := 967) rfl)) ?_
  intro j hj
  match j, hj with
    | 0, _ => exact hs _ (List.mem_of_getElem? (i := 968) rfl)
    | j + 1, hj => exact absurd hj (by simp)
set_option maxHeartbeats 4000000 in
set_option maxRecDepth 100000 in
theorem lit_333 {l : Launch} {G : Gx} (hF : SF l G) : ∃ a, vk_R "DropMarketLaw" 333 "/" a G.2.1 ∧ StrAt G a [47] := by
  obtain ⟨b, hb, hn⟩ := hF.2.2.2.2
  have hs := flat_of_before _ hn
  refine lit_of (L := [47]) (by decide) (hb (Cond.stringRef "DropMarketLaw" 333 "/") (by decide +kernel)) (hs _ (List.mem_of_getElem? (i := 969) rfl)) (hs _ (List.mem_of_getElem? (i := 970) rfl)) (hs _ (List.mem_of_getElem? (i := 971) rfl)) (hs _ (List.mem_of_getElem? (i := 972) rfl)) ?_
  intro j hj
  match j, hj with
    | 0, _ => exact hs _ (List.mem_of_getElem? (i := 973) rfl)
    | j + 1, hj => exact absurd hj (by simp)
set_option maxHeartbeats 4000000 in
set_option maxRecDepth 100000 in
theorem lit_361 {l : Launch} {G : Gx} (hF : SF l G) : ∃ a, vk_R "DropMarketLaw" 361 "buy " a G.2.1 ∧ StrAt G a [98, 117, 121, 32] := by
  obtain ⟨b, hb, hn⟩ := hF.2.2.2.2
  have hs := flat_of_before _ hn
  refine lit_of (L := [98, 117, 121, 32]) (by decide) (hb (Cond.stringRef "DropMarketLaw" 361 "buy ") (by decide +kernel)) (hs _ (List.mem_of_getElem? (i := 974) rfl)) (hs _ (List.mem_of_getElem? (i := 975) rfl)) (hs _ (List.mem_of_getElem? (i := 976) rfl)) (hs _ (List.mem_of_getElem? (i := 977) rfl)) ?_
  intro j hj
  match j, hj with
    | 0, _ => exact hs _ (List.mem_of_getElem? (i := 978) rfl)
    | 1, _ => exact hs _ (List.mem_of_getElem? (i := 979) rfl)
    | 2, _ => exact hs _ (List.mem_of_getElem? (i := 980) rfl)
    | 3, _ => exact hs _ (List.mem_of_getElem? (i := 981) rfl)
    | j + 4, hj => exact absurd hj (by simp)
set_option maxHeartbeats 4000000 in
set_option maxRecDepth 100000 in
theorem lit_363 {l : Launch} {G : Gx} (hF : SF l G) : ∃ a, vk_R "DropMarketLaw" 363 " " a G.2.1 ∧ StrAt G a [32] := by
  obtain ⟨b, hb, hn⟩ := hF.2.2.2.2
  have hs := flat_of_before _ hn
  refine lit_of (L := [32]) (by decide) (hb (Cond.stringRef "DropMarketLaw" 363 " ") (by decide +kernel)) (hs _ (List.mem_of_getElem? (i := 982) rfl)) (hs _ (List.mem_of_getElem? (i := 983) rfl)) (hs _ (List.mem_of_getElem? (i := 984) rfl)) (hs _ (List.mem_of_getElem? (i := 985) rfl)) ?_
  intro j hj
  match j, hj with
    | 0, _ => exact hs _ (List.mem_of_getElem? (i := 986) rfl)
    | j + 1, hj => exact absurd hj (by simp)
set_option maxHeartbeats 4000000 in
set_option maxRecDepth 100000 in
theorem lit_365 {l : Launch} {G : Gx} (hF : SF l G) : ∃ a, vk_R "DropMarketLaw" 365 ";pass 1;sell " a G.2.1 ∧ StrAt G a [59, 112, 97, 115, 115, 32, 49, 59, 115, 101, 108, 108, 32] := by
  obtain ⟨b, hb, hn⟩ := hF.2.2.2.2
  have hs := flat_of_before _ hn
  refine lit_of (L := [59, 112, 97, 115, 115, 32, 49, 59, 115, 101, 108, 108, 32]) (by decide) (hb (Cond.stringRef "DropMarketLaw" 365 ";pass 1;sell ") (by decide +kernel)) (hs _ (List.mem_of_getElem? (i := 987) rfl)) (hs _ (List.mem_of_getElem? (i := 988) rfl)) (hs _ (List.mem_of_getElem? (i := 989) rfl)) (hs _ (List.mem_of_getElem? (i := 990) rfl)) ?_
  intro j hj
  match j, hj with
    | 0, _ => exact hs _ (List.mem_of_getElem? (i := 991) rfl)
    | 1, _ => exact hs _ (List.mem_of_getElem? (i := 992) rfl)
    | 2, _ => exact hs _ (List.mem_of_getElem? (i := 993) rfl)
    | 3, _ => exact hs _ (List.mem_of_getElem? (i := 994) rfl)
    | 4, _ => exact hs _ (List.mem_of_getElem? (i := 995) rfl)
    | 5, _ => exact hs _ (List.mem_of_getElem? (i := 996) rfl)
    | 6, _ => exact hs _ (List.mem_of_getElem? (i := 997) rfl)
    | 7, _ => exact hs _ (List.mem_of_getElem? (i := 998) rfl)
    | 8, _ => exact hs _ (List.mem_of_getElem? (i := 999) rfl)
    | 9, _ => exact hs _ (List.mem_of_getElem? (i := 1000) rfl)
    | 10, _ => exact hs _ (List.mem_of_getElem? (i := 1001) rfl)
    | 11, _ => exact hs _ (List.mem_of_getElem? (i := 1002) rfl)
    | 12, _ => exact hs _ (List.mem_of_getElem? (i := 1003) rfl)
    | j + 13, hj => exact absurd hj (by simp)
set_option maxHeartbeats 4000000 in
set_option maxRecDepth 100000 in
theorem lit_367 {l : Launch} {G : Gx} (hF : SF l G) : ∃ a, vk_R "DropMarketLaw" 367 " 3" a G.2.1 ∧ StrAt G a [32, 51] := by
  obtain ⟨b, hb, hn⟩ := hF.2.2.2.2
  have hs := flat_of_before _ hn
  refine lit_of (L := [32, 51]) (by decide) (hb (Cond.stringRef "DropMarketLaw" 367 " 3") (by decide +kernel)) (hs _ (List.mem_of_getElem? (i := 1004) rfl)) (hs _ (List.mem_of_getElem? (i := 1005) rfl)) (hs _ (List.mem_of_getElem? (i := 1006) rfl)) (hs _ (List.mem_of_getElem? (i := 1007) rfl)) ?_
  intro j hj
  match j, hj with
    | 0, _ => exact hs _ (List.mem_of_getElem? (i := 1008) rfl)
    | 1, _ => exact hs _ (List.mem_of_getElem? (i := 1009) rfl)
    | j + 2, hj => exact absurd hj (by simp)
set_option maxHeartbeats 4000000 in
set_option maxRecDepth 100000 in
theorem vli_56 {l : Launch} {G : Gx} (hF : SF l G) : ∃ a, vk_R "DropMarket$Verb" 56 "stall" a G.2.1 ∧ StrAt G a [115, 116, 97, 108, 108] := by
  obtain ⟨b, hb, hn⟩ := hF.2.2.2.2
  have hs := flat_of_before _ hn
  refine lit_of (L := [115, 116, 97, 108, 108]) (by decide) (hb (Cond.stringRef "DropMarket$Verb" 56 "stall") (by decide +kernel)) (hs _ (List.mem_of_getElem? (i := 1144) rfl)) (hs _ (List.mem_of_getElem? (i := 1145) rfl)) (hs _ (List.mem_of_getElem? (i := 1146) rfl)) (hs _ (List.mem_of_getElem? (i := 1147) rfl)) ?_
  intro j hj
  match j, hj with
    | 0, _ => exact hs _ (List.mem_of_getElem? (i := 1148) rfl)
    | 1, _ => exact hs _ (List.mem_of_getElem? (i := 1149) rfl)
    | 2, _ => exact hs _ (List.mem_of_getElem? (i := 1150) rfl)
    | 3, _ => exact hs _ (List.mem_of_getElem? (i := 1151) rfl)
    | 4, _ => exact hs _ (List.mem_of_getElem? (i := 1152) rfl)
    | j + 5, hj => exact absurd hj (by simp)
set_option maxHeartbeats 4000000 in
set_option maxRecDepth 100000 in
theorem vli_62 {l : Launch} {G : Gx} (hF : SF l G) : ∃ a, vk_R "DropMarket$Verb" 62 "buy" a G.2.1 ∧ StrAt G a [98, 117, 121] := by
  obtain ⟨b, hb, hn⟩ := hF.2.2.2.2
  have hs := flat_of_before _ hn
  refine lit_of (L := [98, 117, 121]) (by decide) (hb (Cond.stringRef "DropMarket$Verb" 62 "buy") (by decide +kernel)) (hs _ (List.mem_of_getElem? (i := 1153) rfl)) (hs _ (List.mem_of_getElem? (i := 1154) rfl)) (hs _ (List.mem_of_getElem? (i := 1155) rfl)) (hs _ (List.mem_of_getElem? (i := 1156) rfl)) ?_
  intro j hj
  match j, hj with
    | 0, _ => exact hs _ (List.mem_of_getElem? (i := 1157) rfl)
    | 1, _ => exact hs _ (List.mem_of_getElem? (i := 1158) rfl)
    | 2, _ => exact hs _ (List.mem_of_getElem? (i := 1159) rfl)
    | j + 3, hj => exact absurd hj (by simp)
set_option maxHeartbeats 4000000 in
set_option maxRecDepth 100000 in
theorem vli_65 {l : Launch} {G : Gx} (hF : SF l G) : ∃ a, vk_R "DropMarket$Verb" 65 "sell" a G.2.1 ∧ StrAt G a [115, 101, 108, 108] := by
  obtain ⟨b, hb, hn⟩ := hF.2.2.2.2
  have hs := flat_of_before _ hn
  refine lit_of (L := [115, 101, 108, 108]) (by decide) (hb (Cond.stringRef "DropMarket$Verb" 65 "sell") (by decide +kernel)) (hs _ (List.mem_of_getElem? (i := 1160) rfl)) (hs _ (List.mem_of_getElem? (i := 1161) rfl)) (hs _ (List.mem_of_getElem? (i := 1162) rfl)) (hs _ (List.mem_of_getElem? (i := 1163) rfl)) ?_
  intro j hj
  match j, hj with
    | 0, _ => exact hs _ (List.mem_of_getElem? (i := 1164) rfl)
    | 1, _ => exact hs _ (List.mem_of_getElem? (i := 1165) rfl)
    | 2, _ => exact hs _ (List.mem_of_getElem? (i := 1166) rfl)
    | 3, _ => exact hs _ (List.mem_of_getElem? (i := 1167) rfl)
    | j + 4, hj => exact absurd hj (by simp)
set_option maxHeartbeats 4000000 in
set_option maxRecDepth 100000 in
theorem vli_68 {l : Launch} {G : Gx} (hF : SF l G) : ∃ a, vk_R "DropMarket$Verb" 68 "cancel" a G.2.1 ∧ StrAt G a [99, 97, 110, 99, 101, 108] := by
  obtain ⟨b, hb, hn⟩ := hF.2.2.2.2
  have hs := flat_of_before _ hn
  refine lit_of (L := [99, 97, 110, 99, 101, 108]) (by decide) (hb (Cond.stringRef "DropMarket$Verb" 68 "cancel") (by decide +kernel)) (hs _ (List.mem_of_getElem? (i := 1168) rfl)) (hs _ (List.mem_of_getElem? (i := 1169) rfl)) (hs _ (List.mem_of_getElem? (i := 1170) rfl)) (hs _ (List.mem_of_getElem? (i := 1171) rfl)) ?_
  intro j hj
  match j, hj with
    | 0, _ => exact hs _ (List.mem_of_getElem? (i := 1172) rfl)
    | 1, _ => exact hs _ (List.mem_of_getElem? (i := 1173) rfl)
    | 2, _ => exact hs _ (List.mem_of_getElem? (i := 1174) rfl)
    | 3, _ => exact hs _ (List.mem_of_getElem? (i := 1175) rfl)
    | 4, _ => exact hs _ (List.mem_of_getElem? (i := 1176) rfl)
    | 5, _ => exact hs _ (List.mem_of_getElem? (i := 1177) rfl)
    | j + 6, hj => exact absurd hj (by simp)
set_option maxHeartbeats 4000000 in
set_option maxRecDepth 100000 in
theorem vli_71 {l : Launch} {G : Gx} (hF : SF l G) : ∃ a, vk_R "DropMarket$Verb" 71 "pass" a G.2.1 ∧ StrAt G a [112, 97, 115, 115] := by
  obtain ⟨b, hb, hn⟩ := hF.2.2.2.2
  have hs := flat_of_before _ hn
  refine lit_of (L := [112, 97, 115, 115]) (by decide) (hb (Cond.stringRef "DropMarket$Verb" 71 "pass") (by decide +kernel)) (hs _ (List.mem_of_getElem? (i := 1178) rfl)) (hs _ (List.mem_of_getElem? (i := 1179) rfl)) (hs _ (List.mem_of_getElem? (i := 1180) rfl)) (hs _ (List.mem_of_getElem? (i := 1181) rfl)) ?_
  intro j hj
  match j, hj with
    | 0, _ => exact hs _ (List.mem_of_getElem? (i := 1182) rfl)
    | 1, _ => exact hs _ (List.mem_of_getElem? (i := 1183) rfl)
    | 2, _ => exact hs _ (List.mem_of_getElem? (i := 1184) rfl)
    | 3, _ => exact hs _ (List.mem_of_getElem? (i := 1185) rfl)
    | j + 4, hj => exact absurd hj (by simp)
set_option maxHeartbeats 4000000 in
set_option maxRecDepth 100000 in
theorem vli_74 {l : Launch} {G : Gx} (hF : SF l G) : ∃ a, vk_R "DropMarket$Verb" 74 "open" a G.2.1 ∧ StrAt G a [111, 112, 101, 110] := by
  obtain ⟨b, hb, hn⟩ := hF.2.2.2.2
  have hs := flat_of_before _ hn
  refine lit_of (L := [111, 112, 101, 110]) (by decide) (hb (Cond.stringRef "DropMarket$Verb" 74 "open") (by decide +kernel)) (hs _ (List.mem_of_getElem? (i := 1136) rfl)) (hs _ (List.mem_of_getElem? (i := 1137) rfl)) (hs _ (List.mem_of_getElem? (i := 1138) rfl)) (hs _ (List.mem_of_getElem? (i := 1139) rfl)) ?_
  intro j hj
  match j, hj with
    | 0, _ => exact hs _ (List.mem_of_getElem? (i := 1140) rfl)
    | 1, _ => exact hs _ (List.mem_of_getElem? (i := 1141) rfl)
    | 2, _ => exact hs _ (List.mem_of_getElem? (i := 1142) rfl)
    | 3, _ => exact hs _ (List.mem_of_getElem? (i := 1143) rfl)
    | j + 4, hj => exact absurd hj (by simp)
set_option maxHeartbeats 4000000 in
set_option maxRecDepth 100000 in
theorem vli_77 {l : Launch} {G : Gx} (hF : SF l G) : ∃ a, vk_R "DropMarket$Verb" 77 "close" a G.2.1 ∧ StrAt G a [99, 108, 111, 115, 101] := by
  obtain ⟨b, hb, hn⟩ := hF.2.2.2.2
  have hs := flat_of_before _ hn
  refine lit_of (L := [99, 108, 111, 115, 101]) (by decide) (hb (Cond.stringRef "DropMarket$Verb" 77 "close") (by decide +kernel)) (hs _ (List.mem_of_getElem? (i := 1186) rfl)) (hs _ (List.mem_of_getElem? (i := 1187) rfl)) (hs _ (List.mem_of_getElem? (i := 1188) rfl)) (hs _ (List.mem_of_getElem? (i := 1189) rfl)) ?_
  intro j hj
  match j, hj with
    | 0, _ => exact hs _ (List.mem_of_getElem? (i := 1190) rfl)
    | 1, _ => exact hs _ (List.mem_of_getElem? (i := 1191) rfl)
    | 2, _ => exact hs _ (List.mem_of_getElem? (i := 1192) rfl)
    | 3, _ => exact hs _ (List.mem_of_getElem? (i := 1193) rfl)
    | 4, _ => exact hs _ (List.mem_of_getElem? (i := 1194) rfl)
    | j + 5, hj => exact absurd hj (by simp)
