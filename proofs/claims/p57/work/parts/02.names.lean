/-! ===== BEGIN printed: names, fields, word lists, decode rows ===== -/
def RX0 : String := "DropMarket$1"
def TX0 : u_T := fun k => match k with
  | _ => ("", "", "", false)
def tyX0 : Nat → FieldType := fun k => match k with
  | _ => .int
abbrev wsX00 : List Cond := u_ws RX0 TX0 0
theorem nmX0 : ∀ a, a < 0 → ∀ b, b < 0 → a ≠ b → (TX0 a).2.1 ≠ (TX0 b).2.1 := by decide +kernel
theorem tyX0_ok : ∀ k, k < 0 → parseFieldDescriptor (TX0 k).2.2.1 = some (tyX0 k) := by decide +kernel
def RX1 : String := "DropMarket$Book"
def TX1 : u_T := fun k => match k with
  | 0 => ("DropMarket$Book", "numbers", "LDropMarket$Row;", true)
  | 1 => ("DropMarket$Book", "stalls", "LDropMarket$Row;", true)
  | 2 => ("DropMarket$Book", "sides", "LDropMarket$Row;", true)
  | 3 => ("DropMarket$Book", "prices", "LDropMarket$Row;", true)
  | 4 => ("DropMarket$Book", "quantities", "LDropMarket$Row;", true)
  | 5 => ("DropMarket$Book", "minutes", "LDropMarket$Row;", true)
  | _ => ("DropMarket$Book", "count", "I", false)
def tyX1 : Nat → FieldType := fun k => match k with
  | 0 => .object "DropMarket$Row"
  | 1 => .object "DropMarket$Row"
  | 2 => .object "DropMarket$Row"
  | 3 => .object "DropMarket$Row"
  | 4 => .object "DropMarket$Row"
  | 5 => .object "DropMarket$Row"
  | _ => .int
abbrev wsX10 : List Cond := u_ws RX1 TX1 7
theorem nmX1 : ∀ a, a < 7 → ∀ b, b < 7 → a ≠ b → (TX1 a).2.1 ≠ (TX1 b).2.1 := by decide +kernel
theorem tyX1_ok : ∀ k, k < 7 → parseFieldDescriptor (TX1 k).2.2.1 = some (tyX1 k) := by decide +kernel
abbrev cX1_init : ByteArray := prog_3_method_1_code
def yX1_init : MethodName := ⟨RX1, "<init>", "()V"⟩
abbrev cX1_isFull : ByteArray := prog_3_method_2_code
def yX1_isFull : MethodName := ⟨RX1, "isFull", "()Z"⟩
abbrev cX1_buys : ByteArray := prog_3_method_3_code
def yX1_buys : MethodName := ⟨RX1, "buys", "(I)Z"⟩
abbrev cX1_slotOf : ByteArray := prog_3_method_4_code
def yX1_slotOf : MethodName := ⟨RX1, "slotOf", "(I)I"⟩
abbrev cX1_enter : ByteArray := prog_3_method_5_code
def yX1_enter : MethodName := ⟨RX1, "enter", "(IIZIII)V"⟩
abbrev cX1_remove : ByteArray := prog_3_method_6_code
def yX1_remove : MethodName := ⟨RX1, "remove", "(I)V"⟩
abbrev cX1_reduce : ByteArray := prog_3_method_7_code
def yX1_reduce : MethodName := ⟨RX1, "reduce", "(II)V"⟩
abbrev cX1_clear : ByteArray := prog_3_method_8_code
def yX1_clear : MethodName := ⟨RX1, "clear", "()V"⟩
abbrev cX1_bestSlot : ByteArray := prog_3_method_9_code
def yX1_bestSlot : MethodName := ⟨RX1, "bestSlot", "(Z)I"⟩
abbrev cX1_isAhead : ByteArray := prog_3_method_10_code
def yX1_isAhead : MethodName := ⟨RX1, "isAhead", "(ZII)Z"⟩
abbrev cX1_spreadOfBest : ByteArray := prog_3_method_11_code
def yX1_spreadOfBest : MethodName := ⟨RX1, "spreadOfBest", "()I"⟩
abbrev cX1_buyingOrders : ByteArray := prog_3_method_12_code
def yX1_buyingOrders : MethodName := ⟨RX1, "buyingOrders", "()I"⟩
abbrev cX1_quantityAt : ByteArray := prog_3_method_13_code
def yX1_quantityAt : MethodName := ⟨RX1, "quantityAt", "(ZI)I"⟩
abbrev cX1_boundMoney : ByteArray := prog_3_method_14_code
def yX1_boundMoney : MethodName := ⟨RX1, "boundMoney", "(I)I"⟩
abbrev cX1_boundDrops : ByteArray := prog_3_method_15_code
def yX1_boundDrops : MethodName := ⟨RX1, "boundDrops", "(I)I"⟩
abbrev cX1_demand : ByteArray := prog_3_method_16_code
def yX1_demand : MethodName := ⟨RX1, "demand", "(I)I"⟩
abbrev cX1_supply : ByteArray := prog_3_method_17_code
def yX1_supply : MethodName := ⟨RX1, "supply", "(I)I"⟩
abbrev cX1_volume : ByteArray := prog_3_method_18_code
def yX1_volume : MethodName := ⟨RX1, "volume", "(I)I"⟩
abbrev cX1_poolByTrying : ByteArray := prog_3_method_19_code
def yX1_poolByTrying : MethodName := ⟨RX1, "poolByTrying", "()LDropMarket$PoolChoice;"⟩
abbrev cX1_copyFrom : ByteArray := prog_3_method_20_code
def yX1_copyFrom : MethodName := ⟨RX1, "copyFrom", "(LDropMarket$Book;)V"⟩
def RX2 : String := "DropMarket$CommandText"
def TX2 : u_T := fun k => match k with
  | 0 => ("DropMarket$CommandText", "buffer", "Ljava/lang/StringBuilder;", true)
  | 1 => ("DropMarket$CommandText", "parameters", "LDropMarket$Row;", true)
  | 2 => ("DropMarket$CommandText", "verb", "LDropMarket$Verb;", false)
  | _ => ("DropMarket$CommandText", "position", "I", false)
def tyX2 : Nat → FieldType := fun k => match k with
  | 0 => .object "java/lang/StringBuilder"
  | 1 => .object "DropMarket$Row"
  | 2 => .object "DropMarket$Verb"
  | _ => .int
abbrev wsX20 : List Cond := u_ws RX2 TX2 4
theorem nmX2 : ∀ a, a < 4 → ∀ b, b < 4 → a ≠ b → (TX2 a).2.1 ≠ (TX2 b).2.1 := by decide +kernel
theorem tyX2_ok : ∀ k, k < 4 → parseFieldDescriptor (TX2 k).2.2.1 = some (tyX2 k) := by decide +kernel
abbrev cX2_init : ByteArray := prog_4_method_1_code
def yX2_init : MethodName := ⟨RX2, "<init>", "()V"⟩
abbrev cX2_isFull : ByteArray := prog_4_method_2_code
def yX2_isFull : MethodName := ⟨RX2, "isFull", "()Z"⟩
abbrev cX2_append : ByteArray := prog_4_method_3_code
def yX2_append : MethodName := ⟨RX2, "append", "(C)I"⟩
abbrev cX2_empty : ByteArray := prog_4_method_4_code
def yX2_empty : MethodName := ⟨RX2, "empty", "()V"⟩
abbrev cX2_rewind : ByteArray := prog_4_method_5_code
def yX2_rewind : MethodName := ⟨RX2, "rewind", "()V"⟩
abbrev cX2_countCommands : ByteArray := prog_4_method_6_code
def yX2_countCommands : MethodName := ⟨RX2, "countCommands", "()I"⟩
abbrev cX2_readCommand : ByteArray := prog_4_method_7_code
def yX2_readCommand : MethodName := ⟨RX2, "readCommand", "()Z"⟩
abbrev cX2_readVerb : ByteArray := prog_4_method_8_code
def yX2_readVerb : MethodName := ⟨RX2, "readVerb", "()Z"⟩
abbrev cX2_matchingLetters : ByteArray := prog_4_method_9_code
def yX2_matchingLetters : MethodName := ⟨RX2, "matchingLetters", "(Ljava/lang/String;)I"⟩
abbrev cX2_readParameters : ByteArray := prog_4_method_10_code
def yX2_readParameters : MethodName := ⟨RX2, "readParameters", "()Z"⟩
abbrev cX2_readNumber : ByteArray := prog_4_method_11_code
def yX2_readNumber : MethodName := ⟨RX2, "readNumber", "(II)Z"⟩
abbrev cX2_readSign : ByteArray := prog_4_method_12_code
def yX2_readSign : MethodName := ⟨RX2, "readSign", "(C)Z"⟩
abbrev cX2_standsAt : ByteArray := prog_4_method_13_code
def yX2_standsAt : MethodName := ⟨RX2, "standsAt", "(IC)Z"⟩
abbrev cX2_digitAt : ByteArray := prog_4_method_14_code
def yX2_digitAt : MethodName := ⟨RX2, "digitAt", "(I)I"⟩
def RX3 : String := "DropMarket$Fault"
def TX3 : u_T := fun k => match k with
  | _ => ("", "", "", false)
def tyX3 : Nat → FieldType := fun k => match k with
  | _ => .int
abbrev wsX30 : List Cond := u_ws RX3 TX3 0
theorem nmX3 : ∀ a, a < 0 → ∀ b, b < 0 → a ≠ b → (TX3 a).2.1 ≠ (TX3 b).2.1 := by decide +kernel
theorem tyX3_ok : ∀ k, k < 0 → parseFieldDescriptor (TX3 k).2.2.1 = some (tyX3 k) := by decide +kernel
def RX4 : String := "DropMarket$History"
def TX4 : u_T := fun k => match k with
  | 0 => ("DropMarket$History", "ring", "[LDropMarket$State;", true)
  | 1 => ("DropMarket$History", "newest", "I", false)
  | _ => ("DropMarket$History", "depth", "I", false)
def tyX4 : Nat → FieldType := fun k => match k with
  | 0 => .array (.object "DropMarket$State")
  | 1 => .int
  | _ => .int
abbrev wsX40 : List Cond := u_ws RX4 TX4 3
theorem nmX4 : ∀ a, a < 3 → ∀ b, b < 3 → a ≠ b → (TX4 a).2.1 ≠ (TX4 b).2.1 := by decide +kernel
theorem tyX4_ok : ∀ k, k < 3 → parseFieldDescriptor (TX4 k).2.2.1 = some (tyX4 k) := by decide +kernel
abbrev cX4_init : ByteArray := prog_6_method_1_code
def yX4_init : MethodName := ⟨RX4, "<init>", "()V"⟩
abbrev cX4_push : ByteArray := prog_6_method_2_code
def yX4_push : MethodName := ⟨RX4, "push", "(LDropMarket$State;)V"⟩
abbrev cX4_popInto : ByteArray := prog_6_method_3_code
def yX4_popInto : MethodName := ⟨RX4, "popInto", "(LDropMarket$State;)V"⟩
abbrev cX4_newestRow : ByteArray := prog_6_method_5_code
def yX4_newestRow : MethodName := ⟨RX4, "newestRow", "()LDropMarket$State;"⟩
def RX5 : String := "DropMarket$PoolChoice"
def TX5 : u_T := fun k => match k with
  | 0 => ("DropMarket$PoolChoice", "price", "I", false)
  | 1 => ("DropMarket$PoolChoice", "volume", "I", false)
  | _ => ("DropMarket$PoolChoice", "surplus", "I", false)
def tyX5 : Nat → FieldType := fun k => match k with
  | 0 => .int
  | 1 => .int
  | _ => .int
abbrev wsX50 : List Cond := u_ws RX5 TX5 3
theorem nmX5 : ∀ a, a < 3 → ∀ b, b < 3 → a ≠ b → (TX5 a).2.1 ≠ (TX5 b).2.1 := by decide +kernel
theorem tyX5_ok : ∀ k, k < 3 → parseFieldDescriptor (TX5 k).2.2.1 = some (tyX5 k) := by decide +kernel
abbrev cX5_init : ByteArray := prog_7_method_1_code
def yX5_init : MethodName := ⟨RX5, "<init>", "()V"⟩
abbrev cX5_consider : ByteArray := prog_7_method_2_code
def yX5_consider : MethodName := ⟨RX5, "consider", "(III)V"⟩
def RX6 : String := "DropMarket$PriceSums"
def TX6 : u_T := fun k => match k with
  | 0 => ("DropMarket$PriceSums", "buying", "LDropMarket$Row;", true)
  | _ => ("DropMarket$PriceSums", "selling", "LDropMarket$Row;", true)
def tyX6 : Nat → FieldType := fun k => match k with
  | 0 => .object "DropMarket$Row"
  | _ => .object "DropMarket$Row"
abbrev wsX60 : List Cond := u_ws RX6 TX6 2
theorem nmX6 : ∀ a, a < 2 → ∀ b, b < 2 → a ≠ b → (TX6 a).2.1 ≠ (TX6 b).2.1 := by decide +kernel
theorem tyX6_ok : ∀ k, k < 2 → parseFieldDescriptor (TX6 k).2.2.1 = some (tyX6 k) := by decide +kernel
abbrev cX6_init : ByteArray := prog_8_method_1_code
def yX6_init : MethodName := ⟨RX6, "<init>", "()V"⟩
abbrev cX6_gather : ByteArray := prog_8_method_2_code
def yX6_gather : MethodName := ⟨RX6, "gather", "(LDropMarket$Book;)V"⟩
abbrev cX6_spreadOfSums : ByteArray := prog_8_method_3_code
def yX6_spreadOfSums : MethodName := ⟨RX6, "spreadOfSums", "()I"⟩
abbrev cX6_poolBySums : ByteArray := prog_8_method_4_code
def yX6_poolBySums : MethodName := ⟨RX6, "poolBySums", "()LDropMarket$PoolChoice;"⟩
def RX7 : String := "DropMarket$Row"
def TX7 : u_T := fun k => match k with
  | _ => ("DropMarket$Row", "cells", "[I", true)
def tyX7 : Nat → FieldType := fun k => match k with
  | _ => .array .int
abbrev wsX70 : List Cond := u_ws RX7 TX7 1
theorem nmX7 : ∀ a, a < 1 → ∀ b, b < 1 → a ≠ b → (TX7 a).2.1 ≠ (TX7 b).2.1 := by decide +kernel
theorem tyX7_ok : ∀ k, k < 1 → parseFieldDescriptor (TX7 k).2.2.1 = some (tyX7 k) := by decide +kernel
abbrev cX7_init : ByteArray := prog_9_method_1_code
def yX7_init : MethodName := ⟨RX7, "<init>", "(I)V"⟩
abbrev cX7_get : ByteArray := prog_9_method_2_code
def yX7_get : MethodName := ⟨RX7, "get", "(I)I"⟩
abbrev cX7_set : ByteArray := prog_9_method_3_code
def yX7_set : MethodName := ⟨RX7, "set", "(II)V"⟩
abbrev cX7_add : ByteArray := prog_9_method_4_code
def yX7_add : MethodName := ⟨RX7, "add", "(II)V"⟩
abbrev cX7_sum : ByteArray := prog_9_method_5_code
def yX7_sum : MethodName := ⟨RX7, "sum", "()I"⟩
abbrev cX7_closeGap : ByteArray := prog_9_method_6_code
def yX7_closeGap : MethodName := ⟨RX7, "closeGap", "(I)V"⟩
abbrev cX7_clear : ByteArray := prog_9_method_7_code
def yX7_clear : MethodName := ⟨RX7, "clear", "()V"⟩
abbrev cX7_copyFrom : ByteArray := prog_9_method_8_code
def yX7_copyFrom : MethodName := ⟨RX7, "copyFrom", "(LDropMarket$Row;)V"⟩
def RX8 : String := "DropMarket$Stalls"
def TX8 : u_T := fun k => match k with
  | 0 => ("DropMarket$Stalls", "money", "LDropMarket$Row;", true)
  | 1 => ("DropMarket$Stalls", "drops", "LDropMarket$Row;", true)
  | _ => ("DropMarket$Stalls", "count", "I", false)
def tyX8 : Nat → FieldType := fun k => match k with
  | 0 => .object "DropMarket$Row"
  | 1 => .object "DropMarket$Row"
  | _ => .int
abbrev wsX80 : List Cond := u_ws RX8 TX8 3
theorem nmX8 : ∀ a, a < 3 → ∀ b, b < 3 → a ≠ b → (TX8 a).2.1 ≠ (TX8 b).2.1 := by decide +kernel
theorem tyX8_ok : ∀ k, k < 3 → parseFieldDescriptor (TX8 k).2.2.1 = some (tyX8 k) := by decide +kernel
abbrev cX8_init : ByteArray := prog_10_method_1_code
def yX8_init : MethodName := ⟨RX8, "<init>", "()V"⟩
abbrev cX8_has : ByteArray := prog_10_method_2_code
def yX8_has : MethodName := ⟨RX8, "has", "(I)Z"⟩
abbrev cX8_isFull : ByteArray := prog_10_method_3_code
def yX8_isFull : MethodName := ⟨RX8, "isFull", "()Z"⟩
abbrev cX8_open : ByteArray := prog_10_method_4_code
def yX8_open : MethodName := ⟨RX8, "open", "(II)I"⟩
abbrev cX8_withRank : ByteArray := prog_10_method_5_code
def yX8_withRank : MethodName := ⟨RX8, "withRank", "(I)I"⟩
abbrev cX8_rankOf : ByteArray := prog_10_method_6_code
def yX8_rankOf : MethodName := ⟨RX8, "rankOf", "(I)I"⟩
abbrev cX8_copyFrom : ByteArray := prog_10_method_7_code
def yX8_copyFrom : MethodName := ⟨RX8, "copyFrom", "(LDropMarket$Stalls;)V"⟩
def RX9 : String := "DropMarket$State"
def TX9 : u_T := fun k => match k with
  | 0 => ("DropMarket$State", "stalls", "LDropMarket$Stalls;", true)
  | 1 => ("DropMarket$State", "book", "LDropMarket$Book;", true)
  | 2 => ("DropMarket$State", "poolIsOpen", "Z", false)
  | 3 => ("DropMarket$State", "minute", "I", false)
  | 4 => ("DropMarket$State", "nextNumber", "I", false)
  | 5 => ("DropMarket$State", "latestPrice", "I", false)
  | 6 => ("DropMarket$State", "trades", "I", false)
  | 7 => ("DropMarket$State", "tradedDrops", "I", false)
  | _ => ("DropMarket$State", "paidMoney", "J", false)
def tyX9 : Nat → FieldType := fun k => match k with
  | 0 => .object "DropMarket$Stalls"
  | 1 => .object "DropMarket$Book"
  | 2 => .boolean
  | 3 => .int
  | 4 => .int
  | 5 => .int
  | 6 => .int
  | 7 => .int
  | _ => .long
abbrev wsX90 : List Cond := u_ws RX9 TX9 9
theorem nmX9 : ∀ a, a < 9 → ∀ b, b < 9 → a ≠ b → (TX9 a).2.1 ≠ (TX9 b).2.1 := by decide +kernel
theorem tyX9_ok : ∀ k, k < 9 → parseFieldDescriptor (TX9 k).2.2.1 = some (tyX9 k) := by decide +kernel
abbrev cX9_init : ByteArray := prog_11_method_1_code
def yX9_init : MethodName := ⟨RX9, "<init>", "()V"⟩
abbrev cX9_stallFault : ByteArray := prog_11_method_2_code
def yX9_stallFault : MethodName := ⟨RX9, "stallFault", "(II)LDropMarket$Fault;"⟩
abbrev cX9_orderFault : ByteArray := prog_11_method_3_code
def yX9_orderFault : MethodName := ⟨RX9, "orderFault", "(ZIIIZZ)LDropMarket$Fault;"⟩
abbrev cX9_cancelFault : ByteArray := prog_11_method_4_code
def yX9_cancelFault : MethodName := ⟨RX9, "cancelFault", "(I)LDropMarket$Fault;"⟩
abbrev cX9_passFault : ByteArray := prog_11_method_5_code
def yX9_passFault : MethodName := ⟨RX9, "passFault", "(I)LDropMarket$Fault;"⟩
abbrev cX9_openFault : ByteArray := prog_11_method_6_code
def yX9_openFault : MethodName := ⟨RX9, "openFault", "()LDropMarket$Fault;"⟩
abbrev cX9_closeFault : ByteArray := prog_11_method_7_code
def yX9_closeFault : MethodName := ⟨RX9, "closeFault", "()LDropMarket$Fault;"⟩
abbrev cX9_freeMoney : ByteArray := prog_11_method_8_code
def yX9_freeMoney : MethodName := ⟨RX9, "freeMoney", "(I)I"⟩
abbrev cX9_freeDrops : ByteArray := prog_11_method_9_code
def yX9_freeDrops : MethodName := ⟨RX9, "freeDrops", "(I)I"⟩
abbrev cX9_isCovered : ByteArray := prog_11_method_10_code
def yX9_isCovered : MethodName := ⟨RX9, "isCovered", "()Z"⟩
abbrev cX9_place : ByteArray := prog_11_method_11_code
def yX9_place : MethodName := ⟨RX9, "place", "(ZIIII)I"⟩
abbrev cX9_take : ByteArray := prog_11_method_12_code
def yX9_take : MethodName := ⟨RX9, "take", "(ZIII)I"⟩
abbrev cX9_tradeNew : ByteArray := prog_11_method_13_code
def yX9_tradeNew : MethodName := ⟨RX9, "tradeNew", "(ZIII)I"⟩
abbrev cX9_trade : ByteArray := prog_11_method_14_code
def yX9_trade : MethodName := ⟨RX9, "trade", "(IIII)V"⟩
abbrev cX9_withdraw : ByteArray := prog_11_method_15_code
def yX9_withdraw : MethodName := ⟨RX9, "withdraw", "(I)I"⟩
abbrev cX9_letPass : ByteArray := prog_11_method_16_code
def yX9_letPass : MethodName := ⟨RX9, "letPass", "(I)I"⟩
abbrev cX9_startPool : ByteArray := prog_11_method_17_code
def yX9_startPool : MethodName := ⟨RX9, "startPool", "()I"⟩
abbrev cX9_endPool : ByteArray := prog_11_method_18_code
def yX9_endPool : MethodName := ⟨RX9, "endPool", "()I"⟩
abbrev cX9_tradePool : ByteArray := prog_11_method_19_code
def yX9_tradePool : MethodName := ⟨RX9, "tradePool", "(II)V"⟩
abbrev cX9_copyFrom : ByteArray := prog_11_method_20_code
def yX9_copyFrom : MethodName := ⟨RX9, "copyFrom", "(LDropMarket$State;)V"⟩
def RX10 : String := "DropMarket$Verb"
def TX10 : u_T := fun k => match k with
  | _ => ("", "", "", false)
def tyX10 : Nat → FieldType := fun k => match k with
  | _ => .int
abbrev wsX100 : List Cond := u_ws RX10 TX10 0
theorem nmX10 : ∀ a, a < 0 → ∀ b, b < 0 → a ≠ b → (TX10 a).2.1 ≠ (TX10 b).2.1 := by decide +kernel
theorem tyX10_ok : ∀ k, k < 0 → parseFieldDescriptor (TX10 k).2.2.1 = some (tyX10 k) := by decide +kernel
def RX11 : String := "DropMarket"
def TX11 : u_T := fun k => match k with
  | 0 => ("DropMarket", "state", "LDropMarket$State;", true)
  | 1 => ("DropMarket", "beforeText", "LDropMarket$State;", true)
  | 2 => ("DropMarket", "snapshot", "LDropMarket$State;", true)
  | 3 => ("DropMarket", "history", "LDropMarket$History;", true)
  | 4 => ("DropMarket", "sums", "LDropMarket$PriceSums;", true)
  | 5 => ("DropMarket", "text", "LDropMarket$CommandText;", true)
  | 6 => ("DropMarket", "line", "Ljava/lang/StringBuilder;", true)
  | 7 => ("DropMarket", "hasSnapshot", "Z", false)
  | 8 => ("DropMarket", "lastError", "I", false)
  | _ => ("DropMarket", "lastFailure", "I", false)
def tyX11 : Nat → FieldType := fun k => match k with
  | 0 => .object "DropMarket$State"
  | 1 => .object "DropMarket$State"
  | 2 => .object "DropMarket$State"
  | 3 => .object "DropMarket$History"
  | 4 => .object "DropMarket$PriceSums"
  | 5 => .object "DropMarket$CommandText"
  | 6 => .object "java/lang/StringBuilder"
  | 7 => .boolean
  | 8 => .int
  | _ => .int
abbrev wsX110 : List Cond := u_ws RX11 TX11 10
theorem nmX11 : ∀ a, a < 10 → ∀ b, b < 10 → a ≠ b → (TX11 a).2.1 ≠ (TX11 b).2.1 := by decide +kernel
theorem tyX11_ok : ∀ k, k < 10 → parseFieldDescriptor (TX11 k).2.2.1 = some (tyX11 k) := by decide +kernel
abbrev cX11_init : ByteArray := prog_1_method_1_code
def yX11_init : MethodName := ⟨RX11, "<init>", "()V"⟩
abbrev cX11_addStall : ByteArray := prog_1_method_2_code
def yX11_addStall : MethodName := ⟨RX11, "addStall", "(II)I"⟩
abbrev cX11_placeBuy : ByteArray := prog_1_method_3_code
def yX11_placeBuy : MethodName := ⟨RX11, "placeBuy", "(III)I"⟩
abbrev cX11_placeSell : ByteArray := prog_1_method_4_code
def yX11_placeSell : MethodName := ⟨RX11, "placeSell", "(III)I"⟩
abbrev cX11_placeBuyFor : ByteArray := prog_1_method_5_code
def yX11_placeBuyFor : MethodName := ⟨RX11, "placeBuyFor", "(IIII)I"⟩
abbrev cX11_placeSellFor : ByteArray := prog_1_method_6_code
def yX11_placeSellFor : MethodName := ⟨RX11, "placeSellFor", "(IIII)I"⟩
abbrev cX11_takeBuy : ByteArray := prog_1_method_7_code
def yX11_takeBuy : MethodName := ⟨RX11, "takeBuy", "(III)I"⟩
abbrev cX11_takeSell : ByteArray := prog_1_method_8_code
def yX11_takeSell : MethodName := ⟨RX11, "takeSell", "(III)I"⟩
abbrev cX11_cancel : ByteArray := prog_1_method_9_code
def yX11_cancel : MethodName := ⟨RX11, "cancel", "(I)I"⟩
abbrev cX11_pass : ByteArray := prog_1_method_10_code
def yX11_pass : MethodName := ⟨RX11, "pass", "(I)I"⟩
abbrev cX11_openPool : ByteArray := prog_1_method_11_code
def yX11_openPool : MethodName := ⟨RX11, "openPool", "()I"⟩
abbrev cX11_closePool : ByteArray := prog_1_method_12_code
def yX11_closePool : MethodName := ⟨RX11, "closePool", "()I"⟩
abbrev cX11_stallCount : ByteArray := prog_1_method_13_code
def yX11_stallCount : MethodName := ⟨RX11, "stallCount", "()I"⟩
abbrev cX11_moneyOf : ByteArray := prog_1_method_14_code
def yX11_moneyOf : MethodName := ⟨RX11, "moneyOf", "(I)I"⟩
abbrev cX11_dropsOf : ByteArray := prog_1_method_15_code
def yX11_dropsOf : MethodName := ⟨RX11, "dropsOf", "(I)I"⟩
abbrev cX11_freeMoneyOf : ByteArray := prog_1_method_16_code
def yX11_freeMoneyOf : MethodName := ⟨RX11, "freeMoneyOf", "(I)I"⟩
abbrev cX11_freeDropsOf : ByteArray := prog_1_method_17_code
def yX11_freeDropsOf : MethodName := ⟨RX11, "freeDropsOf", "(I)I"⟩
abbrev cX11_totalMoney : ByteArray := prog_1_method_18_code
def yX11_totalMoney : MethodName := ⟨RX11, "totalMoney", "()I"⟩
abbrev cX11_totalDrops : ByteArray := prog_1_method_19_code
def yX11_totalDrops : MethodName := ⟨RX11, "totalDrops", "()I"⟩
abbrev cX11_stallByMoney : ByteArray := prog_1_method_20_code
def yX11_stallByMoney : MethodName := ⟨RX11, "stallByMoney", "(I)I"⟩
abbrev cX11_orderCount : ByteArray := prog_1_method_21_code
def yX11_orderCount : MethodName := ⟨RX11, "orderCount", "()I"⟩
abbrev cX11_orderAt : ByteArray := prog_1_method_22_code
def yX11_orderAt : MethodName := ⟨RX11, "orderAt", "(I)I"⟩
abbrev cX11_stallOf : ByteArray := prog_1_method_23_code
def yX11_stallOf : MethodName := ⟨RX11, "stallOf", "(I)I"⟩
abbrev cX11_isBuying : ByteArray := prog_1_method_24_code
def yX11_isBuying : MethodName := ⟨RX11, "isBuying", "(I)Z"⟩
abbrev cX11_priceOf : ByteArray := prog_1_method_25_code
def yX11_priceOf : MethodName := ⟨RX11, "priceOf", "(I)I"⟩
abbrev cX11_quantityOf : ByteArray := prog_1_method_26_code
def yX11_quantityOf : MethodName := ⟨RX11, "quantityOf", "(I)I"⟩
abbrev cX11_minutesLeft : ByteArray := prog_1_method_27_code
def yX11_minutesLeft : MethodName := ⟨RX11, "minutesLeft", "(I)I"⟩
abbrev cX11_bestBuy : ByteArray := prog_1_method_28_code
def yX11_bestBuy : MethodName := ⟨RX11, "bestBuy", "()I"⟩
abbrev cX11_bestSell : ByteArray := prog_1_method_29_code
def yX11_bestSell : MethodName := ⟨RX11, "bestSell", "()I"⟩
abbrev cX11_spread : ByteArray := prog_1_method_30_code
def yX11_spread : MethodName := ⟨RX11, "spread", "()I"⟩
abbrev cX11_spreadBySums : ByteArray := prog_1_method_31_code
def yX11_spreadBySums : MethodName := ⟨RX11, "spreadBySums", "()I"⟩
abbrev cX11_buyingAt : ByteArray := prog_1_method_32_code
def yX11_buyingAt : MethodName := ⟨RX11, "buyingAt", "(I)I"⟩
abbrev cX11_sellingAt : ByteArray := prog_1_method_33_code
def yX11_sellingAt : MethodName := ⟨RX11, "sellingAt", "(I)I"⟩
abbrev cX11_lastPrice : ByteArray := prog_1_method_34_code
def yX11_lastPrice : MethodName := ⟨RX11, "lastPrice", "()I"⟩
abbrev cX11_tradeCount : ByteArray := prog_1_method_35_code
def yX11_tradeCount : MethodName := ⟨RX11, "tradeCount", "()I"⟩
abbrev cX11_tradedQuantity : ByteArray := prog_1_method_36_code
def yX11_tradedQuantity : MethodName := ⟨RX11, "tradedQuantity", "()I"⟩
abbrev cX11_turnover : ByteArray := prog_1_method_37_code
def yX11_turnover : MethodName := ⟨RX11, "turnover", "()J"⟩
abbrev cX11_meanPrice : ByteArray := prog_1_method_38_code
def yX11_meanPrice : MethodName := ⟨RX11, "meanPrice", "()D"⟩
abbrev cX11_buyingShare : ByteArray := prog_1_method_39_code
def yX11_buyingShare : MethodName := ⟨RX11, "buyingShare", "()F"⟩
abbrev cX11_isPoolOpen : ByteArray := prog_1_method_40_code
def yX11_isPoolOpen : MethodName := ⟨RX11, "isPoolOpen", "()Z"⟩
abbrev cX11_poolPrice : ByteArray := prog_1_method_41_code
def yX11_poolPrice : MethodName := ⟨RX11, "poolPrice", "()I"⟩
abbrev cX11_poolPriceBySums : ByteArray := prog_1_method_42_code
def yX11_poolPriceBySums : MethodName := ⟨RX11, "poolPriceBySums", "()I"⟩
abbrev cX11_volumeAt : ByteArray := prog_1_method_43_code
def yX11_volumeAt : MethodName := ⟨RX11, "volumeAt", "(I)I"⟩
abbrev cX11_time : ByteArray := prog_1_method_44_code
def yX11_time : MethodName := ⟨RX11, "time", "()I"⟩
abbrev cX11_writeOrder : ByteArray := prog_1_method_45_code
def yX11_writeOrder : MethodName := ⟨RX11, "writeOrder", "(I)I"⟩
abbrev cX11_writeBook : ByteArray := prog_1_method_46_code
def yX11_writeBook : MethodName := ⟨RX11, "writeBook", "()I"⟩
abbrev cX11_lineAt : ByteArray := prog_1_method_47_code
def yX11_lineAt : MethodName := ⟨RX11, "lineAt", "(I)C"⟩
abbrev cX11_isConsistent : ByteArray := prog_1_method_48_code
def yX11_isConsistent : MethodName := ⟨RX11, "isConsistent", "()Z"⟩
abbrev cX11_type : ByteArray := prog_1_method_49_code
def yX11_type : MethodName := ⟨RX11, "type", "(C)I"⟩
abbrev cX11_execute : ByteArray := prog_1_method_50_code
def yX11_execute : MethodName := ⟨RX11, "execute", "()I"⟩
abbrev cX11_undo : ByteArray := prog_1_method_53_code
def yX11_undo : MethodName := ⟨RX11, "undo", "()I"⟩
abbrev cX11_placeOrder : ByteArray := prog_1_method_56_code
def yX11_placeOrder : MethodName := ⟨RX11, "placeOrder", "(ZIIIIZ)I"⟩
abbrev cX11_takeAtOnce : ByteArray := prog_1_method_57_code
def yX11_takeAtOnce : MethodName := ⟨RX11, "takeAtOnce", "(ZIII)I"⟩
abbrev cX11_isWithin : ByteArray := prog_1_method_58_code
def yX11_isWithin : MethodName := ⟨RX11, "isWithin", "(III)Z"⟩
abbrev cX11_refuse : ByteArray := prog_1_method_59_code
def yX11_refuse : MethodName := ⟨RX11, "refuse", "(LDropMarket$Fault;)V"⟩
abbrev cX11_requireStall : ByteArray := prog_1_method_60_code
def yX11_requireStall : MethodName := ⟨RX11, "requireStall", "(I)V"⟩
abbrev cX11_requireSlot : ByteArray := prog_1_method_61_code
def yX11_requireSlot : MethodName := ⟨RX11, "requireSlot", "(I)I"⟩
abbrev cX11_requirePrice : ByteArray := prog_1_method_62_code
def yX11_requirePrice : MethodName := ⟨RX11, "requirePrice", "(I)V"⟩
abbrev cX11_requireSpread : ByteArray := prog_1_method_63_code
def yX11_requireSpread : MethodName := ⟨RX11, "requireSpread", "(I)I"⟩
abbrev cX11_requirePoolPrice : ByteArray := prog_1_method_64_code
def yX11_requirePoolPrice : MethodName := ⟨RX11, "requirePoolPrice", "(LDropMarket$PoolChoice;)I"⟩
abbrev cX11_bestOrder : ByteArray := prog_1_method_65_code
def yX11_bestOrder : MethodName := ⟨RX11, "bestOrder", "(Z)I"⟩
abbrev cX11_appendBest : ByteArray := prog_1_method_66_code
def yX11_appendBest : MethodName := ⟨RX11, "appendBest", "(Z)V"⟩
abbrev cX11_commandFault : ByteArray := prog_1_method_67_code
def yX11_commandFault : MethodName := ⟨RX11, "commandFault", "()LDropMarket$Fault;"⟩
abbrev cX11_runCommand : ByteArray := prog_1_method_68_code
def yX11_runCommand : MethodName := ⟨RX11, "runCommand", "()V"⟩
def RX12 : String := "DropMarketModel"
def TX12 : u_T := fun k => match k with
  | _ => ("", "", "", false)
def tyX12 : Nat → FieldType := fun k => match k with
  | _ => .int
abbrev wsX120 : List Cond := u_ws RX12 TX12 0
theorem nmX12 : ∀ a, a < 0 → ∀ b, b < 0 → a ≠ b → (TX12 a).2.1 ≠ (TX12 b).2.1 := by decide +kernel
theorem tyX12_ok : ∀ k, k < 0 → parseFieldDescriptor (TX12 k).2.2.1 = some (tyX12 k) := by decide +kernel
def RJx145de : String := "java/io/Serializable"
def TJx145de : u_T := fun k => match k with
  | _ => ("", "", "", false)
def tyJx145de : Nat → FieldType := fun k => match k with
  | _ => .int
abbrev wsJx145de0 : List Cond := u_ws RJx145de TJx145de 0
theorem nmJx145de : ∀ a, a < 0 → ∀ b, b < 0 → a ≠ b → (TJx145de a).2.1 ≠ (TJx145de b).2.1 := by decide +kernel
theorem tyJx145de_ok : ∀ k, k < 0 → parseFieldDescriptor (TJx145de k).2.2.1 = some (tyJx145de k) := by decide +kernel
def RJ5 : String := "java/lang/AbstractStringBuilder"
def TJ5 : u_T := fun k => match k with
  | _ => ("", "", "", false)
def tyJ5 : Nat → FieldType := fun k => match k with
  | _ => .int
abbrev wsJ50 : List Cond := u_ws RJ5 TJ5 0
theorem nmJ5 : ∀ a, a < 0 → ∀ b, b < 0 → a ≠ b → (TJ5 a).2.1 ≠ (TJ5 b).2.1 := by decide +kernel
theorem tyJ5_ok : ∀ k, k < 0 → parseFieldDescriptor (TJ5 k).2.2.1 = some (tyJ5 k) := by decide +kernel
abbrev cJ5_init_d00df : ByteArray := prog_16_method_2_code
def yJ5_init_d00df : MethodName := ⟨RJ5, "<init>", "(I)V"⟩
abbrev cJ5_length_8abf5 : ByteArray := prog_16_method_6_code
def yJ5_length_8abf5 : MethodName := ⟨RJ5, "length", "()I"⟩
abbrev cJ5_ensureCapacityInternal_d00df : ByteArray := prog_16_method_9_code
def yJ5_ensureCapacityInternal_d00df : MethodName := ⟨RJ5, "ensureCapacityInternal", "(I)V"⟩
abbrev cJ5_newCapacity_0f7a4 : ByteArray := prog_16_method_10_code
def yJ5_newCapacity_0f7a4 : MethodName := ⟨RJ5, "newCapacity", "(I)I"⟩
abbrev cJ5_inflate_da8c8 : ByteArray := prog_16_method_11_code
def yJ5_inflate_da8c8 : MethodName := ⟨RJ5, "inflate", "()V"⟩
abbrev cJ5_setLength_d00df : ByteArray := prog_16_method_13_code
def yJ5_setLength_d00df : MethodName := ⟨RJ5, "setLength", "(I)V"⟩
abbrev cJ5_charAt_5068e : ByteArray := prog_16_method_14_code
def yJ5_charAt_5068e : MethodName := ⟨RJ5, "charAt", "(I)C"⟩
abbrev cJ5_append_cf1ce : ByteArray := prog_16_method_22_code
def yJ5_append_cf1ce : MethodName := ⟨RJ5, "append", "(Ljava/lang/String;)Ljava/lang/AbstractStringBuilder;"⟩
abbrev cJ5_appendNull_278bc : ByteArray := prog_16_method_26_code
def yJ5_appendNull_278bc : MethodName := ⟨RJ5, "appendNull", "()Ljava/lang/AbstractStringBuilder;"⟩
abbrev cJ5_append_3fe6f : ByteArray := prog_16_method_31_code
def yJ5_append_3fe6f : MethodName := ⟨RJ5, "append", "(C)Ljava/lang/AbstractStringBuilder;"⟩
abbrev cJ5_append_c97b9 : ByteArray := prog_16_method_32_code
def yJ5_append_c97b9 : MethodName := ⟨RJ5, "append", "(I)Ljava/lang/AbstractStringBuilder;"⟩
abbrev cJ5_getValue_6d5f1 : ByteArray := prog_16_method_64_code
def yJ5_getValue_6d5f1 : MethodName := ⟨RJ5, "getValue", "()[B"⟩
abbrev cJ5_isLatin1_aae02 : ByteArray := prog_16_method_68_code
def yJ5_isLatin1_aae02 : MethodName := ⟨RJ5, "isLatin1", "()Z"⟩
abbrev cJ5_inflateIfNeededFor_a7421 : ByteArray := prog_16_method_71_code
def yJ5_inflateIfNeededFor_a7421 : MethodName := ⟨RJ5, "inflateIfNeededFor", "(Ljava/lang/String;)V"⟩
abbrev cJ5_putStringAt_47b60 : ByteArray := prog_16_method_73_code
def yJ5_putStringAt_47b60 : MethodName := ⟨RJ5, "putStringAt", "(ILjava/lang/String;)V"⟩
def RJx2cfe8 : String := "java/lang/Appendable"
def TJx2cfe8 : u_T := fun k => match k with
  | _ => ("", "", "", false)
def tyJx2cfe8 : Nat → FieldType := fun k => match k with
  | _ => .int
abbrev wsJx2cfe80 : List Cond := u_ws RJx2cfe8 TJx2cfe8 0
theorem nmJx2cfe8 : ∀ a, a < 0 → ∀ b, b < 0 → a ≠ b → (TJx2cfe8 a).2.1 ≠ (TJx2cfe8 b).2.1 := by decide +kernel
theorem tyJx2cfe8_ok : ∀ k, k < 0 → parseFieldDescriptor (TJx2cfe8 k).2.2.1 = some (tyJx2cfe8 k) := by decide +kernel
def RJx00060 : String := "java/lang/ArrayIndexOutOfBoundsException"
def TJx00060 : u_T := fun k => match k with
  | 0 => ("java/lang/Throwable", "backtrace", "Ljava/lang/Object;", false)
  | 1 => ("java/lang/Throwable", "detailMessage", "Ljava/lang/String;", false)
  | 2 => ("java/lang/Throwable", "cause", "Ljava/lang/Throwable;", false)
  | 3 => ("java/lang/Throwable", "stackTrace", "[Ljava/lang/StackTraceElement;", false)
  | 4 => ("java/lang/Throwable", "depth", "I", false)
  | _ => ("java/lang/Throwable", "suppressedExceptions", "Ljava/util/List;", false)
def tyJx00060 : Nat → FieldType := fun k => match k with
  | 0 => .object "java/lang/Object"
  | 1 => .object "java/lang/String"
  | 2 => .object "java/lang/Throwable"
  | 3 => .array (.object "java/lang/StackTraceElement")
  | 4 => .int
  | _ => .object "java/util/List"
abbrev wsJx000600 : List Cond := u_ws RJx00060 TJx00060 6
theorem nmJx00060 : ∀ a, a < 6 → ∀ b, b < 6 → a ≠ b → (TJx00060 a).2.1 ≠ (TJx00060 b).2.1 := by decide +kernel
theorem tyJx00060_ok : ∀ k, k < 6 → parseFieldDescriptor (TJx00060 k).2.2.1 = some (tyJx00060 k) := by decide +kernel
abbrev cJx00060_init_a7421 : ByteArray := prog_19_method_2_code
def yJx00060_init_a7421 : MethodName := ⟨RJx00060, "<init>", "(Ljava/lang/String;)V"⟩
abbrev cJx00060_init_d00df : ByteArray := prog_19_method_3_code
def yJx00060_init_d00df : MethodName := ⟨RJx00060, "<init>", "(I)V"⟩
def RJx9f9b0 : String := "java/lang/CharSequence"
def TJx9f9b0 : u_T := fun k => match k with
  | _ => ("", "", "", false)
def tyJx9f9b0 : Nat → FieldType := fun k => match k with
  | _ => .int
abbrev wsJx9f9b00 : List Cond := u_ws RJx9f9b0 TJx9f9b0 0
theorem nmJx9f9b0 : ∀ a, a < 0 → ∀ b, b < 0 → a ≠ b → (TJx9f9b0 a).2.1 ≠ (TJx9f9b0 b).2.1 := by decide +kernel
theorem tyJx9f9b0_ok : ∀ k, k < 0 → parseFieldDescriptor (TJx9f9b0 k).2.2.1 = some (tyJx9f9b0 k) := by decide +kernel
def RJx8e188 : String := "java/lang/Cloneable"
def TJx8e188 : u_T := fun k => match k with
  | _ => ("", "", "", false)
def tyJx8e188 : Nat → FieldType := fun k => match k with
  | _ => .int
abbrev wsJx8e1880 : List Cond := u_ws RJx8e188 TJx8e188 0
theorem nmJx8e188 : ∀ a, a < 0 → ∀ b, b < 0 → a ≠ b → (TJx8e188 a).2.1 ≠ (TJx8e188 b).2.1 := by decide +kernel
theorem tyJx8e188_ok : ∀ k, k < 0 → parseFieldDescriptor (TJx8e188 k).2.2.1 = some (tyJx8e188 k) := by decide +kernel
def RJxb160c : String := "java/lang/Comparable"
def TJxb160c : u_T := fun k => match k with
  | _ => ("", "", "", false)
def tyJxb160c : Nat → FieldType := fun k => match k with
  | _ => .int
abbrev wsJxb160c0 : List Cond := u_ws RJxb160c TJxb160c 0
theorem nmJxb160c : ∀ a, a < 0 → ∀ b, b < 0 → a ≠ b → (TJxb160c a).2.1 ≠ (TJxb160c b).2.1 := by decide +kernel
theorem tyJxb160c_ok : ∀ k, k < 0 → parseFieldDescriptor (TJxb160c k).2.2.1 = some (tyJxb160c k) := by decide +kernel
def RJx29ce0 : String := "java/lang/Enum"
def TJx29ce0 : u_T := fun k => match k with
  | _ => ("", "", "", false)
def tyJx29ce0 : Nat → FieldType := fun k => match k with
  | _ => .int
abbrev wsJx29ce00 : List Cond := u_ws RJx29ce0 TJx29ce0 0
theorem nmJx29ce0 : ∀ a, a < 0 → ∀ b, b < 0 → a ≠ b → (TJx29ce0 a).2.1 ≠ (TJx29ce0 b).2.1 := by decide +kernel
theorem tyJx29ce0_ok : ∀ k, k < 0 → parseFieldDescriptor (TJx29ce0 k).2.2.1 = some (tyJx29ce0 k) := by decide +kernel
abbrev cJx29ce0_ordinal_8abf5 : ByteArray := prog_23_method_2_code
def yJx29ce0_ordinal_8abf5 : MethodName := ⟨RJx29ce0, "ordinal", "()I"⟩
def RJ6 : String := "java/lang/Integer"
def TJ6 : u_T := fun k => match k with
  | _ => ("", "", "", false)
def tyJ6 : Nat → FieldType := fun k => match k with
  | _ => .int
abbrev wsJ60 : List Cond := u_ws RJ6 TJ6 0
theorem nmJ6 : ∀ a, a < 0 → ∀ b, b < 0 → a ≠ b → (TJ6 a).2.1 ≠ (TJ6 b).2.1 := by decide +kernel
theorem tyJ6_ok : ∀ k, k < 0 → parseFieldDescriptor (TJ6 k).2.2.1 = some (tyJ6 k) := by decide +kernel
abbrev cJ6_getChars_ba4f3 : ByteArray := prog_28_method_12_code
def yJ6_getChars_ba4f3 : MethodName := ⟨RJ6, "getChars", "(II[B)I"⟩
abbrev cJ6_stringSize_0f7a4 : ByteArray := prog_28_method_13_code
def yJ6_stringSize_0f7a4 : MethodName := ⟨RJ6, "stringSize", "(I)I"⟩
def RJ9 : String := "java/lang/Math"
def TJ9 : u_T := fun k => match k with
  | _ => ("", "", "", false)
def tyJ9 : Nat → FieldType := fun k => match k with
  | _ => .int
abbrev wsJ90 : List Cond := u_ws RJ9 TJ9 0
theorem nmJ9 : ∀ a, a < 0 → ∀ b, b < 0 → a ≠ b → (TJ9 a).2.1 ≠ (TJ9 b).2.1 := by decide +kernel
theorem tyJ9_ok : ∀ k, k < 0 → parseFieldDescriptor (TJ9 k).2.2.1 = some (tyJ9 k) := by decide +kernel
abbrev cJ9_abs_0f7a4 : ByteArray := prog_29_method_59_code
def yJ9_abs_0f7a4 : MethodName := ⟨RJ9, "abs", "(I)I"⟩
abbrev cJ9_max_7cf53 : ByteArray := prog_29_method_65_code
def yJ9_max_7cf53 : MethodName := ⟨RJ9, "max", "(II)I"⟩
abbrev cJ9_min_7cf53 : ByteArray := prog_29_method_69_code
def yJ9_min_7cf53 : MethodName := ⟨RJ9, "min", "(II)I"⟩
def RJxd2413 : String := "java/lang/Number"
def TJxd2413 : u_T := fun k => match k with
  | _ => ("", "", "", false)
def tyJxd2413 : Nat → FieldType := fun k => match k with
  | _ => .int
abbrev wsJxd24130 : List Cond := u_ws RJxd2413 TJxd2413 0
theorem nmJxd2413 : ∀ a, a < 0 → ∀ b, b < 0 → a ≠ b → (TJxd2413 a).2.1 ≠ (TJxd2413 b).2.1 := by decide +kernel
theorem tyJxd2413_ok : ∀ k, k < 0 → parseFieldDescriptor (TJxd2413 k).2.2.1 = some (tyJxd2413 k) := by decide +kernel
def RJ0 : String := "java/lang/String"
def TJ0 : u_T := fun k => match k with
  | 0 => ("java/lang/String", "value", "[B", true)
  | 1 => ("java/lang/String", "coder", "B", true)
  | 2 => ("java/lang/String", "hash", "I", false)
  | _ => ("java/lang/String", "hashIsZero", "Z", false)
def tyJ0 : Nat → FieldType := fun k => match k with
  | 0 => .array .byte
  | 1 => .byte
  | 2 => .int
  | _ => .boolean
abbrev wsJ00 : List Cond := u_ws RJ0 TJ0 4
theorem nmJ0 : ∀ a, a < 4 → ∀ b, b < 4 → a ≠ b → (TJ0 a).2.1 ≠ (TJ0 b).2.1 := by decide +kernel
theorem tyJ0_ok : ∀ k, k < 4 → parseFieldDescriptor (TJ0 k).2.2.1 = some (tyJ0 k) := by decide +kernel
abbrev cJ0_init_81219 : ByteArray := prog_32_method_53_code
def yJ0_init_81219 : MethodName := ⟨RJ0, "<init>", "(Ljava/lang/StringBuilder;)V"⟩
abbrev cJ0_length_8abf5 : ByteArray := prog_32_method_54_code
def yJ0_length_8abf5 : MethodName := ⟨RJ0, "length", "()I"⟩
abbrev cJ0_charAt_5068e : ByteArray := prog_32_method_56_code
def yJ0_charAt_5068e : MethodName := ⟨RJ0, "charAt", "(I)C"⟩
abbrev cJ0_getBytes_840e7 : ByteArray := prog_32_method_147_code
def yJ0_getBytes_840e7 : MethodName := ⟨RJ0, "getBytes", "([BIB)V"⟩
abbrev cJ0_init_db425 : ByteArray := prog_32_method_150_code
def yJ0_init_db425 : MethodName := ⟨RJ0, "<init>", "(Ljava/lang/AbstractStringBuilder;Ljava/lang/Void;)V"⟩
abbrev cJ0_coder_7d493 : ByteArray := prog_32_method_152_code
def yJ0_coder_7d493 : MethodName := ⟨RJ0, "coder", "()B"⟩
abbrev cJ0_isLatin1_aae02 : ByteArray := prog_32_method_154_code
def yJ0_isLatin1_aae02 : MethodName := ⟨RJ0, "isLatin1", "()Z"⟩
abbrev cJ0_checkIndex_df160 : ByteArray := prog_32_method_155_code
def yJ0_checkIndex_df160 : MethodName := ⟨RJ0, "checkIndex", "(II)V"⟩
abbrev cJ0_checkBoundsOffCount_cabcc : ByteArray := prog_32_method_157_code
def yJ0_checkBoundsOffCount_cabcc : MethodName := ⟨RJ0, "checkBoundsOffCount", "(III)I"⟩
abbrev cJ0_checkBoundsBeginEnd_23922 : ByteArray := prog_32_method_158_code
def yJ0_checkBoundsBeginEnd_23922 : MethodName := ⟨RJ0, "checkBoundsBeginEnd", "(III)V"⟩
def RJ4 : String := "java/lang/StringBuilder"
def TJ4 : u_T := fun k => match k with
  | 0 => ("java/lang/AbstractStringBuilder", "value", "[B", false)
  | 1 => ("java/lang/AbstractStringBuilder", "coder", "B", false)
  | 2 => ("java/lang/AbstractStringBuilder", "maybeLatin1", "Z", false)
  | _ => ("java/lang/AbstractStringBuilder", "count", "I", false)
def tyJ4 : Nat → FieldType := fun k => match k with
  | 0 => .array .byte
  | 1 => .byte
  | 2 => .boolean
  | _ => .int
abbrev wsJ40 : List Cond := u_ws RJ4 TJ4 4
theorem nmJ4 : ∀ a, a < 4 → ∀ b, b < 4 → a ≠ b → (TJ4 a).2.1 ≠ (TJ4 b).2.1 := by decide +kernel
theorem tyJ4_ok : ∀ k, k < 4 → parseFieldDescriptor (TJ4 k).2.2.1 = some (tyJ4 k) := by decide +kernel
abbrev cJ4_init_da8c8 : ByteArray := prog_33_method_1_code
def yJ4_init_da8c8 : MethodName := ⟨RJ4, "<init>", "()V"⟩
abbrev cJ4_append_15ec4 : ByteArray := prog_33_method_7_code
def yJ4_append_15ec4 : MethodName := ⟨RJ4, "append", "(Ljava/lang/String;)Ljava/lang/StringBuilder;"⟩
abbrev cJ4_append_cf468 : ByteArray := prog_33_method_14_code
def yJ4_append_cf468 : MethodName := ⟨RJ4, "append", "(C)Ljava/lang/StringBuilder;"⟩
abbrev cJ4_append_bf812 : ByteArray := prog_33_method_15_code
def yJ4_append_bf812 : MethodName := ⟨RJ4, "append", "(I)Ljava/lang/StringBuilder;"⟩
abbrev cJ4_toString_0e30d : ByteArray := prog_33_method_42_code
def yJ4_toString_0e30d : MethodName := ⟨RJ4, "toString", "()Ljava/lang/String;"⟩
abbrev cJ4_charAt_5068e : ByteArray := prog_33_method_88_code
def yJ4_charAt_5068e : MethodName := ⟨RJ4, "charAt", "(I)C"⟩
abbrev cJ4_setLength_d00df : ByteArray := prog_33_method_89_code
def yJ4_setLength_d00df : MethodName := ⟨RJ4, "setLength", "(I)V"⟩
abbrev cJ4_length_8abf5 : ByteArray := prog_33_method_93_code
def yJ4_length_8abf5 : MethodName := ⟨RJ4, "length", "()I"⟩
def RJx7c733 : String := "java/lang/StringIndexOutOfBoundsException"
def TJx7c733 : u_T := fun k => match k with
  | 0 => ("java/lang/Throwable", "backtrace", "Ljava/lang/Object;", false)
  | 1 => ("java/lang/Throwable", "detailMessage", "Ljava/lang/String;", false)
  | 2 => ("java/lang/Throwable", "cause", "Ljava/lang/Throwable;", false)
  | 3 => ("java/lang/Throwable", "stackTrace", "[Ljava/lang/StackTraceElement;", false)
  | 4 => ("java/lang/Throwable", "depth", "I", false)
  | _ => ("java/lang/Throwable", "suppressedExceptions", "Ljava/util/List;", false)
def tyJx7c733 : Nat → FieldType := fun k => match k with
  | 0 => .object "java/lang/Object"
  | 1 => .object "java/lang/String"
  | 2 => .object "java/lang/Throwable"
  | 3 => .array (.object "java/lang/StackTraceElement")
  | 4 => .int
  | _ => .object "java/util/List"
abbrev wsJx7c7330 : List Cond := u_ws RJx7c733 TJx7c733 6
theorem nmJx7c733 : ∀ a, a < 6 → ∀ b, b < 6 → a ≠ b → (TJx7c733 a).2.1 ≠ (TJx7c733 b).2.1 := by decide +kernel
theorem tyJx7c733_ok : ∀ k, k < 6 → parseFieldDescriptor (TJx7c733 k).2.2.1 = some (tyJx7c733 k) := by decide +kernel
abbrev cJx7c733_init_d00df : ByteArray := prog_34_method_3_code
def yJx7c733_init_d00df : MethodName := ⟨RJx7c733, "<init>", "(I)V"⟩
def RJ1 : String := "java/lang/StringLatin1"
def TJ1 : u_T := fun k => match k with
  | _ => ("", "", "", false)
def tyJ1 : Nat → FieldType := fun k => match k with
  | _ => .int
abbrev wsJ10 : List Cond := u_ws RJ1 TJ1 0
theorem nmJ1 : ∀ a, a < 0 → ∀ b, b < 0 → a ≠ b → (TJ1 a).2.1 ≠ (TJ1 b).2.1 := by decide +kernel
theorem tyJ1_ok : ∀ k, k < 0 → parseFieldDescriptor (TJ1 k).2.2.1 = some (tyJ1 k) := by decide +kernel
abbrev cJ1_charAt_3b067 : ByteArray := prog_35_method_2_code
def yJ1_charAt_3b067 : MethodName := ⟨RJ1, "charAt", "([BI)C"⟩
abbrev cJ1_canEncode_fc78d : ByteArray := prog_35_method_3_code
def yJ1_canEncode_fc78d : MethodName := ⟨RJ1, "canEncode", "(C)Z"⟩
abbrev cJ1_fillNull_b72d1 : ByteArray := prog_35_method_48_code
def yJ1_fillNull_b72d1 : MethodName := ⟨RJ1, "fillNull", "([BII)V"⟩
abbrev cJ1_inflate_0e8fd : ByteArray := prog_35_method_50_code
def yJ1_inflate_0e8fd : MethodName := ⟨RJ1, "inflate", "([BI[BII)V"⟩
def RJ2 : String := "java/lang/StringUTF16"
def TJ2 : u_T := fun k => match k with
  | _ => ("", "", "", false)
def tyJ2 : Nat → FieldType := fun k => match k with
  | _ => .int
abbrev wsJ20 : List Cond := u_ws RJ2 TJ2 0
theorem nmJ2 : ∀ a, a < 0 → ∀ b, b < 0 → a ≠ b → (TJ2 a).2.1 ≠ (TJ2 b).2.1 := by decide +kernel
theorem tyJ2_ok : ∀ k, k < 0 → parseFieldDescriptor (TJ2 k).2.2.1 = some (tyJ2 k) := by decide +kernel
abbrev cJ2_newBytesFor_77867 : ByteArray := prog_36_method_2_code
def yJ2_newBytesFor_77867 : MethodName := ⟨RJ2, "newBytesFor", "(I)[B"⟩
abbrev cJ2_newBytesLength_0f7a4 : ByteArray := prog_36_method_3_code
def yJ2_newBytesLength_0f7a4 : MethodName := ⟨RJ2, "newBytesLength", "(I)I"⟩
abbrev cJ2_putChar_b72d1 : ByteArray := prog_36_method_4_code
def yJ2_putChar_b72d1 : MethodName := ⟨RJ2, "putChar", "([BII)V"⟩
abbrev cJ2_getChar_3b067 : ByteArray := prog_36_method_5_code
def yJ2_getChar_3b067 : MethodName := ⟨RJ2, "getChar", "([BI)C"⟩
abbrev cJ2_length_9d52b : ByteArray := prog_36_method_6_code
def yJ2_length_9d52b : MethodName := ⟨RJ2, "length", "([B)I"⟩
abbrev cJ2_coderFromArrayLen_85cad : ByteArray := prog_36_method_15_code
def yJ2_coderFromArrayLen_85cad : MethodName := ⟨RJ2, "coderFromArrayLen", "([BI)B"⟩
abbrev cJ2_compress_39247 : ByteArray := prog_36_method_17_code
def yJ2_compress_39247 : MethodName := ⟨RJ2, "compress", "([BII)[B"⟩
abbrev cJ2_compress_5af95 : ByteArray := prog_36_method_22_code
def yJ2_compress_5af95 : MethodName := ⟨RJ2, "compress", "([BI[BII)I"⟩
abbrev cJ2_fillNull_b72d1 : ByteArray := prog_36_method_70_code
def yJ2_fillNull_b72d1 : MethodName := ⟨RJ2, "fillNull", "([BII)V"⟩
abbrev cJ2_putCharSB_b72d1 : ByteArray := prog_36_method_71_code
def yJ2_putCharSB_b72d1 : MethodName := ⟨RJ2, "putCharSB", "([BII)V"⟩
abbrev cJ2_getChars_46870 : ByteArray := prog_36_method_77_code
def yJ2_getChars_46870 : MethodName := ⟨RJ2, "getChars", "(III[B)I"⟩
abbrev cJ2_putCharsAt_cd4e5 : ByteArray := prog_36_method_81_code
def yJ2_putCharsAt_cd4e5 : MethodName := ⟨RJ2, "putCharsAt", "([BICCCC)I"⟩
abbrev cJ2_charAt_3b067 : ByteArray := prog_36_method_83_code
def yJ2_charAt_3b067 : MethodName := ⟨RJ2, "charAt", "([BI)C"⟩
abbrev cJ2_inflate_0e8fd : ByteArray := prog_36_method_86_code
def yJ2_inflate_0e8fd : MethodName := ⟨RJ2, "inflate", "([BI[BII)V"⟩
abbrev cJ2_getChars_ba4f3 : ByteArray := prog_36_method_89_code
def yJ2_getChars_ba4f3 : MethodName := ⟨RJ2, "getChars", "(II[B)I"⟩
abbrev cJ2_checkIndex_2214a : ByteArray := prog_36_method_91_code
def yJ2_checkIndex_2214a : MethodName := ⟨RJ2, "checkIndex", "(I[B)V"⟩
abbrev cJ2_checkBoundsBeginEnd_d044e : ByteArray := prog_36_method_93_code
def yJ2_checkBoundsBeginEnd_d044e : MethodName := ⟨RJ2, "checkBoundsBeginEnd", "(II[B)V"⟩
abbrev cJ2_checkBoundsOffCount_d044e : ByteArray := prog_36_method_94_code
def yJ2_checkBoundsOffCount_d044e : MethodName := ⟨RJ2, "checkBoundsOffCount", "(II[B)V"⟩
def RJ10 : String := "java/lang/System"
def TJ10 : u_T := fun k => match k with
  | _ => ("", "", "", false)
def tyJ10 : Nat → FieldType := fun k => match k with
  | _ => .int
abbrev wsJ100 : List Cond := u_ws RJ10 TJ10 0
theorem nmJ10 : ∀ a, a < 0 → ∀ b, b < 0 → a ≠ b → (TJ10 a).2.1 ≠ (TJ10 b).2.1 := by decide +kernel
theorem tyJ10_ok : ∀ k, k < 0 → parseFieldDescriptor (TJ10 k).2.2.1 = some (tyJ10 k) := by decide +kernel
def RJxfd54e : String := "java/lang/constant/Constable"
def TJxfd54e : u_T := fun k => match k with
  | _ => ("", "", "", false)
def tyJxfd54e : Nat → FieldType := fun k => match k with
  | _ => .int
abbrev wsJxfd54e0 : List Cond := u_ws RJxfd54e TJxfd54e 0
theorem nmJxfd54e : ∀ a, a < 0 → ∀ b, b < 0 → a ≠ b → (TJxfd54e a).2.1 ≠ (TJxfd54e b).2.1 := by decide +kernel
theorem tyJxfd54e_ok : ∀ k, k < 0 → parseFieldDescriptor (TJxfd54e k).2.2.1 = some (tyJxfd54e k) := by decide +kernel
def RJx3cf43 : String := "java/lang/constant/ConstantDesc"
def TJx3cf43 : u_T := fun k => match k with
  | _ => ("", "", "", false)
def tyJx3cf43 : Nat → FieldType := fun k => match k with
  | _ => .int
abbrev wsJx3cf430 : List Cond := u_ws RJx3cf43 TJx3cf43 0
theorem nmJx3cf43 : ∀ a, a < 0 → ∀ b, b < 0 → a ≠ b → (TJx3cf43 a).2.1 ≠ (TJx3cf43 b).2.1 := by decide +kernel
theorem tyJx3cf43_ok : ∀ k, k < 0 → parseFieldDescriptor (TJx3cf43 k).2.2.1 = some (tyJx3cf43 k) := by decide +kernel
def RJ7 : String := "java/util/Arrays"
def TJ7 : u_T := fun k => match k with
  | _ => ("", "", "", false)
def tyJ7 : Nat → FieldType := fun k => match k with
  | _ => .int
abbrev wsJ70 : List Cond := u_ws RJ7 TJ7 0
theorem nmJ7 : ∀ a, a < 0 → ∀ b, b < 0 → a ≠ b → (TJ7 a).2.1 ≠ (TJ7 b).2.1 := by decide +kernel
theorem tyJ7_ok : ∀ k, k < 0 → parseFieldDescriptor (TJ7 k).2.2.1 = some (tyJ7 k) := by decide +kernel
abbrev cJ7_rangeCheck_23922 : ByteArray := prog_42_method_30_code
def yJ7_rangeCheck_23922 : MethodName := ⟨RJ7, "rangeCheck", "(III)V"⟩
abbrev cJ7_fill_eb02e : ByteArray := prog_42_method_110_code
def yJ7_fill_eb02e : MethodName := ⟨RJ7, "fill", "([BIIB)V"⟩
abbrev cJ7_copyOf_9075b : ByteArray := prog_42_method_121_code
def yJ7_copyOf_9075b : MethodName := ⟨RJ7, "copyOf", "([BI)[B"⟩
abbrev cJ7_checkLength_df160 : ByteArray := prog_42_method_131_code
def yJ7_checkLength_df160 : MethodName := ⟨RJ7, "checkLength", "(II)V"⟩
abbrev cJ7_copyOfRange_39247 : ByteArray := prog_42_method_132_code
def yJ7_copyOfRange_39247 : MethodName := ⟨RJ7, "copyOfRange", "([BII)[B"⟩
abbrev cJ7_copyOfRangeByte_39247 : ByteArray := prog_42_method_133_code
def yJ7_copyOfRangeByte_39247 : MethodName := ⟨RJ7, "copyOfRangeByte", "([BII)[B"⟩
def RJ8 : String := "jdk/internal/util/ArraysSupport"
def TJ8 : u_T := fun k => match k with
  | _ => ("", "", "", false)
def tyJ8 : Nat → FieldType := fun k => match k with
  | _ => .int
abbrev wsJ80 : List Cond := u_ws RJ8 TJ8 0
theorem nmJ8 : ∀ a, a < 0 → ∀ b, b < 0 → a ≠ b → (TJ8 a).2.1 ≠ (TJ8 b).2.1 := by decide +kernel
theorem tyJ8_ok : ∀ k, k < 0 → parseFieldDescriptor (TJ8 k).2.2.1 = some (tyJ8 k) := by decide +kernel
abbrev cJ8_newLength_cabcc : ByteArray := prog_44_method_27_code
def yJ8_newLength_cabcc : MethodName := ⟨RJ8, "newLength", "(III)I"⟩
abbrev cJ8_hugeLength_7cf53 : ByteArray := prog_44_method_28_code
def yJ8_hugeLength_7cf53 : MethodName := ⟨RJ8, "hugeLength", "(II)I"⟩
def RJ3 : String := "jdk/internal/util/Preconditions"
def TJ3 : u_T := fun k => match k with
  | _ => ("", "", "", false)
def tyJ3 : Nat → FieldType := fun k => match k with
  | _ => .int
abbrev wsJ30 : List Cond := u_ws RJ3 TJ3 0
theorem nmJ3 : ∀ a, a < 0 → ∀ b, b < 0 → a ≠ b → (TJ3 a).2.1 ≠ (TJ3 b).2.1 := by decide +kernel
theorem tyJ3_ok : ∀ k, k < 0 → parseFieldDescriptor (TJ3 k).2.2.1 = some (tyJ3 k) := by decide +kernel
abbrev cJ3_checkIndex_8e157 : ByteArray := prog_45_method_11_code
def yJ3_checkIndex_8e157 : MethodName := ⟨RJ3, "checkIndex", "(IILjava/util/function/BiFunction;)I"⟩
abbrev cJ3_checkFromToIndex_8c36e : ByteArray := prog_45_method_12_code
def yJ3_checkFromToIndex_8c36e : MethodName := ⟨RJ3, "checkFromToIndex", "(IIILjava/util/function/BiFunction;)I"⟩
abbrev cJ3_checkFromIndexSize_8c36e : ByteArray := prog_45_method_13_code
def yJ3_checkFromIndexSize_8c36e : MethodName := ⟨RJ3, "checkFromIndexSize", "(IIILjava/util/function/BiFunction;)I"⟩
def RL : String := "DropMarketLaw"
abbrev cL_cell : ByteArray := method_2_code
def yL_cell : MethodName := ⟨RL, "cell", "([II)I"⟩
abbrev cL_addStall : ByteArray := method_3_code
def yL_addStall : MethodName := ⟨RL, "addStall", "(LDropMarket;II)I"⟩
abbrev cL_buy : ByteArray := method_4_code
def yL_buy : MethodName := ⟨RL, "buy", "(LDropMarket;III)I"⟩
abbrev cL_sell : ByteArray := method_5_code
def yL_sell : MethodName := ⟨RL, "sell", "(LDropMarket;III)I"⟩
abbrev cL_buyFor : ByteArray := method_6_code
def yL_buyFor : MethodName := ⟨RL, "buyFor", "(LDropMarket;IIII)I"⟩
abbrev cL_sellFor : ByteArray := method_7_code
def yL_sellFor : MethodName := ⟨RL, "sellFor", "(LDropMarket;IIII)I"⟩
abbrev cL_takeBuy : ByteArray := method_8_code
def yL_takeBuy : MethodName := ⟨RL, "takeBuy", "(LDropMarket;III)I"⟩
abbrev cL_takeSell : ByteArray := method_9_code
def yL_takeSell : MethodName := ⟨RL, "takeSell", "(LDropMarket;III)I"⟩
abbrev cL_cancel : ByteArray := method_10_code
def yL_cancel : MethodName := ⟨RL, "cancel", "(LDropMarket;I)I"⟩
abbrev cL_pass : ByteArray := method_11_code
def yL_pass : MethodName := ⟨RL, "pass", "(LDropMarket;I)I"⟩
abbrev cL_open : ByteArray := method_12_code
def yL_open : MethodName := ⟨RL, "open", "(LDropMarket;)I"⟩
abbrev cL_close : ByteArray := method_13_code
def yL_close : MethodName := ⟨RL, "close", "(LDropMarket;)I"⟩
abbrev cL_money : ByteArray := method_14_code
def yL_money : MethodName := ⟨RL, "money", "(LDropMarket;I)I"⟩
abbrev cL_drops : ByteArray := method_15_code
def yL_drops : MethodName := ⟨RL, "drops", "(LDropMarket;I)I"⟩
abbrev cL_freeMoney : ByteArray := method_16_code
def yL_freeMoney : MethodName := ⟨RL, "freeMoney", "(LDropMarket;I)I"⟩
abbrev cL_freeDrops : ByteArray := method_17_code
def yL_freeDrops : MethodName := ⟨RL, "freeDrops", "(LDropMarket;I)I"⟩
abbrev cL_byMoney : ByteArray := method_18_code
def yL_byMoney : MethodName := ⟨RL, "byMoney", "(LDropMarket;I)I"⟩
abbrev cL_orderAt : ByteArray := method_19_code
def yL_orderAt : MethodName := ⟨RL, "orderAt", "(LDropMarket;I)I"⟩
abbrev cL_stallOf : ByteArray := method_20_code
def yL_stallOf : MethodName := ⟨RL, "stallOf", "(LDropMarket;I)I"⟩
abbrev cL_isBuying : ByteArray := method_21_code
def yL_isBuying : MethodName := ⟨RL, "isBuying", "(LDropMarket;I)I"⟩
abbrev cL_priceOf : ByteArray := method_22_code
def yL_priceOf : MethodName := ⟨RL, "priceOf", "(LDropMarket;I)I"⟩
abbrev cL_quantityOf : ByteArray := method_23_code
def yL_quantityOf : MethodName := ⟨RL, "quantityOf", "(LDropMarket;I)I"⟩
abbrev cL_minutesLeft : ByteArray := method_24_code
def yL_minutesLeft : MethodName := ⟨RL, "minutesLeft", "(LDropMarket;I)I"⟩
abbrev cL_bestBuy : ByteArray := method_25_code
def yL_bestBuy : MethodName := ⟨RL, "bestBuy", "(LDropMarket;)I"⟩
abbrev cL_bestSell : ByteArray := method_26_code
def yL_bestSell : MethodName := ⟨RL, "bestSell", "(LDropMarket;)I"⟩
abbrev cL_spread : ByteArray := method_27_code
def yL_spread : MethodName := ⟨RL, "spread", "(LDropMarket;)I"⟩
abbrev cL_spreadBySums : ByteArray := method_28_code
def yL_spreadBySums : MethodName := ⟨RL, "spreadBySums", "(LDropMarket;)I"⟩
abbrev cL_buyingAt : ByteArray := method_29_code
def yL_buyingAt : MethodName := ⟨RL, "buyingAt", "(LDropMarket;I)I"⟩
abbrev cL_sellingAt : ByteArray := method_30_code
def yL_sellingAt : MethodName := ⟨RL, "sellingAt", "(LDropMarket;I)I"⟩
abbrev cL_lastPrice : ByteArray := method_31_code
def yL_lastPrice : MethodName := ⟨RL, "lastPrice", "(LDropMarket;)I"⟩
abbrev cL_poolPrice : ByteArray := method_32_code
def yL_poolPrice : MethodName := ⟨RL, "poolPrice", "(LDropMarket;)I"⟩
abbrev cL_poolBySums : ByteArray := method_33_code
def yL_poolBySums : MethodName := ⟨RL, "poolBySums", "(LDropMarket;)I"⟩
abbrev cL_volumeAt : ByteArray := method_34_code
def yL_volumeAt : MethodName := ⟨RL, "volumeAt", "(LDropMarket;I)I"⟩
abbrev cL_writeOrder : ByteArray := method_35_code
def yL_writeOrder : MethodName := ⟨RL, "writeOrder", "(LDropMarket;I)I"⟩
abbrev cL_lineAt : ByteArray := method_36_code
def yL_lineAt : MethodName := ⟨RL, "lineAt", "(LDropMarket;I)I"⟩
abbrev cL_type : ByteArray := method_37_code
def yL_type : MethodName := ⟨RL, "type", "(LDropMarket;C)I"⟩
abbrev cL_executes : ByteArray := method_38_code
def yL_executes : MethodName := ⟨RL, "executes", "(LDropMarket;)I"⟩
abbrev cL_undo : ByteArray := method_41_code
def yL_undo : MethodName := ⟨RL, "undo", "(LDropMarket;)I"⟩
abbrev cL_execute : ByteArray := method_42_code
def yL_execute : MethodName := ⟨RL, "execute", "(LDropMarket;Ljava/lang/String;)I"⟩
abbrev cL_drawn : ByteArray := method_43_code
def yL_drawn : MethodName := ⟨RL, "drawn", "([I)LDropMarket;"⟩
abbrev cL_law : ByteArray := code
def yL_law : MethodName := ⟨RL, "law", "([I)Z"⟩
abbrev cL_stalls : ByteArray := method_45_code
def yL_stalls : MethodName := ⟨RL, "stalls", "(LDropMarket;)Z"⟩
abbrev cL_book : ByteArray := method_46_code
def yL_book : MethodName := ⟨RL, "book", "(LDropMarket;)Z"⟩
abbrev cL_pool : ByteArray := method_47_code
def yL_pool : MethodName := ⟨RL, "pool", "(LDropMarket;)Z"⟩
abbrev cL_spells : ByteArray := method_48_code
def yL_spells : MethodName := ⟨RL, "spells", "(LDropMarket;ILjava/lang/String;)Z"⟩
abbrev cL_lines : ByteArray := method_49_code
def yL_lines : MethodName := ⟨RL, "lines", "(LDropMarket;)Z"⟩
abbrev cL_sum : ByteArray := method_50_code
def yL_sum : MethodName := ⟨RL, "sum", "(LDropMarket;)J"⟩
abbrev cL_undone : ByteArray := method_51_code
def yL_undone : MethodName := ⟨RL, "undone", "([ILDropMarket;)Z"⟩
abbrev vwCl : List vw_C := [(RJ0, TJ0, 4), (RJ4, TJ4, 4), (RJx00060, TJx00060, 6), (RJx7c733, TJx7c733, 6), (RX1, TX1, 7), (RX2, TX2, 4), (RX4, TX4, 3), (RX5, TX5, 3), (RX6, TX6, 2), (RX7, TX7, 1), (RX8, TX8, 3), (RX9, TX9, 9), (RX11, TX11, 10)]
/-! ===== END printed: names ===== -/
