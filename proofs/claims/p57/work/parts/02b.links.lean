/-! the words of the tables, by their places: by program (wip/p57/gen_links.py) -/
theorem tb1 : ∀ w ∈ tables_1_1, w ∈ lw_tbl := fun w h => List.mem_append_right _ (List.mem_append_left _ h)
theorem tb2 : ∀ w ∈ tables_1_2, w ∈ lw_tbl := fun w h => List.mem_append_right _ (List.mem_append_right _ (List.mem_append_left _ h))
theorem tb3 : ∀ w ∈ tables_1_3, w ∈ lw_tbl := fun w h => List.mem_append_right _ (List.mem_append_right _ (List.mem_append_right _ (List.mem_append_left _ h)))
theorem tb4 : ∀ w ∈ tables_1_4, w ∈ lw_tbl := fun w h => List.mem_append_right _ (List.mem_append_right _ (List.mem_append_right _ (List.mem_append_right _ (List.mem_append_left _ h))))
theorem tb5 : ∀ w ∈ tables_1_5, w ∈ lw_tbl := fun w h => List.mem_append_right _ (List.mem_append_right _ (List.mem_append_right _ (List.mem_append_right _ (List.mem_append_right _ (List.mem_append_left _ h)))))
theorem tb6 : ∀ w ∈ tables_1_6, w ∈ lw_tbl := fun w h => List.mem_append_right _ (List.mem_append_right _ (List.mem_append_right _ (List.mem_append_right _ (List.mem_append_right _ (List.mem_append_right _ (List.mem_append_left _ h))))))
theorem tb7 : ∀ w ∈ tables_1_7, w ∈ lw_tbl := fun w h => List.mem_append_right _ (List.mem_append_right _ (List.mem_append_right _ (List.mem_append_right _ (List.mem_append_right _ (List.mem_append_right _ (List.mem_append_right _ (h)))))))
def LW : List Cond := lw_tbl.filter goodWord
theorem lwm {w : Cond} (h : w ∈ lw_tbl) (g : goodWord w = true) : w ∈ LW := List.mem_filter.mpr ⟨h, g⟩
theorem LW_in : ∀ w ∈ LW, w ∈ lw_tbl := fun _ h => (List.mem_filter.mp h).1
theorem LW_good : ∀ w ∈ LW, (w.onTables && w.keeps) = true ∨ ∃ ty, w = .arrayClass ty := fun _ h => good_of_word (List.mem_filter.mp h).2
/-- what the tables say of an instance method: it is one, it selects itself, its class, its code, its parameters -/
def YfV (y : MethodName) (cc : ByteArray) (n : Nat) (r : Option FieldType) (k : Nat) : Prop := (Cond.instanceMethod y ∈ LW ∧ Cond.selects y.cls y y ∈ LW ∧ Cond.initialized y.cls ∈ LW ∧ Cond.code y cc n r ∈ LW) ∧ (y.cls ≠ "java/lang/invoke/MethodHandle" ∧ y.cls ≠ "java/lang/invoke/VarHandle" ∧ (parseMethodDescriptor y.desc).map (fun d => d.parameters.length) = some k)
def YfS (y : MethodName) (cc : ByteArray) (n : Nat) (r : Option FieldType) (k : Nat) : Prop := (Cond.static y ∈ LW ∧ Cond.initialized y.cls ∈ LW ∧ Cond.code y cc n r ∈ LW) ∧ (y.cls ≠ "java/lang/invoke/MethodHandle" ∧ y.cls ≠ "java/lang/invoke/VarHandle" ∧ (parseMethodDescriptor y.desc).map (fun d => d.parameters.length) = some k)
def YfI (y : MethodName) (cc : ByteArray) (n : Nat) (k : Nat) : Prop := (Cond.instanceMethod y ∈ LW ∧ Cond.initialized y.cls ∈ LW ∧ Cond.code y cc n none ∈ LW) ∧ (y.cls ≠ "java/lang/invoke/MethodHandle" ∧ y.cls ≠ "java/lang/invoke/VarHandle" ∧ (parseMethodDescriptor y.desc).map (fun d => d.parameters.length) = some k)
-- classes are initialised
theorem ini_L : Cond.initialized RL ∈ LW := lwm (tb1 _ (List.mem_of_getElem? (i := 0) rfl)) rfl
theorem ini_X11 : Cond.initialized RX11 ∈ LW := lwm (tb1 _ (List.mem_of_getElem? (i := 1) rfl)) rfl
theorem ini_X9 : Cond.initialized RX9 ∈ LW := lwm (tb1 _ (List.mem_of_getElem? (i := 2) rfl)) rfl
theorem ini_X8 : Cond.initialized RX8 ∈ LW := lwm (tb1 _ (List.mem_of_getElem? (i := 3) rfl)) rfl
theorem ini_X7 : Cond.initialized RX7 ∈ LW := lwm (tb1 _ (List.mem_of_getElem? (i := 4) rfl)) rfl
theorem ini_J9 : Cond.initialized RJ9 ∈ LW := lwm (tb1 _ (List.mem_of_getElem? (i := 5) rfl)) rfl
theorem ini_X1 : Cond.initialized RX1 ∈ LW := lwm (tb1 _ (List.mem_of_getElem? (i := 6) rfl)) rfl
theorem ini_X4 : Cond.initialized RX4 ∈ LW := lwm (tb1 _ (List.mem_of_getElem? (i := 7) rfl)) rfl
theorem ini_X6 : Cond.initialized RX6 ∈ LW := lwm (tb1 _ (List.mem_of_getElem? (i := 8) rfl)) rfl
theorem ini_X2 : Cond.initialized RX2 ∈ LW := lwm (tb1 _ (List.mem_of_getElem? (i := 9) rfl)) rfl
theorem ini_J5 : Cond.initialized RJ5 ∈ LW := lwm (tb1 _ (List.mem_of_getElem? (i := 10) rfl)) rfl
theorem ini_J4 : Cond.initialized RJ4 ∈ LW := lwm (tb1 _ (List.mem_of_getElem? (i := 11) rfl)) rfl
theorem ini_J0 : Cond.initialized RJ0 ∈ LW := lwm (tb1 _ (List.mem_of_getElem? (i := 12) rfl)) rfl
theorem ini_J2 : Cond.initialized RJ2 ∈ LW := lwm (tb1 _ (List.mem_of_getElem? (i := 13) rfl)) rfl
theorem ini_Jx29ce0 : Cond.initialized RJx29ce0 ∈ LW := lwm (tb1 _ (List.mem_of_getElem? (i := 14) rfl)) rfl
theorem ini_X10 : Cond.initialized RX10 ∈ LW := lwm (tb1 _ (List.mem_of_getElem? (i := 15) rfl)) rfl
theorem ini_X3 : Cond.initialized RX3 ∈ LW := lwm (tb1 _ (List.mem_of_getElem? (i := 16) rfl)) rfl
theorem ini_java_lang_Throwable : Cond.initialized "java/lang/Throwable" ∈ LW := lwm (tb1 _ (List.mem_of_getElem? (i := 17) rfl)) rfl
theorem ini_java_lang_Exception : Cond.initialized "java/lang/Exception" ∈ LW := lwm (tb1 _ (List.mem_of_getElem? (i := 18) rfl)) rfl
theorem ini_java_lang_RuntimeException : Cond.initialized "java/lang/RuntimeException" ∈ LW := lwm (tb1 _ (List.mem_of_getElem? (i := 19) rfl)) rfl
theorem ini_java_lang_IndexOutOfBoundsException : Cond.initialized "java/lang/IndexOutOfBoundsException" ∈ LW := lwm (tb1 _ (List.mem_of_getElem? (i := 20) rfl)) rfl
theorem ini_java_lang_IllegalArgumentException : Cond.initialized "java/lang/IllegalArgumentException" ∈ LW := lwm (tb1 _ (List.mem_of_getElem? (i := 21) rfl)) rfl
theorem ini_java_lang_IllegalStateException : Cond.initialized "java/lang/IllegalStateException" ∈ LW := lwm (tb1 _ (List.mem_of_getElem? (i := 22) rfl)) rfl
theorem ini_java_lang_UnsupportedOperationException : Cond.initialized "java/lang/UnsupportedOperationException" ∈ LW := lwm (tb1 _ (List.mem_of_getElem? (i := 23) rfl)) rfl
theorem ini_java_util_NoSuchElementException : Cond.initialized "java/util/NoSuchElementException" ∈ LW := lwm (tb1 _ (List.mem_of_getElem? (i := 24) rfl)) rfl
theorem ini_Jx00060 : Cond.initialized RJx00060 ∈ LW := lwm (tb1 _ (List.mem_of_getElem? (i := 25) rfl)) rfl
theorem ini_X5 : Cond.initialized RX5 ∈ LW := lwm (tb1 _ (List.mem_of_getElem? (i := 26) rfl)) rfl
theorem ini_java_lang_ArithmeticException : Cond.initialized "java/lang/ArithmeticException" ∈ LW := lwm (tb1 _ (List.mem_of_getElem? (i := 27) rfl)) rfl
theorem ini_Jxd2413 : Cond.initialized RJxd2413 ∈ LW := lwm (tb1 _ (List.mem_of_getElem? (i := 28) rfl)) rfl
theorem ini_J6 : Cond.initialized RJ6 ∈ LW := lwm (tb1 _ (List.mem_of_getElem? (i := 29) rfl)) rfl
theorem ini_J8 : Cond.initialized RJ8 ∈ LW := lwm (tb1 _ (List.mem_of_getElem? (i := 30) rfl)) rfl
theorem ini_J7 : Cond.initialized RJ7 ∈ LW := lwm (tb1 _ (List.mem_of_getElem? (i := 31) rfl)) rfl
theorem ini_J10 : Cond.initialized RJ10 ∈ LW := lwm (tb1 _ (List.mem_of_getElem? (i := 32) rfl)) rfl
theorem ini_J3 : Cond.initialized RJ3 ∈ LW := lwm (tb1 _ (List.mem_of_getElem? (i := 33) rfl)) rfl
theorem ini_J1 : Cond.initialized RJ1 ∈ LW := lwm (tb1 _ (List.mem_of_getElem? (i := 34) rfl)) rfl
theorem ini_Jx7c733 : Cond.initialized RJx7c733 ∈ LW := lwm (tb1 _ (List.mem_of_getElem? (i := 35) rfl)) rfl
theorem ini_X0 : Cond.initialized RX0 ∈ LW := lwm (tb1 _ (List.mem_of_getElem? (i := 36) rfl)) rfl
theorem isb_X11 : Cond.instantiable RX11 10 ∈ LW := lwm (tb1 _ (List.mem_of_getElem? (i := 41) rfl)) rfl
theorem isb_X9 : Cond.instantiable RX9 9 ∈ LW := lwm (tb1 _ (List.mem_of_getElem? (i := 49) rfl)) rfl
theorem isb_X8 : Cond.instantiable RX8 3 ∈ LW := lwm (tb1 _ (List.mem_of_getElem? (i := 55) rfl)) rfl
theorem isb_X7 : Cond.instantiable RX7 1 ∈ LW := lwm (tb1 _ (List.mem_of_getElem? (i := 61) rfl)) rfl
theorem isb_X1 : Cond.instantiable RX1 7 ∈ LW := lwm (tb1 _ (List.mem_of_getElem? (i := 91) rfl)) rfl
theorem isb_X4 : Cond.instantiable RX4 3 ∈ LW := lwm (tb1 _ (List.mem_of_getElem? (i := 171) rfl)) rfl
theorem isb_X6 : Cond.instantiable RX6 2 ∈ LW := lwm (tb1 _ (List.mem_of_getElem? (i := 191) rfl)) rfl
theorem isb_X2 : Cond.instantiable RX2 4 ∈ LW := lwm (tb1 _ (List.mem_of_getElem? (i := 206) rfl)) rfl
theorem isb_J4 : Cond.instantiable RJ4 4 ∈ LW := lwm (tb1 _ (List.mem_of_getElem? (i := 212) rfl)) rfl
theorem isb_java_lang_IndexOutOfBoundsException : Cond.instantiable "java/lang/IndexOutOfBoundsException" 6 ∈ LW := lwm (tb2 _ (List.mem_of_getElem? (i := 93) rfl)) rfl
theorem isb_java_lang_Throwable : Cond.instantiable "java/lang/Throwable" 6 ∈ LW := lwm (tb2 _ (List.mem_of_getElem? (i := 136) rfl)) rfl
theorem isb_java_lang_IllegalArgumentException : Cond.instantiable "java/lang/IllegalArgumentException" 6 ∈ LW := lwm (tb2 _ (List.mem_of_getElem? (i := 166) rfl)) rfl
theorem isb_java_lang_IllegalStateException : Cond.instantiable "java/lang/IllegalStateException" 6 ∈ LW := lwm (tb2 _ (List.mem_of_getElem? (i := 183) rfl)) rfl
theorem isb_java_lang_UnsupportedOperationException : Cond.instantiable "java/lang/UnsupportedOperationException" 6 ∈ LW := lwm (tb2 _ (List.mem_of_getElem? (i := 201) rfl)) rfl
theorem isb_java_util_NoSuchElementException : Cond.instantiable "java/util/NoSuchElementException" 6 ∈ LW := lwm (tb2 _ (List.mem_of_getElem? (i := 219) rfl)) rfl
theorem isb_Jx00060 : Cond.instantiable RJx00060 6 ∈ LW := lwm (tb3 _ (List.mem_of_getElem? (i := 34) rfl)) rfl
theorem isb_J0 : Cond.instantiable RJ0 4 ∈ LW := lwm (tb3 _ (List.mem_of_getElem? (i := 49) rfl)) rfl
theorem isb_X5 : Cond.instantiable RX5 3 ∈ LW := lwm (tb3 _ (List.mem_of_getElem? (i := 230) rfl)) rfl
theorem isb_java_lang_ArithmeticException : Cond.instantiable "java/lang/ArithmeticException" 6 ∈ LW := lwm (tb4 _ (List.mem_of_getElem? (i := 208) rfl)) rfl
theorem isb_Jx7c733 : Cond.instantiable RJx7c733 6 ∈ LW := lwm (tb6 _ (List.mem_of_getElem? (i := 106) rfl)) rfl
-- fields, classes, methods as a class links them
theorem fl_X7_13 : Cond.fieldLink RX7 13 "DropMarket$Row" "cells" "[I" ∈ LW := lwm (tb1 _ (List.mem_of_getElem? (i := 69) rfl)) rfl
theorem fl_X8_14 : Cond.fieldLink RX8 14 "DropMarket$Stalls" "money" "LDropMarket$Row;" ∈ LW := lwm (tb1 _ (List.mem_of_getElem? (i := 74) rfl)) rfl
theorem fl_X9_92 : Cond.fieldLink RX9 92 "DropMarket$Stalls" "money" "LDropMarket$Row;" ∈ LW := lwm (tb1 _ (List.mem_of_getElem? (i := 75) rfl)) rfl
theorem fl_X11_130 : Cond.fieldLink RX11 130 "DropMarket$Stalls" "money" "LDropMarket$Row;" ∈ LW := lwm (tb1 _ (List.mem_of_getElem? (i := 76) rfl)) rfl
theorem fl_X8_20 : Cond.fieldLink RX8 20 "DropMarket$Stalls" "drops" "LDropMarket$Row;" ∈ LW := lwm (tb1 _ (List.mem_of_getElem? (i := 77) rfl)) rfl
theorem fl_X9_104 : Cond.fieldLink RX9 104 "DropMarket$Stalls" "drops" "LDropMarket$Row;" ∈ LW := lwm (tb1 _ (List.mem_of_getElem? (i := 78) rfl)) rfl
theorem fl_X11_139 : Cond.fieldLink RX11 139 "DropMarket$Stalls" "drops" "LDropMarket$Row;" ∈ LW := lwm (tb1 _ (List.mem_of_getElem? (i := 79) rfl)) rfl
theorem fl_X8_23 : Cond.fieldLink RX8 23 "DropMarket$Stalls" "count" "I" ∈ LW := lwm (tb1 _ (List.mem_of_getElem? (i := 80) rfl)) rfl
theorem fl_X9_110 : Cond.fieldLink RX9 110 "DropMarket$Stalls" "count" "I" ∈ LW := lwm (tb1 _ (List.mem_of_getElem? (i := 81) rfl)) rfl
theorem fl_X11_123 : Cond.fieldLink RX11 123 "DropMarket$Stalls" "count" "I" ∈ LW := lwm (tb1 _ (List.mem_of_getElem? (i := 82) rfl)) rfl
theorem fl_X1_14 : Cond.fieldLink RX1 14 "DropMarket$Book" "numbers" "LDropMarket$Row;" ∈ LW := lwm (tb1 _ (List.mem_of_getElem? (i := 98) rfl)) rfl
theorem fl_X11_173 : Cond.fieldLink RX11 173 "DropMarket$Book" "numbers" "LDropMarket$Row;" ∈ LW := lwm (tb1 _ (List.mem_of_getElem? (i := 99) rfl)) rfl
theorem fl_X1_20 : Cond.fieldLink RX1 20 "DropMarket$Book" "stalls" "LDropMarket$Row;" ∈ LW := lwm (tb1 _ (List.mem_of_getElem? (i := 100) rfl)) rfl
theorem fl_X9_137 : Cond.fieldLink RX9 137 "DropMarket$Book" "stalls" "LDropMarket$Row;" ∈ LW := lwm (tb1 _ (List.mem_of_getElem? (i := 101) rfl)) rfl
theorem fl_X11_176 : Cond.fieldLink RX11 176 "DropMarket$Book" "stalls" "LDropMarket$Row;" ∈ LW := lwm (tb1 _ (List.mem_of_getElem? (i := 102) rfl)) rfl
theorem fl_X1_23 : Cond.fieldLink RX1 23 "DropMarket$Book" "sides" "LDropMarket$Row;" ∈ LW := lwm (tb1 _ (List.mem_of_getElem? (i := 103) rfl)) rfl
theorem fl_X1_26 : Cond.fieldLink RX1 26 "DropMarket$Book" "prices" "LDropMarket$Row;" ∈ LW := lwm (tb1 _ (List.mem_of_getElem? (i := 104) rfl)) rfl
theorem fl_X6_36 : Cond.fieldLink RX6 36 "DropMarket$Book" "prices" "LDropMarket$Row;" ∈ LW := lwm (tb1 _ (List.mem_of_getElem? (i := 105) rfl)) rfl
theorem fl_X9_125 : Cond.fieldLink RX9 125 "DropMarket$Book" "prices" "LDropMarket$Row;" ∈ LW := lwm (tb1 _ (List.mem_of_getElem? (i := 106) rfl)) rfl
theorem fl_X11_185 : Cond.fieldLink RX11 185 "DropMarket$Book" "prices" "LDropMarket$Row;" ∈ LW := lwm (tb1 _ (List.mem_of_getElem? (i := 107) rfl)) rfl
theorem fl_X1_29 : Cond.fieldLink RX1 29 "DropMarket$Book" "quantities" "LDropMarket$Row;" ∈ LW := lwm (tb1 _ (List.mem_of_getElem? (i := 108) rfl)) rfl
theorem fl_X6_43 : Cond.fieldLink RX6 43 "DropMarket$Book" "quantities" "LDropMarket$Row;" ∈ LW := lwm (tb1 _ (List.mem_of_getElem? (i := 109) rfl)) rfl
theorem fl_X9_128 : Cond.fieldLink RX9 128 "DropMarket$Book" "quantities" "LDropMarket$Row;" ∈ LW := lwm (tb1 _ (List.mem_of_getElem? (i := 110) rfl)) rfl
theorem fl_X11_188 : Cond.fieldLink RX11 188 "DropMarket$Book" "quantities" "LDropMarket$Row;" ∈ LW := lwm (tb1 _ (List.mem_of_getElem? (i := 111) rfl)) rfl
theorem fl_X1_32 : Cond.fieldLink RX1 32 "DropMarket$Book" "minutes" "LDropMarket$Row;" ∈ LW := lwm (tb1 _ (List.mem_of_getElem? (i := 112) rfl)) rfl
theorem fl_X9_155 : Cond.fieldLink RX9 155 "DropMarket$Book" "minutes" "LDropMarket$Row;" ∈ LW := lwm (tb1 _ (List.mem_of_getElem? (i := 113) rfl)) rfl
theorem fl_X11_191 : Cond.fieldLink RX11 191 "DropMarket$Book" "minutes" "LDropMarket$Row;" ∈ LW := lwm (tb1 _ (List.mem_of_getElem? (i := 114) rfl)) rfl
theorem fl_X1_35 : Cond.fieldLink RX1 35 "DropMarket$Book" "count" "I" ∈ LW := lwm (tb1 _ (List.mem_of_getElem? (i := 115) rfl)) rfl
theorem fl_X6_26 : Cond.fieldLink RX6 26 "DropMarket$Book" "count" "I" ∈ LW := lwm (tb1 _ (List.mem_of_getElem? (i := 116) rfl)) rfl
theorem fl_X9_154 : Cond.fieldLink RX9 154 "DropMarket$Book" "count" "I" ∈ LW := lwm (tb1 _ (List.mem_of_getElem? (i := 117) rfl)) rfl
theorem fl_X11_165 : Cond.fieldLink RX11 165 "DropMarket$Book" "count" "I" ∈ LW := lwm (tb1 _ (List.mem_of_getElem? (i := 118) rfl)) rfl
theorem fl_X9_12 : Cond.fieldLink RX9 12 "DropMarket$State" "stalls" "LDropMarket$Stalls;" ∈ LW := lwm (tb1 _ (List.mem_of_getElem? (i := 134) rfl)) rfl
theorem fl_X11_73 : Cond.fieldLink RX11 73 "DropMarket$State" "stalls" "LDropMarket$Stalls;" ∈ LW := lwm (tb1 _ (List.mem_of_getElem? (i := 135) rfl)) rfl
theorem fl_X9_21 : Cond.fieldLink RX9 21 "DropMarket$State" "book" "LDropMarket$Book;" ∈ LW := lwm (tb1 _ (List.mem_of_getElem? (i := 136) rfl)) rfl
theorem fl_X11_161 : Cond.fieldLink RX11 161 "DropMarket$State" "book" "LDropMarket$Book;" ∈ LW := lwm (tb1 _ (List.mem_of_getElem? (i := 137) rfl)) rfl
theorem fl_X9_25 : Cond.fieldLink RX9 25 "DropMarket$State" "poolIsOpen" "Z" ∈ LW := lwm (tb1 _ (List.mem_of_getElem? (i := 138) rfl)) rfl
theorem fl_X11_246 : Cond.fieldLink RX11 246 "DropMarket$State" "poolIsOpen" "Z" ∈ LW := lwm (tb1 _ (List.mem_of_getElem? (i := 139) rfl)) rfl
theorem fl_X9_29 : Cond.fieldLink RX9 29 "DropMarket$State" "minute" "I" ∈ LW := lwm (tb1 _ (List.mem_of_getElem? (i := 140) rfl)) rfl
theorem fl_X11_263 : Cond.fieldLink RX11 263 "DropMarket$State" "minute" "I" ∈ LW := lwm (tb1 _ (List.mem_of_getElem? (i := 141) rfl)) rfl
theorem fl_X9_33 : Cond.fieldLink RX9 33 "DropMarket$State" "nextNumber" "I" ∈ LW := lwm (tb1 _ (List.mem_of_getElem? (i := 142) rfl)) rfl
theorem fl_X9_36 : Cond.fieldLink RX9 36 "DropMarket$State" "latestPrice" "I" ∈ LW := lwm (tb1 _ (List.mem_of_getElem? (i := 143) rfl)) rfl
theorem fl_X11_228 : Cond.fieldLink RX11 228 "DropMarket$State" "latestPrice" "I" ∈ LW := lwm (tb1 _ (List.mem_of_getElem? (i := 144) rfl)) rfl
theorem fl_X9_39 : Cond.fieldLink RX9 39 "DropMarket$State" "trades" "I" ∈ LW := lwm (tb1 _ (List.mem_of_getElem? (i := 145) rfl)) rfl
theorem fl_X11_223 : Cond.fieldLink RX11 223 "DropMarket$State" "trades" "I" ∈ LW := lwm (tb1 _ (List.mem_of_getElem? (i := 146) rfl)) rfl
theorem fl_X9_42 : Cond.fieldLink RX9 42 "DropMarket$State" "tradedDrops" "I" ∈ LW := lwm (tb1 _ (List.mem_of_getElem? (i := 147) rfl)) rfl
theorem fl_X11_231 : Cond.fieldLink RX11 231 "DropMarket$State" "tradedDrops" "I" ∈ LW := lwm (tb1 _ (List.mem_of_getElem? (i := 148) rfl)) rfl
theorem fl_X9_45 : Cond.fieldLink RX9 45 "DropMarket$State" "paidMoney" "J" ∈ LW := lwm (tb1 _ (List.mem_of_getElem? (i := 149) rfl)) rfl
theorem fl_X11_234 : Cond.fieldLink RX11 234 "DropMarket$State" "paidMoney" "J" ∈ LW := lwm (tb1 _ (List.mem_of_getElem? (i := 150) rfl)) rfl
theorem fl_X4_11 : Cond.fieldLink RX4 11 "DropMarket$History" "ring" "[LDropMarket$State;" ∈ LW := lwm (tb1 _ (List.mem_of_getElem? (i := 179) rfl)) rfl
theorem fl_X4_17 : Cond.fieldLink RX4 17 "DropMarket$History" "newest" "I" ∈ LW := lwm (tb1 _ (List.mem_of_getElem? (i := 180) rfl)) rfl
theorem fl_X4_21 : Cond.fieldLink RX4 21 "DropMarket$History" "depth" "I" ∈ LW := lwm (tb1 _ (List.mem_of_getElem? (i := 181) rfl)) rfl
theorem fl_X11_349 : Cond.fieldLink RX11 349 "DropMarket$History" "depth" "I" ∈ LW := lwm (tb1 _ (List.mem_of_getElem? (i := 182) rfl)) rfl
theorem fl_X6_14 : Cond.fieldLink RX6 14 "DropMarket$PriceSums" "buying" "LDropMarket$Row;" ∈ LW := lwm (tb1 _ (List.mem_of_getElem? (i := 198) rfl)) rfl
theorem fl_X6_20 : Cond.fieldLink RX6 20 "DropMarket$PriceSums" "selling" "LDropMarket$Row;" ∈ LW := lwm (tb1 _ (List.mem_of_getElem? (i := 199) rfl)) rfl
theorem fl_J5_18 : Cond.fieldLink RJ5 18 "java/lang/String" "COMPACT_STRINGS" "Z" ∈ LW := lwm (tb1 _ (List.mem_of_getElem? (i := 220) rfl)) rfl
theorem fl_J5_15 : Cond.fieldLink RJ5 15 "java/lang/AbstractStringBuilder" "value" "[B" ∈ LW := lwm (tb1 _ (List.mem_of_getElem? (i := 229) rfl)) rfl
theorem fl_J5_22 : Cond.fieldLink RJ5 22 "java/lang/AbstractStringBuilder" "coder" "B" ∈ LW := lwm (tb1 _ (List.mem_of_getElem? (i := 230) rfl)) rfl
theorem fl_J5_73 : Cond.fieldLink RJ5 73 "java/lang/AbstractStringBuilder" "maybeLatin1" "Z" ∈ LW := lwm (tb1 _ (List.mem_of_getElem? (i := 231) rfl)) rfl
theorem fl_J0_1048 : Cond.fieldLink RJ0 1048 "java/lang/AbstractStringBuilder" "maybeLatin1" "Z" ∈ LW := lwm (tb1 _ (List.mem_of_getElem? (i := 232) rfl)) rfl
theorem fl_J5_79 : Cond.fieldLink RJ5 79 "java/lang/AbstractStringBuilder" "count" "I" ∈ LW := lwm (tb1 _ (List.mem_of_getElem? (i := 233) rfl)) rfl
theorem fl_X2_27 : Cond.fieldLink RX2 27 "DropMarket$Verb" "OPEN" "LDropMarket$Verb;" ∈ LW := lwm (tb2 _ (List.mem_of_getElem? (i := 6) rfl)) rfl
theorem fl_X2_12 : Cond.fieldLink RX2 12 "DropMarket$CommandText" "buffer" "Ljava/lang/StringBuilder;" ∈ LW := lwm (tb2 _ (List.mem_of_getElem? (i := 8) rfl)) rfl
theorem fl_X2_23 : Cond.fieldLink RX2 23 "DropMarket$CommandText" "parameters" "LDropMarket$Row;" ∈ LW := lwm (tb2 _ (List.mem_of_getElem? (i := 9) rfl)) rfl
theorem fl_X11_419 : Cond.fieldLink RX11 419 "DropMarket$CommandText" "parameters" "LDropMarket$Row;" ∈ LW := lwm (tb2 _ (List.mem_of_getElem? (i := 10) rfl)) rfl
theorem fl_X2_33 : Cond.fieldLink RX2 33 "DropMarket$CommandText" "verb" "LDropMarket$Verb;" ∈ LW := lwm (tb2 _ (List.mem_of_getElem? (i := 11) rfl)) rfl
theorem fl_X11_428 : Cond.fieldLink RX11 428 "DropMarket$CommandText" "verb" "LDropMarket$Verb;" ∈ LW := lwm (tb2 _ (List.mem_of_getElem? (i := 12) rfl)) rfl
theorem fl_X2_36 : Cond.fieldLink RX2 36 "DropMarket$CommandText" "position" "I" ∈ LW := lwm (tb2 _ (List.mem_of_getElem? (i := 13) rfl)) rfl
theorem fl_X11_314 : Cond.fieldLink RX11 314 "DropMarket$CommandText" "position" "I" ∈ LW := lwm (tb2 _ (List.mem_of_getElem? (i := 14) rfl)) rfl
theorem fl_X11_10 : Cond.fieldLink RX11 10 "DropMarket" "state" "LDropMarket$State;" ∈ LW := lwm (tb2 _ (List.mem_of_getElem? (i := 26) rfl)) rfl
theorem fl_X11_16 : Cond.fieldLink RX11 16 "DropMarket" "beforeText" "LDropMarket$State;" ∈ LW := lwm (tb2 _ (List.mem_of_getElem? (i := 27) rfl)) rfl
theorem fl_X11_19 : Cond.fieldLink RX11 19 "DropMarket" "snapshot" "LDropMarket$State;" ∈ LW := lwm (tb2 _ (List.mem_of_getElem? (i := 28) rfl)) rfl
theorem fl_X11_25 : Cond.fieldLink RX11 25 "DropMarket" "history" "LDropMarket$History;" ∈ LW := lwm (tb2 _ (List.mem_of_getElem? (i := 29) rfl)) rfl
theorem fl_X11_32 : Cond.fieldLink RX11 32 "DropMarket" "sums" "LDropMarket$PriceSums;" ∈ LW := lwm (tb2 _ (List.mem_of_getElem? (i := 30) rfl)) rfl
theorem fl_X11_39 : Cond.fieldLink RX11 39 "DropMarket" "text" "LDropMarket$CommandText;" ∈ LW := lwm (tb2 _ (List.mem_of_getElem? (i := 31) rfl)) rfl
theorem fl_X11_46 : Cond.fieldLink RX11 46 "DropMarket" "line" "Ljava/lang/StringBuilder;" ∈ LW := lwm (tb2 _ (List.mem_of_getElem? (i := 32) rfl)) rfl
theorem fl_X11_50 : Cond.fieldLink RX11 50 "DropMarket" "hasSnapshot" "Z" ∈ LW := lwm (tb2 _ (List.mem_of_getElem? (i := 33) rfl)) rfl
theorem fl_X11_54 : Cond.fieldLink RX11 54 "DropMarket" "lastError" "I" ∈ LW := lwm (tb2 _ (List.mem_of_getElem? (i := 34) rfl)) rfl
theorem fl_X11_58 : Cond.fieldLink RX11 58 "DropMarket" "lastFailure" "I" ∈ LW := lwm (tb2 _ (List.mem_of_getElem? (i := 35) rfl)) rfl
theorem fl_X9_53 : Cond.fieldLink RX9 53 "DropMarket$Fault" "OUT_OF_RANGE" "LDropMarket$Fault;" ∈ LW := lwm (tb2 _ (List.mem_of_getElem? (i := 77) rfl)) rfl
theorem fl_X9_63 : Cond.fieldLink RX9 63 "DropMarket$Fault" "WRONG_STATE" "LDropMarket$Fault;" ∈ LW := lwm (tb2 _ (List.mem_of_getElem? (i := 83) rfl)) rfl
theorem fl_X9_66 : Cond.fieldLink RX9 66 "DropMarket$Fault" "NOTHING" "LDropMarket$Fault;" ∈ LW := lwm (tb2 _ (List.mem_of_getElem? (i := 85) rfl)) rfl
theorem fl_X11_374 : Cond.fieldLink RX11 374 "DropMarket$Fault" "NO_STALL" "LDropMarket$Fault;" ∈ LW := lwm (tb2 _ (List.mem_of_getElem? (i := 90) rfl)) rfl
theorem fl_X11_379 : Cond.fieldLink RX11 379 "DropMarket$Fault" "OUT_OF_RANGE" "LDropMarket$Fault;" ∈ LW := lwm (tb2 _ (List.mem_of_getElem? (i := 164) rfl)) rfl
theorem fl_X11_384 : Cond.fieldLink RX11 384 "DropMarket$Fault" "WRONG_STATE" "LDropMarket$Fault;" ∈ LW := lwm (tb2 _ (List.mem_of_getElem? (i := 181) rfl)) rfl
theorem fl_X11_389 : Cond.fieldLink RX11 389 "DropMarket$Fault" "NOT_ENOUGH" "LDropMarket$Fault;" ∈ LW := lwm (tb2 _ (List.mem_of_getElem? (i := 198) rfl)) rfl
theorem fl_X11_397 : Cond.fieldLink RX11 397 "DropMarket$Fault" "NO_ORDER" "LDropMarket$Fault;" ∈ LW := lwm (tb2 _ (List.mem_of_getElem? (i := 216) rfl)) rfl
theorem fl_X9_73 : Cond.fieldLink RX9 73 "DropMarket$Fault" "NO_STALL" "LDropMarket$Fault;" ∈ LW := lwm (tb3 _ (List.mem_of_getElem? (i := 75) rfl)) rfl
theorem fl_X9_83 : Cond.fieldLink RX9 83 "DropMarket$Fault" "NOT_ENOUGH" "LDropMarket$Fault;" ∈ LW := lwm (tb3 _ (List.mem_of_getElem? (i := 101) rfl)) rfl
theorem fl_X5_9 : Cond.fieldLink RX5 9 "DropMarket$PoolChoice" "price" "I" ∈ LW := lwm (tb3 _ (List.mem_of_getElem? (i := 235) rfl)) rfl
theorem fl_X9_165 : Cond.fieldLink RX9 165 "DropMarket$PoolChoice" "price" "I" ∈ LW := lwm (tb3 _ (List.mem_of_getElem? (i := 236) rfl)) rfl
theorem fl_X11_289 : Cond.fieldLink RX11 289 "DropMarket$PoolChoice" "price" "I" ∈ LW := lwm (tb3 _ (List.mem_of_getElem? (i := 237) rfl)) rfl
theorem fl_X5_15 : Cond.fieldLink RX5 15 "DropMarket$PoolChoice" "volume" "I" ∈ LW := lwm (tb3 _ (List.mem_of_getElem? (i := 238) rfl)) rfl
theorem fl_X9_170 : Cond.fieldLink RX9 170 "DropMarket$PoolChoice" "volume" "I" ∈ LW := lwm (tb3 _ (List.mem_of_getElem? (i := 239) rfl)) rfl
theorem fl_X5_18 : Cond.fieldLink RX5 18 "DropMarket$PoolChoice" "surplus" "I" ∈ LW := lwm (tb4 _ (List.mem_of_getElem? (i := 0) rfl)) rfl
theorem fl_J6_83 : Cond.fieldLink RJ6 83 "java/lang/Integer" "DigitOnes" "[B" ∈ LW := lwm (tb5 _ (List.mem_of_getElem? (i := 173) rfl)) rfl
theorem fl_J6_87 : Cond.fieldLink RJ6 87 "java/lang/Integer" "DigitTens" "[B" ∈ LW := lwm (tb5 _ (List.mem_of_getElem? (i := 175) rfl)) rfl
theorem fl_J0_1053 : Cond.fieldLink RJ0 1053 "jdk/internal/util/Preconditions" "SIOOBE_FORMATTER" "Ljava/util/function/BiFunction;" ∈ LW := lwm (tb5 _ (List.mem_of_getElem? (i := 189) rfl)) rfl
theorem fl_J2_403 : Cond.fieldLink RJ2 403 "java/lang/Integer" "DigitOnes" "[B" ∈ LW := lwm (tb5 _ (List.mem_of_getElem? (i := 197) rfl)) rfl
theorem fl_J2_44 : Cond.fieldLink RJ2 44 "java/lang/StringUTF16" "$assertionsDisabled" "Z" ∈ LW := lwm (tb5 _ (List.mem_of_getElem? (i := 201) rfl)) rfl
theorem fl_J2_59 : Cond.fieldLink RJ2 59 "java/lang/StringUTF16" "HI_BYTE_SHIFT" "I" ∈ LW := lwm (tb5 _ (List.mem_of_getElem? (i := 203) rfl)) rfl
theorem fl_J2_63 : Cond.fieldLink RJ2 63 "java/lang/StringUTF16" "LO_BYTE_SHIFT" "I" ∈ LW := lwm (tb5 _ (List.mem_of_getElem? (i := 205) rfl)) rfl
theorem fl_J2_407 : Cond.fieldLink RJ2 407 "java/lang/Integer" "DigitTens" "[B" ∈ LW := lwm (tb5 _ (List.mem_of_getElem? (i := 207) rfl)) rfl
theorem fl_J0_38 : Cond.fieldLink RJ0 38 "java/lang/String" "COMPACT_STRINGS" "Z" ∈ LW := lwm (tb5 _ (List.mem_of_getElem? (i := 232) rfl)) rfl
theorem fl_J0_9 : Cond.fieldLink RJ0 9 "java/lang/String" "value" "[B" ∈ LW := lwm (tb6 _ (List.mem_of_getElem? (i := 84) rfl)) rfl
theorem fl_J0_15 : Cond.fieldLink RJ0 15 "java/lang/String" "coder" "B" ∈ LW := lwm (tb6 _ (List.mem_of_getElem? (i := 85) rfl)) rfl
theorem fl_X9_89 : Cond.fieldLink RX9 89 "DropMarket$Fault" "NO_ORDER" "LDropMarket$Fault;" ∈ LW := lwm (tb7 _ (List.mem_of_getElem? (i := 10) rfl)) rfl
theorem fl_X2_68 : Cond.fieldLink RX2 68 "DropMarket$CommandText" "VERBS" "[LDropMarket$Verb;" ∈ LW := lwm (tb7 _ (List.mem_of_getElem? (i := 73) rfl)) rfl
theorem fl_X11_422 : Cond.fieldLink RX11 422 "DropMarket$1" "$SwitchMap$DropMarket$Verb" "[I" ∈ LW := lwm (tb7 _ (List.mem_of_getElem? (i := 108) rfl)) rfl
theorem fl_X11_334 : Cond.fieldLink RX11 334 "DropMarket$Fault" "NOTHING" "LDropMarket$Fault;" ∈ LW := lwm (tb7 _ (List.mem_of_getElem? (i := 116) rfl)) rfl
theorem fl_X2_72 : Cond.fieldLink RX2 72 "DropMarket$Verb" "word" "Ljava/lang/String;" ∈ LW := lwm (tb7 _ (List.mem_of_getElem? (i := 173) rfl)) rfl
theorem fl_X2_97 : Cond.fieldLink RX2 97 "DropMarket$Verb" "digits" "I" ∈ LW := lwm (tb7 _ (List.mem_of_getElem? (i := 174) rfl)) rfl
theorem fl_X2_100 : Cond.fieldLink RX2 100 "DropMarket$Verb" "numbers" "I" ∈ LW := lwm (tb7 _ (List.mem_of_getElem? (i := 175) rfl)) rfl
theorem fl_Jx29ce0_7 : Cond.fieldLink RJx29ce0 7 "java/lang/Enum" "ordinal" "I" ∈ LW := lwm (tb7 _ (List.mem_of_getElem? (i := 176) rfl)) rfl
theorem cl_L_9 : Cond.classLink RL 9 RX11 ∈ LW := lwm (tb1 _ (List.mem_of_getElem? (i := 40) rfl)) rfl
theorem cl_X11_7 : Cond.classLink RX11 7 RX9 ∈ LW := lwm (tb1 _ (List.mem_of_getElem? (i := 48) rfl)) rfl
theorem cl_X9_9 : Cond.classLink RX9 9 RX8 ∈ LW := lwm (tb1 _ (List.mem_of_getElem? (i := 54) rfl)) rfl
theorem cl_X8_9 : Cond.classLink RX8 9 RX7 ∈ LW := lwm (tb1 _ (List.mem_of_getElem? (i := 60) rfl)) rfl
theorem cl_X9_18 : Cond.classLink RX9 18 RX1 ∈ LW := lwm (tb1 _ (List.mem_of_getElem? (i := 90) rfl)) rfl
theorem cl_X1_9 : Cond.classLink RX1 9 RX7 ∈ LW := lwm (tb1 _ (List.mem_of_getElem? (i := 96) rfl)) rfl
theorem cl_X11_22 : Cond.classLink RX11 22 RX4 ∈ LW := lwm (tb1 _ (List.mem_of_getElem? (i := 170) rfl)) rfl
theorem cl_X4_9 : Cond.classLink RX4 9 RX9 ∈ LW := lwm (tb1 _ (List.mem_of_getElem? (i := 176) rfl)) rfl
theorem cl_X11_29 : Cond.classLink RX11 29 RX6 ∈ LW := lwm (tb1 _ (List.mem_of_getElem? (i := 190) rfl)) rfl
theorem cl_X6_9 : Cond.classLink RX6 9 RX7 ∈ LW := lwm (tb1 _ (List.mem_of_getElem? (i := 196) rfl)) rfl
theorem cl_X11_36 : Cond.classLink RX11 36 RX2 ∈ LW := lwm (tb1 _ (List.mem_of_getElem? (i := 205) rfl)) rfl
theorem cl_X2_9 : Cond.classLink RX2 9 RJ4 ∈ LW := lwm (tb1 _ (List.mem_of_getElem? (i := 211) rfl)) rfl
theorem cl_X2_18 : Cond.classLink RX2 18 RX7 ∈ LW := lwm (tb2 _ (List.mem_of_getElem? (i := 4) rfl)) rfl
theorem cl_X11_43 : Cond.classLink RX11 43 RJ4 ∈ LW := lwm (tb2 _ (List.mem_of_getElem? (i := 24) rfl)) rfl
theorem cl_L_14 : Cond.classLink RL 14 "java/lang/IllegalArgumentException" ∈ LW := lwm (tb2 _ (List.mem_of_getElem? (i := 64) rfl)) rfl
theorem cl_L_16 : Cond.classLink RL 16 "java/lang/IllegalStateException" ∈ LW := lwm (tb2 _ (List.mem_of_getElem? (i := 65) rfl)) rfl
theorem cl_X11_168 : Cond.classLink RX11 168 "java/lang/IndexOutOfBoundsException" ∈ LW := lwm (tb2 _ (List.mem_of_getElem? (i := 92) rfl)) rfl
theorem cl_X11_298 : Cond.classLink RX11 298 "java/lang/IllegalArgumentException" ∈ LW := lwm (tb2 _ (List.mem_of_getElem? (i := 165) rfl)) rfl
theorem cl_X11_194 : Cond.classLink RX11 194 "java/lang/IllegalStateException" ∈ LW := lwm (tb2 _ (List.mem_of_getElem? (i := 182) rfl)) rfl
theorem cl_X11_392 : Cond.classLink RX11 392 "java/lang/UnsupportedOperationException" ∈ LW := lwm (tb2 _ (List.mem_of_getElem? (i := 200) rfl)) rfl
theorem cl_X11_154 : Cond.classLink RX11 154 "java/util/NoSuchElementException" ∈ LW := lwm (tb2 _ (List.mem_of_getElem? (i := 218) rfl)) rfl
theorem cl_L_22 : Cond.classLink RL 22 "java/lang/IndexOutOfBoundsException" ∈ LW := lwm (tb3 _ (List.mem_of_getElem? (i := 33) rfl)) rfl
theorem cl_L_24 : Cond.classLink RL 24 "java/lang/UnsupportedOperationException" ∈ LW := lwm (tb3 _ (List.mem_of_getElem? (i := 54) rfl)) rfl
theorem cl_X1_80 : Cond.classLink RX1 80 RX5 ∈ LW := lwm (tb3 _ (List.mem_of_getElem? (i := 229) rfl)) rfl
theorem cl_L_46 : Cond.classLink RL 46 "java/util/NoSuchElementException" ∈ LW := lwm (tb4 _ (List.mem_of_getElem? (i := 112) rfl)) rfl
theorem cl_X11_238 : Cond.classLink RX11 238 "java/lang/ArithmeticException" ∈ LW := lwm (tb4 _ (List.mem_of_getElem? (i := 207) rfl)) rfl
theorem cl_X6_50 : Cond.classLink RX6 50 RX5 ∈ LW := lwm (tb5 _ (List.mem_of_getElem? (i := 107) rfl)) rfl
theorem cl_L_305 : Cond.classLink RL 305 RJ4 ∈ LW := lwm (tb5 _ (List.mem_of_getElem? (i := 122) rfl)) rfl
theorem cl_J7_311 : Cond.classLink RJ7 311 "[B" ∈ LW := lwm (tb5 _ (List.mem_of_getElem? (i := 160) rfl)) rfl
theorem cl_J4_18 : Cond.classLink RJ4 18 RJ0 ∈ LW := lwm (tb6 _ (List.mem_of_getElem? (i := 32) rfl)) rfl
theorem cl_J7_43 : Cond.classLink RJ7 43 "java/lang/IllegalArgumentException" ∈ LW := lwm (tb6 _ (List.mem_of_getElem? (i := 63) rfl)) rfl
theorem cl_J7_45 : Cond.classLink RJ7 45 RJ4 ∈ LW := lwm (tb6 _ (List.mem_of_getElem? (i := 64) rfl)) rfl
theorem cl_J5_129 : Cond.classLink RJ5 129 RJx7c733 ∈ LW := lwm (tb6 _ (List.mem_of_getElem? (i := 105) rfl)) rfl
theorem cl_Jx7c733_10 : Cond.classLink RJx7c733 10 RJ4 ∈ LW := lwm (tb6 _ (List.mem_of_getElem? (i := 110) rfl)) rfl
theorem cl_J7_68 : Cond.classLink RJ7 68 RJx00060 ∈ LW := lwm (tb6 _ (List.mem_of_getElem? (i := 136) rfl)) rfl
theorem cl_Jx00060_10 : Cond.classLink RJx00060 10 RJ4 ∈ LW := lwm (tb6 _ (List.mem_of_getElem? (i := 140) rfl)) rfl
theorem ml_L_201 : Cond.methodLink RL 201 yL_drawn ∈ LW := lwm (tb1 _ (List.mem_of_getElem? (i := 37) rfl)) rfl
theorem ml_L_162 : Cond.methodLink RL 162 yX11_init ∈ LW := lwm (tb1 _ (List.mem_of_getElem? (i := 42) rfl)) rfl
theorem ml_X11_1 : Cond.methodLink RX11 1 ⟨"java/lang/Object", "<init>", "()V"⟩ ∈ LW := lwm (tb1 _ (List.mem_of_getElem? (i := 45) rfl)) rfl
theorem ml_X9_3 : Cond.methodLink RX9 3 ⟨"java/lang/Object", "<init>", "()V"⟩ ∈ LW := lwm (tb1 _ (List.mem_of_getElem? (i := 53) rfl)) rfl
theorem ml_X8_3 : Cond.methodLink RX8 3 ⟨"java/lang/Object", "<init>", "()V"⟩ ∈ LW := lwm (tb1 _ (List.mem_of_getElem? (i := 59) rfl)) rfl
theorem ml_X8_11 : Cond.methodLink RX8 11 yX7_init ∈ LW := lwm (tb1 _ (List.mem_of_getElem? (i := 62) rfl)) rfl
theorem ml_X7_1 : Cond.methodLink RX7 1 ⟨"java/lang/Object", "<init>", "()V"⟩ ∈ LW := lwm (tb1 _ (List.mem_of_getElem? (i := 65) rfl)) rfl
theorem ml_X7_7 : Cond.methodLink RX7 7 yJ9_max_7cf53 ∈ LW := lwm (tb1 _ (List.mem_of_getElem? (i := 66) rfl)) rfl
theorem ml_X1_3 : Cond.methodLink RX1 3 ⟨"java/lang/Object", "<init>", "()V"⟩ ∈ LW := lwm (tb1 _ (List.mem_of_getElem? (i := 95) rfl)) rfl
theorem ml_X1_11 : Cond.methodLink RX1 11 yX7_init ∈ LW := lwm (tb1 _ (List.mem_of_getElem? (i := 97) rfl)) rfl
theorem ml_X11_24 : Cond.methodLink RX11 24 yX4_init ∈ LW := lwm (tb1 _ (List.mem_of_getElem? (i := 172) rfl)) rfl
theorem ml_X4_3 : Cond.methodLink RX4 3 ⟨"java/lang/Object", "<init>", "()V"⟩ ∈ LW := lwm (tb1 _ (List.mem_of_getElem? (i := 175) rfl)) rfl
theorem ml_X6_3 : Cond.methodLink RX6 3 ⟨"java/lang/Object", "<init>", "()V"⟩ ∈ LW := lwm (tb1 _ (List.mem_of_getElem? (i := 195) rfl)) rfl
theorem ml_X6_11 : Cond.methodLink RX6 11 yX7_init ∈ LW := lwm (tb1 _ (List.mem_of_getElem? (i := 197) rfl)) rfl
theorem ml_X2_3 : Cond.methodLink RX2 3 ⟨"java/lang/Object", "<init>", "()V"⟩ ∈ LW := lwm (tb1 _ (List.mem_of_getElem? (i := 210) rfl)) rfl
theorem ml_X2_11 : Cond.methodLink RX2 11 yJ4_init_da8c8 ∈ LW := lwm (tb1 _ (List.mem_of_getElem? (i := 213) rfl)) rfl
theorem ml_J4_1 : Cond.methodLink RJ4 1 yJ5_init_d00df ∈ LW := lwm (tb1 _ (List.mem_of_getElem? (i := 216) rfl)) rfl
theorem ml_J5_3 : Cond.methodLink RJ5 3 ⟨"java/lang/Object", "<init>", "()V"⟩ ∈ LW := lwm (tb1 _ (List.mem_of_getElem? (i := 219) rfl)) rfl
theorem ml_J5_26 : Cond.methodLink RJ5 26 yJ2_newBytesFor_77867 ∈ LW := lwm (tb1 _ (List.mem_of_getElem? (i := 222) rfl)) rfl
theorem ml_J2_11 : Cond.methodLink RJ2 11 yJ2_newBytesLength_0f7a4 ∈ LW := lwm (tb1 _ (List.mem_of_getElem? (i := 225) rfl)) rfl
theorem ml_X2_20 : Cond.methodLink RX2 20 yX7_init ∈ LW := lwm (tb2 _ (List.mem_of_getElem? (i := 5) rfl)) rfl
theorem ml_X11_45 : Cond.methodLink RX11 45 yJ4_init_da8c8 ∈ LW := lwm (tb2 _ (List.mem_of_getElem? (i := 25) rfl)) rfl
theorem ml_L_163 : Cond.methodLink RL 163 yL_cell ∈ LW := lwm (tb2 _ (List.mem_of_getElem? (i := 57) rfl)) rfl
theorem ml_L_167 : Cond.methodLink RL 167 yL_addStall ∈ LW := lwm (tb2 _ (List.mem_of_getElem? (i := 61) rfl)) rfl
theorem ml_L_8 : Cond.methodLink RL 8 yX11_addStall ∈ LW := lwm (tb2 _ (List.mem_of_getElem? (i := 66) rfl)) rfl
theorem ml_X11_61 : Cond.methodLink RX11 61 yX9_stallFault ∈ LW := lwm (tb2 _ (List.mem_of_getElem? (i := 70) rfl)) rfl
theorem ml_X9_59 : Cond.methodLink RX9 59 yX8_isFull ∈ LW := lwm (tb2 _ (List.mem_of_getElem? (i := 79) rfl)) rfl
theorem ml_X11_65 : Cond.methodLink RX11 65 yX11_refuse ∈ LW := lwm (tb2 _ (List.mem_of_getElem? (i := 87) rfl)) rfl
theorem ml_java_lang_Throwable_1 : Cond.methodLink "java/lang/Throwable" 1 ⟨"java/lang/Object", "<init>", "()V"⟩ ∈ LW := lwm (tb2 _ (List.mem_of_getElem? (i := 117) rfl)) rfl
theorem ml_java_lang_Throwable_27 : Cond.methodLink "java/lang/Throwable" 27 ⟨"java/lang/Throwable", "fillInStackTrace", "()Ljava/lang/Throwable;"⟩ ∈ LW := lwm (tb2 _ (List.mem_of_getElem? (i := 122) rfl)) rfl
theorem ml_java_lang_Throwable_202 : Cond.methodLink "java/lang/Throwable" 202 ⟨"java/lang/Throwable", "fillInStackTrace", "(I)Ljava/lang/Throwable;"⟩ ∈ LW := lwm (tb2 _ (List.mem_of_getElem? (i := 133) rfl)) rfl
theorem ml_X11_172 : Cond.methodLink RX11 172 ⟨"java/lang/IndexOutOfBoundsException", "<init>", "(Ljava/lang/String;)V"⟩ ∈ LW := lwm (tb2 _ (List.mem_of_getElem? (i := 139) rfl)) rfl
theorem ml_java_lang_IndexOutOfBoundsException_7 : Cond.methodLink "java/lang/IndexOutOfBoundsException" 7 ⟨"java/lang/RuntimeException", "<init>", "(Ljava/lang/String;)V"⟩ ∈ LW := lwm (tb2 _ (List.mem_of_getElem? (i := 142) rfl)) rfl
theorem ml_java_lang_RuntimeException_7 : Cond.methodLink "java/lang/RuntimeException" 7 ⟨"java/lang/Exception", "<init>", "(Ljava/lang/String;)V"⟩ ∈ LW := lwm (tb2 _ (List.mem_of_getElem? (i := 145) rfl)) rfl
theorem ml_java_lang_Exception_7 : Cond.methodLink "java/lang/Exception" 7 ⟨"java/lang/Throwable", "<init>", "(Ljava/lang/String;)V"⟩ ∈ LW := lwm (tb2 _ (List.mem_of_getElem? (i := 148) rfl)) rfl
theorem ml_X11_302 : Cond.methodLink RX11 302 ⟨"java/lang/IllegalArgumentException", "<init>", "(Ljava/lang/String;)V"⟩ ∈ LW := lwm (tb2 _ (List.mem_of_getElem? (i := 175) rfl)) rfl
theorem ml_java_lang_IllegalArgumentException_7 : Cond.methodLink "java/lang/IllegalArgumentException" 7 ⟨"java/lang/RuntimeException", "<init>", "(Ljava/lang/String;)V"⟩ ∈ LW := lwm (tb2 _ (List.mem_of_getElem? (i := 178) rfl)) rfl
theorem ml_X11_198 : Cond.methodLink RX11 198 ⟨"java/lang/IllegalStateException", "<init>", "(Ljava/lang/String;)V"⟩ ∈ LW := lwm (tb2 _ (List.mem_of_getElem? (i := 192) rfl)) rfl
theorem ml_java_lang_IllegalStateException_7 : Cond.methodLink "java/lang/IllegalStateException" 7 ⟨"java/lang/RuntimeException", "<init>", "(Ljava/lang/String;)V"⟩ ∈ LW := lwm (tb2 _ (List.mem_of_getElem? (i := 195) rfl)) rfl
theorem ml_X11_396 : Cond.methodLink RX11 396 ⟨"java/lang/UnsupportedOperationException", "<init>", "(Ljava/lang/String;)V"⟩ ∈ LW := lwm (tb2 _ (List.mem_of_getElem? (i := 210) rfl)) rfl
theorem ml_java_lang_UnsupportedOperationException_7 : Cond.methodLink "java/lang/UnsupportedOperationException" 7 ⟨"java/lang/RuntimeException", "<init>", "(Ljava/lang/String;)V"⟩ ∈ LW := lwm (tb2 _ (List.mem_of_getElem? (i := 213) rfl)) rfl
theorem ml_X11_158 : Cond.methodLink RX11 158 ⟨"java/util/NoSuchElementException", "<init>", "(Ljava/lang/String;)V"⟩ ∈ LW := lwm (tb2 _ (List.mem_of_getElem? (i := 228) rfl)) rfl
theorem ml_java_util_NoSuchElementException_13 : Cond.methodLink "java/util/NoSuchElementException" 13 ⟨"java/lang/RuntimeException", "<init>", "(Ljava/lang/String;)V"⟩ ∈ LW := lwm (tb2 _ (List.mem_of_getElem? (i := 231) rfl)) rfl
theorem ml_X11_69 : Cond.methodLink RX11 69 yX4_push ∈ LW := lwm (tb2 _ (List.mem_of_getElem? (i := 234) rfl)) rfl
theorem ml_X4_25 : Cond.methodLink RX4 25 yJ9_min_7cf53 ∈ LW := lwm (tb2 _ (List.mem_of_getElem? (i := 238) rfl)) rfl
theorem ml_X4_31 : Cond.methodLink RX4 31 yX4_newestRow ∈ LW := lwm (tb3 _ (List.mem_of_getElem? (i := 1) rfl)) rfl
theorem ml_X4_35 : Cond.methodLink RX4 35 yX9_copyFrom ∈ LW := lwm (tb3 _ (List.mem_of_getElem? (i := 5) rfl)) rfl
theorem ml_X9_182 : Cond.methodLink RX9 182 yX8_copyFrom ∈ LW := lwm (tb3 _ (List.mem_of_getElem? (i := 9) rfl)) rfl
theorem ml_X8_38 : Cond.methodLink RX8 38 yX7_copyFrom ∈ LW := lwm (tb3 _ (List.mem_of_getElem? (i := 13) rfl)) rfl
theorem ml_X9_186 : Cond.methodLink RX9 186 yX1_copyFrom ∈ LW := lwm (tb3 _ (List.mem_of_getElem? (i := 17) rfl)) rfl
theorem ml_X1_87 : Cond.methodLink RX1 87 yX7_copyFrom ∈ LW := lwm (tb3 _ (List.mem_of_getElem? (i := 21) rfl)) rfl
theorem ml_X11_77 : Cond.methodLink RX11 77 yX8_open ∈ LW := lwm (tb3 _ (List.mem_of_getElem? (i := 22) rfl)) rfl
theorem ml_X8_27 : Cond.methodLink RX8 27 yX7_set ∈ LW := lwm (tb3 _ (List.mem_of_getElem? (i := 26) rfl)) rfl
theorem ml_L_170 : Cond.methodLink RL 170 yL_buy ∈ LW := lwm (tb3 _ (List.mem_of_getElem? (i := 30) rfl)) rfl
theorem ml_Jx00060_7 : Cond.methodLink RJx00060 7 ⟨"java/lang/IndexOutOfBoundsException", "<init>", "(Ljava/lang/String;)V"⟩ ∈ LW := lwm (tb3 _ (List.mem_of_getElem? (i := 37) rfl)) rfl
theorem ml_L_18 : Cond.methodLink RL 18 yX11_placeBuy ∈ LW := lwm (tb3 _ (List.mem_of_getElem? (i := 55) rfl)) rfl
theorem ml_X11_83 : Cond.methodLink RX11 83 yX11_placeOrder ∈ LW := lwm (tb3 _ (List.mem_of_getElem? (i := 59) rfl)) rfl
theorem ml_X11_362 : Cond.methodLink RX11 362 yX1_isFull ∈ LW := lwm (tb3 _ (List.mem_of_getElem? (i := 63) rfl)) rfl
theorem ml_X11_363 : Cond.methodLink RX11 363 yX9_orderFault ∈ LW := lwm (tb3 _ (List.mem_of_getElem? (i := 67) rfl)) rfl
theorem ml_X9_69 : Cond.methodLink RX9 69 yX8_has ∈ LW := lwm (tb3 _ (List.mem_of_getElem? (i := 71) rfl)) rfl
theorem ml_X9_76 : Cond.methodLink RX9 76 yX9_freeMoney ∈ LW := lwm (tb3 _ (List.mem_of_getElem? (i := 76) rfl)) rfl
theorem ml_X9_96 : Cond.methodLink RX9 96 yX7_get ∈ LW := lwm (tb3 _ (List.mem_of_getElem? (i := 80) rfl)) rfl
theorem ml_X9_101 : Cond.methodLink RX9 101 yX1_boundMoney ∈ LW := lwm (tb3 _ (List.mem_of_getElem? (i := 84) rfl)) rfl
theorem ml_X1_56 : Cond.methodLink RX1 56 yX1_buys ∈ LW := lwm (tb3 _ (List.mem_of_getElem? (i := 88) rfl)) rfl
theorem ml_X1_39 : Cond.methodLink RX1 39 yX7_get ∈ LW := lwm (tb3 _ (List.mem_of_getElem? (i := 92) rfl)) rfl
theorem ml_X9_80 : Cond.methodLink RX9 80 yX9_freeDrops ∈ LW := lwm (tb3 _ (List.mem_of_getElem? (i := 93) rfl)) rfl
theorem ml_X9_107 : Cond.methodLink RX9 107 yX1_boundDrops ∈ LW := lwm (tb3 _ (List.mem_of_getElem? (i := 97) rfl)) rfl
theorem ml_X11_367 : Cond.methodLink RX11 367 yX9_place ∈ LW := lwm (tb3 _ (List.mem_of_getElem? (i := 102) rfl)) rfl
theorem ml_X9_113 : Cond.methodLink RX9 113 yX9_tradeNew ∈ LW := lwm (tb3 _ (List.mem_of_getElem? (i := 106) rfl)) rfl
theorem ml_X9_121 : Cond.methodLink RX9 121 yX1_bestSlot ∈ LW := lwm (tb3 _ (List.mem_of_getElem? (i := 110) rfl)) rfl
theorem ml_X1_60 : Cond.methodLink RX1 60 yX1_isAhead ∈ LW := lwm (tb3 _ (List.mem_of_getElem? (i := 114) rfl)) rfl
theorem ml_X9_131 : Cond.methodLink RX9 131 yJ9_min_7cf53 ∈ LW := lwm (tb3 _ (List.mem_of_getElem? (i := 118) rfl)) rfl
theorem ml_X9_139 : Cond.methodLink RX9 139 yX9_trade ∈ LW := lwm (tb3 _ (List.mem_of_getElem? (i := 119) rfl)) rfl
theorem ml_X9_147 : Cond.methodLink RX9 147 yX7_add ∈ LW := lwm (tb3 _ (List.mem_of_getElem? (i := 123) rfl)) rfl
theorem ml_X9_143 : Cond.methodLink RX9 143 yX1_reduce ∈ LW := lwm (tb3 _ (List.mem_of_getElem? (i := 127) rfl)) rfl
theorem ml_X1_50 : Cond.methodLink RX1 50 yX7_add ∈ LW := lwm (tb3 _ (List.mem_of_getElem? (i := 131) rfl)) rfl
theorem ml_X1_53 : Cond.methodLink RX1 53 yX1_remove ∈ LW := lwm (tb3 _ (List.mem_of_getElem? (i := 132) rfl)) rfl
theorem ml_X1_47 : Cond.methodLink RX1 47 yX7_closeGap ∈ LW := lwm (tb3 _ (List.mem_of_getElem? (i := 136) rfl)) rfl
theorem ml_X9_117 : Cond.methodLink RX9 117 yX1_enter ∈ LW := lwm (tb3 _ (List.mem_of_getElem? (i := 140) rfl)) rfl
theorem ml_X1_43 : Cond.methodLink RX1 43 yX7_set ∈ LW := lwm (tb3 _ (List.mem_of_getElem? (i := 144) rfl)) rfl
theorem ml_L_174 : Cond.methodLink RL 174 yL_sell ∈ LW := lwm (tb3 _ (List.mem_of_getElem? (i := 145) rfl)) rfl
theorem ml_L_26 : Cond.methodLink RL 26 yX11_placeSell ∈ LW := lwm (tb3 _ (List.mem_of_getElem? (i := 148) rfl)) rfl
theorem ml_L_177 : Cond.methodLink RL 177 yL_buyFor ∈ LW := lwm (tb3 _ (List.mem_of_getElem? (i := 152) rfl)) rfl
theorem ml_L_29 : Cond.methodLink RL 29 yX11_placeBuyFor ∈ LW := lwm (tb3 _ (List.mem_of_getElem? (i := 155) rfl)) rfl
theorem ml_X11_87 : Cond.methodLink RX11 87 yX11_isWithin ∈ LW := lwm (tb3 _ (List.mem_of_getElem? (i := 159) rfl)) rfl
theorem ml_L_181 : Cond.methodLink RL 181 yL_sellFor ∈ LW := lwm (tb3 _ (List.mem_of_getElem? (i := 160) rfl)) rfl
theorem ml_L_33 : Cond.methodLink RL 33 yX11_placeSellFor ∈ LW := lwm (tb3 _ (List.mem_of_getElem? (i := 163) rfl)) rfl
theorem ml_L_184 : Cond.methodLink RL 184 yL_takeBuy ∈ LW := lwm (tb3 _ (List.mem_of_getElem? (i := 167) rfl)) rfl
theorem ml_L_36 : Cond.methodLink RL 36 yX11_takeBuy ∈ LW := lwm (tb3 _ (List.mem_of_getElem? (i := 170) rfl)) rfl
theorem ml_X11_91 : Cond.methodLink RX11 91 yX11_takeAtOnce ∈ LW := lwm (tb3 _ (List.mem_of_getElem? (i := 174) rfl)) rfl
theorem ml_X11_371 : Cond.methodLink RX11 371 yX9_take ∈ LW := lwm (tb3 _ (List.mem_of_getElem? (i := 178) rfl)) rfl
theorem ml_L_186 : Cond.methodLink RL 186 yL_pass ∈ LW := lwm (tb3 _ (List.mem_of_getElem? (i := 182) rfl)) rfl
theorem ml_L_48 : Cond.methodLink RL 48 yX11_pass ∈ LW := lwm (tb3 _ (List.mem_of_getElem? (i := 185) rfl)) rfl
theorem ml_X11_103 : Cond.methodLink RX11 103 yX9_passFault ∈ LW := lwm (tb3 _ (List.mem_of_getElem? (i := 189) rfl)) rfl
theorem ml_X11_106 : Cond.methodLink RX11 106 yX9_letPass ∈ LW := lwm (tb3 _ (List.mem_of_getElem? (i := 193) rfl)) rfl
theorem ml_X9_158 : Cond.methodLink RX9 158 yX7_set ∈ LW := lwm (tb3 _ (List.mem_of_getElem? (i := 197) rfl)) rfl
theorem ml_X9_150 : Cond.methodLink RX9 150 yX1_remove ∈ LW := lwm (tb3 _ (List.mem_of_getElem? (i := 198) rfl)) rfl
theorem ml_L_189 : Cond.methodLink RL 189 yL_takeSell ∈ LW := lwm (tb3 _ (List.mem_of_getElem? (i := 199) rfl)) rfl
theorem ml_L_39 : Cond.methodLink RL 39 yX11_takeSell ∈ LW := lwm (tb3 _ (List.mem_of_getElem? (i := 202) rfl)) rfl
theorem ml_L_191 : Cond.methodLink RL 191 yX11_isPoolOpen ∈ LW := lwm (tb3 _ (List.mem_of_getElem? (i := 206) rfl)) rfl
theorem ml_L_195 : Cond.methodLink RL 195 yL_close ∈ LW := lwm (tb3 _ (List.mem_of_getElem? (i := 210) rfl)) rfl
theorem ml_L_55 : Cond.methodLink RL 55 yX11_closePool ∈ LW := lwm (tb3 _ (List.mem_of_getElem? (i := 213) rfl)) rfl
theorem ml_X11_117 : Cond.methodLink RX11 117 yX9_closeFault ∈ LW := lwm (tb3 _ (List.mem_of_getElem? (i := 217) rfl)) rfl
theorem ml_X11_120 : Cond.methodLink RX11 120 yX9_endPool ∈ LW := lwm (tb3 _ (List.mem_of_getElem? (i := 221) rfl)) rfl
theorem ml_X9_161 : Cond.methodLink RX9 161 yX1_poolByTrying ∈ LW := lwm (tb3 _ (List.mem_of_getElem? (i := 225) rfl)) rfl
theorem ml_X5_3 : Cond.methodLink RX5 3 ⟨"java/lang/Object", "<init>", "()V"⟩ ∈ LW := lwm (tb3 _ (List.mem_of_getElem? (i := 234) rfl)) rfl
theorem ml_X1_68 : Cond.methodLink RX1 68 yX1_demand ∈ LW := lwm (tb4 _ (List.mem_of_getElem? (i := 8) rfl)) rfl
theorem ml_X1_71 : Cond.methodLink RX1 71 yX1_supply ∈ LW := lwm (tb4 _ (List.mem_of_getElem? (i := 12) rfl)) rfl
theorem ml_X1_83 : Cond.methodLink RX1 83 yX5_consider ∈ LW := lwm (tb4 _ (List.mem_of_getElem? (i := 16) rfl)) rfl
theorem ml_X5_21 : Cond.methodLink RX5 21 yJ9_min_7cf53 ∈ LW := lwm (tb4 _ (List.mem_of_getElem? (i := 20) rfl)) rfl
theorem ml_X5_27 : Cond.methodLink RX5 27 yJ9_abs_0f7a4 ∈ LW := lwm (tb4 _ (List.mem_of_getElem? (i := 21) rfl)) rfl
theorem ml_X9_173 : Cond.methodLink RX9 173 yX9_tradePool ∈ LW := lwm (tb4 _ (List.mem_of_getElem? (i := 24) rfl)) rfl
theorem ml_X9_179 : Cond.methodLink RX9 179 yJ9_max_7cf53 ∈ LW := lwm (tb4 _ (List.mem_of_getElem? (i := 28) rfl)) rfl
theorem ml_X9_176 : Cond.methodLink RX9 176 yX1_clear ∈ LW := lwm (tb4 _ (List.mem_of_getElem? (i := 29) rfl)) rfl
theorem ml_L_198 : Cond.methodLink RL 198 yL_open ∈ LW := lwm (tb4 _ (List.mem_of_getElem? (i := 33) rfl)) rfl
theorem ml_L_51 : Cond.methodLink RL 51 yX11_openPool ∈ LW := lwm (tb4 _ (List.mem_of_getElem? (i := 36) rfl)) rfl
theorem ml_X11_109 : Cond.methodLink RX11 109 yX9_openFault ∈ LW := lwm (tb4 _ (List.mem_of_getElem? (i := 40) rfl)) rfl
theorem ml_X11_113 : Cond.methodLink RX11 113 yX9_startPool ∈ LW := lwm (tb4 _ (List.mem_of_getElem? (i := 44) rfl)) rfl
theorem ml_L_205 : Cond.methodLink RL 205 yL_stalls ∈ LW := lwm (tb4 _ (List.mem_of_getElem? (i := 48) rfl)) rfl
theorem ml_L_222 : Cond.methodLink RL 222 yX11_stallCount ∈ LW := lwm (tb4 _ (List.mem_of_getElem? (i := 51) rfl)) rfl
theorem ml_L_225 : Cond.methodLink RL 225 yL_money ∈ LW := lwm (tb4 _ (List.mem_of_getElem? (i := 55) rfl)) rfl
theorem ml_L_58 : Cond.methodLink RL 58 yX11_moneyOf ∈ LW := lwm (tb4 _ (List.mem_of_getElem? (i := 58) rfl)) rfl
theorem ml_X11_126 : Cond.methodLink RX11 126 yX11_requireStall ∈ LW := lwm (tb4 _ (List.mem_of_getElem? (i := 62) rfl)) rfl
theorem ml_X11_402 : Cond.methodLink RX11 402 yX8_has ∈ LW := lwm (tb4 _ (List.mem_of_getElem? (i := 66) rfl)) rfl
theorem ml_X11_134 : Cond.methodLink RX11 134 yX7_get ∈ LW := lwm (tb4 _ (List.mem_of_getElem? (i := 67) rfl)) rfl
theorem ml_L_228 : Cond.methodLink RL 228 yL_drops ∈ LW := lwm (tb4 _ (List.mem_of_getElem? (i := 68) rfl)) rfl
theorem ml_L_61 : Cond.methodLink RL 61 yX11_dropsOf ∈ LW := lwm (tb4 _ (List.mem_of_getElem? (i := 71) rfl)) rfl
theorem ml_L_231 : Cond.methodLink RL 231 yX11_orderCount ∈ LW := lwm (tb4 _ (List.mem_of_getElem? (i := 75) rfl)) rfl
theorem ml_L_73 : Cond.methodLink RL 73 yX11_orderAt ∈ LW := lwm (tb4 _ (List.mem_of_getElem? (i := 79) rfl)) rfl
theorem ml_L_76 : Cond.methodLink RL 76 yX11_stallOf ∈ LW := lwm (tb4 _ (List.mem_of_getElem? (i := 84) rfl)) rfl
theorem ml_X11_178 : Cond.methodLink RX11 178 yX11_requireSlot ∈ LW := lwm (tb4 _ (List.mem_of_getElem? (i := 88) rfl)) rfl
theorem ml_X11_405 : Cond.methodLink RX11 405 yX1_slotOf ∈ LW := lwm (tb4 _ (List.mem_of_getElem? (i := 92) rfl)) rfl
theorem ml_L_79 : Cond.methodLink RL 79 yX11_isBuying ∈ LW := lwm (tb4 _ (List.mem_of_getElem? (i := 96) rfl)) rfl
theorem ml_X11_181 : Cond.methodLink RX11 181 yX1_buys ∈ LW := lwm (tb4 _ (List.mem_of_getElem? (i := 100) rfl)) rfl
theorem ml_L_83 : Cond.methodLink RL 83 yX11_priceOf ∈ LW := lwm (tb4 _ (List.mem_of_getElem? (i := 101) rfl)) rfl
theorem ml_L_86 : Cond.methodLink RL 86 yX11_quantityOf ∈ LW := lwm (tb4 _ (List.mem_of_getElem? (i := 105) rfl)) rfl
theorem ml_L_234 : Cond.methodLink RL 234 yL_byMoney ∈ LW := lwm (tb4 _ (List.mem_of_getElem? (i := 109) rfl)) rfl
theorem ml_L_70 : Cond.methodLink RL 70 yX11_stallByMoney ∈ LW := lwm (tb4 _ (List.mem_of_getElem? (i := 113) rfl)) rfl
theorem ml_X11_151 : Cond.methodLink RX11 151 yX8_withRank ∈ LW := lwm (tb4 _ (List.mem_of_getElem? (i := 117) rfl)) rfl
theorem ml_X8_31 : Cond.methodLink RX8 31 yX8_rankOf ∈ LW := lwm (tb4 _ (List.mem_of_getElem? (i := 121) rfl)) rfl
theorem ml_X8_35 : Cond.methodLink RX8 35 yX7_get ∈ LW := lwm (tb4 _ (List.mem_of_getElem? (i := 125) rfl)) rfl
theorem ml_L_237 : Cond.methodLink RL 237 yL_freeMoney ∈ LW := lwm (tb4 _ (List.mem_of_getElem? (i := 127) rfl)) rfl
theorem ml_L_64 : Cond.methodLink RL 64 yX11_freeMoneyOf ∈ LW := lwm (tb4 _ (List.mem_of_getElem? (i := 130) rfl)) rfl
theorem ml_X11_142 : Cond.methodLink RX11 142 yX9_freeMoney ∈ LW := lwm (tb4 _ (List.mem_of_getElem? (i := 134) rfl)) rfl
theorem ml_L_240 : Cond.methodLink RL 240 yL_freeDrops ∈ LW := lwm (tb4 _ (List.mem_of_getElem? (i := 135) rfl)) rfl
theorem ml_L_67 : Cond.methodLink RL 67 yX11_freeDropsOf ∈ LW := lwm (tb4 _ (List.mem_of_getElem? (i := 138) rfl)) rfl
theorem ml_X11_145 : Cond.methodLink RX11 145 yX9_freeDrops ∈ LW := lwm (tb4 _ (List.mem_of_getElem? (i := 142) rfl)) rfl
theorem ml_L_243 : Cond.methodLink RL 243 yX11_totalMoney ∈ LW := lwm (tb4 _ (List.mem_of_getElem? (i := 143) rfl)) rfl
theorem ml_X11_148 : Cond.methodLink RX11 148 yX7_sum ∈ LW := lwm (tb4 _ (List.mem_of_getElem? (i := 147) rfl)) rfl
theorem ml_L_246 : Cond.methodLink RL 246 yX11_totalDrops ∈ LW := lwm (tb4 _ (List.mem_of_getElem? (i := 151) rfl)) rfl
theorem ml_L_209 : Cond.methodLink RL 209 yL_book ∈ LW := lwm (tb4 _ (List.mem_of_getElem? (i := 155) rfl)) rfl
theorem ml_L_249 : Cond.methodLink RL 249 yL_orderAt ∈ LW := lwm (tb4 _ (List.mem_of_getElem? (i := 158) rfl)) rfl
theorem ml_L_251 : Cond.methodLink RL 251 yL_isBuying ∈ LW := lwm (tb4 _ (List.mem_of_getElem? (i := 161) rfl)) rfl
theorem ml_L_253 : Cond.methodLink RL 253 yL_priceOf ∈ LW := lwm (tb4 _ (List.mem_of_getElem? (i := 164) rfl)) rfl
theorem ml_L_255 : Cond.methodLink RL 255 yL_quantityOf ∈ LW := lwm (tb4 _ (List.mem_of_getElem? (i := 167) rfl)) rfl
theorem ml_L_257 : Cond.methodLink RL 257 yL_minutesLeft ∈ LW := lwm (tb4 _ (List.mem_of_getElem? (i := 170) rfl)) rfl
theorem ml_L_89 : Cond.methodLink RL 89 yX11_minutesLeft ∈ LW := lwm (tb4 _ (List.mem_of_getElem? (i := 173) rfl)) rfl
theorem ml_L_259 : Cond.methodLink RL 259 yL_stallOf ∈ LW := lwm (tb4 _ (List.mem_of_getElem? (i := 178) rfl)) rfl
theorem ml_L_261 : Cond.methodLink RL 261 yL_buyingAt ∈ LW := lwm (tb4 _ (List.mem_of_getElem? (i := 181) rfl)) rfl
theorem ml_L_104 : Cond.methodLink RL 104 yX11_buyingAt ∈ LW := lwm (tb4 _ (List.mem_of_getElem? (i := 184) rfl)) rfl
theorem ml_X11_216 : Cond.methodLink RX11 216 yX11_requirePrice ∈ LW := lwm (tb4 _ (List.mem_of_getElem? (i := 188) rfl)) rfl
theorem ml_X11_219 : Cond.methodLink RX11 219 yX1_quantityAt ∈ LW := lwm (tb4 _ (List.mem_of_getElem? (i := 192) rfl)) rfl
theorem ml_L_263 : Cond.methodLink RL 263 yL_sellingAt ∈ LW := lwm (tb4 _ (List.mem_of_getElem? (i := 196) rfl)) rfl
theorem ml_L_107 : Cond.methodLink RL 107 yX11_sellingAt ∈ LW := lwm (tb4 _ (List.mem_of_getElem? (i := 199) rfl)) rfl
theorem ml_L_265 : Cond.methodLink RL 265 yX11_buyingShare ∈ LW := lwm (tb4 _ (List.mem_of_getElem? (i := 203) rfl)) rfl
theorem ml_X11_240 : Cond.methodLink RX11 240 ⟨"java/lang/ArithmeticException", "<init>", "(Ljava/lang/String;)V"⟩ ∈ LW := lwm (tb4 _ (List.mem_of_getElem? (i := 217) rfl)) rfl
theorem ml_java_lang_ArithmeticException_7 : Cond.methodLink "java/lang/ArithmeticException" 7 ⟨"java/lang/RuntimeException", "<init>", "(Ljava/lang/String;)V"⟩ ∈ LW := lwm (tb4 _ (List.mem_of_getElem? (i := 220) rfl)) rfl
theorem ml_X11_243 : Cond.methodLink RX11 243 yX1_buyingOrders ∈ LW := lwm (tb4 _ (List.mem_of_getElem? (i := 223) rfl)) rfl
theorem ml_L_269 : Cond.methodLink RL 269 yL_bestBuy ∈ LW := lwm (tb4 _ (List.mem_of_getElem? (i := 227) rfl)) rfl
theorem ml_L_92 : Cond.methodLink RL 92 yX11_bestBuy ∈ LW := lwm (tb4 _ (List.mem_of_getElem? (i := 230) rfl)) rfl
theorem ml_X11_199 : Cond.methodLink RX11 199 yX11_bestOrder ∈ LW := lwm (tb4 _ (List.mem_of_getElem? (i := 234) rfl)) rfl
theorem ml_X11_414 : Cond.methodLink RX11 414 yX1_bestSlot ∈ LW := lwm (tb4 _ (List.mem_of_getElem? (i := 238) rfl)) rfl
theorem ml_L_271 : Cond.methodLink RL 271 yL_bestSell ∈ LW := lwm (tb5 _ (List.mem_of_getElem? (i := 0) rfl)) rfl
theorem ml_L_95 : Cond.methodLink RL 95 yX11_bestSell ∈ LW := lwm (tb5 _ (List.mem_of_getElem? (i := 3) rfl)) rfl
theorem ml_L_273 : Cond.methodLink RL 273 yL_spread ∈ LW := lwm (tb5 _ (List.mem_of_getElem? (i := 7) rfl)) rfl
theorem ml_L_98 : Cond.methodLink RL 98 yX11_spread ∈ LW := lwm (tb5 _ (List.mem_of_getElem? (i := 10) rfl)) rfl
theorem ml_X11_203 : Cond.methodLink RX11 203 yX1_spreadOfBest ∈ LW := lwm (tb5 _ (List.mem_of_getElem? (i := 14) rfl)) rfl
theorem ml_X1_64 : Cond.methodLink RX1 64 yX1_bestSlot ∈ LW := lwm (tb5 _ (List.mem_of_getElem? (i := 18) rfl)) rfl
theorem ml_X11_206 : Cond.methodLink RX11 206 yX11_requireSpread ∈ LW := lwm (tb5 _ (List.mem_of_getElem? (i := 19) rfl)) rfl
theorem ml_L_275 : Cond.methodLink RL 275 yL_spreadBySums ∈ LW := lwm (tb5 _ (List.mem_of_getElem? (i := 23) rfl)) rfl
theorem ml_L_101 : Cond.methodLink RL 101 yX11_spreadBySums ∈ LW := lwm (tb5 _ (List.mem_of_getElem? (i := 26) rfl)) rfl
theorem ml_X11_209 : Cond.methodLink RX11 209 yX6_gather ∈ LW := lwm (tb5 _ (List.mem_of_getElem? (i := 30) rfl)) rfl
theorem ml_X6_23 : Cond.methodLink RX6 23 yX7_clear ∈ LW := lwm (tb5 _ (List.mem_of_getElem? (i := 34) rfl)) rfl
theorem ml_X6_32 : Cond.methodLink RX6 32 yX1_buys ∈ LW := lwm (tb5 _ (List.mem_of_getElem? (i := 38) rfl)) rfl
theorem ml_X6_39 : Cond.methodLink RX6 39 yX7_get ∈ LW := lwm (tb5 _ (List.mem_of_getElem? (i := 39) rfl)) rfl
theorem ml_X6_46 : Cond.methodLink RX6 46 yX7_add ∈ LW := lwm (tb5 _ (List.mem_of_getElem? (i := 40) rfl)) rfl
theorem ml_X11_213 : Cond.methodLink RX11 213 yX6_spreadOfSums ∈ LW := lwm (tb5 _ (List.mem_of_getElem? (i := 41) rfl)) rfl
theorem ml_L_212 : Cond.methodLink RL 212 yL_pool ∈ LW := lwm (tb5 _ (List.mem_of_getElem? (i := 45) rfl)) rfl
theorem ml_L_277 : Cond.methodLink RL 277 yL_volumeAt ∈ LW := lwm (tb5 _ (List.mem_of_getElem? (i := 48) rfl)) rfl
theorem ml_L_119 : Cond.methodLink RL 119 yX11_volumeAt ∈ LW := lwm (tb5 _ (List.mem_of_getElem? (i := 51) rfl)) rfl
theorem ml_X11_260 : Cond.methodLink RX11 260 yX1_volume ∈ LW := lwm (tb5 _ (List.mem_of_getElem? (i := 55) rfl)) rfl
theorem ml_X1_74 : Cond.methodLink RX1 74 yJ9_min_7cf53 ∈ LW := lwm (tb5 _ (List.mem_of_getElem? (i := 59) rfl)) rfl
theorem ml_L_279 : Cond.methodLink RL 279 yX11_tradeCount ∈ LW := lwm (tb5 _ (List.mem_of_getElem? (i := 60) rfl)) rfl
theorem ml_L_282 : Cond.methodLink RL 282 yX11_meanPrice ∈ LW := lwm (tb5 _ (List.mem_of_getElem? (i := 64) rfl)) rfl
theorem ml_L_286 : Cond.methodLink RL 286 yX11_turnover ∈ LW := lwm (tb5 _ (List.mem_of_getElem? (i := 69) rfl)) rfl
theorem ml_L_290 : Cond.methodLink RL 290 yX11_tradedQuantity ∈ LW := lwm (tb5 _ (List.mem_of_getElem? (i := 73) rfl)) rfl
theorem ml_L_293 : Cond.methodLink RL 293 yL_lastPrice ∈ LW := lwm (tb5 _ (List.mem_of_getElem? (i := 77) rfl)) rfl
theorem ml_L_110 : Cond.methodLink RL 110 yX11_lastPrice ∈ LW := lwm (tb5 _ (List.mem_of_getElem? (i := 80) rfl)) rfl
theorem ml_L_295 : Cond.methodLink RL 295 yL_poolPrice ∈ LW := lwm (tb5 _ (List.mem_of_getElem? (i := 84) rfl)) rfl
theorem ml_L_113 : Cond.methodLink RL 113 yX11_poolPrice ∈ LW := lwm (tb5 _ (List.mem_of_getElem? (i := 87) rfl)) rfl
theorem ml_X11_249 : Cond.methodLink RX11 249 yX1_poolByTrying ∈ LW := lwm (tb5 _ (List.mem_of_getElem? (i := 91) rfl)) rfl
theorem ml_X11_253 : Cond.methodLink RX11 253 yX11_requirePoolPrice ∈ LW := lwm (tb5 _ (List.mem_of_getElem? (i := 92) rfl)) rfl
theorem ml_L_297 : Cond.methodLink RL 297 yL_poolBySums ∈ LW := lwm (tb5 _ (List.mem_of_getElem? (i := 96) rfl)) rfl
theorem ml_L_116 : Cond.methodLink RL 116 yX11_poolPriceBySums ∈ LW := lwm (tb5 _ (List.mem_of_getElem? (i := 99) rfl)) rfl
theorem ml_X11_257 : Cond.methodLink RX11 257 yX6_poolBySums ∈ LW := lwm (tb5 _ (List.mem_of_getElem? (i := 103) rfl)) rfl
theorem ml_X6_53 : Cond.methodLink RX6 53 yX7_sum ∈ LW := lwm (tb5 _ (List.mem_of_getElem? (i := 109) rfl)) rfl
theorem ml_X6_57 : Cond.methodLink RX6 57 yX5_consider ∈ LW := lwm (tb5 _ (List.mem_of_getElem? (i := 110) rfl)) rfl
theorem ml_L_300 : Cond.methodLink RL 300 yX11_isConsistent ∈ LW := lwm (tb5 _ (List.mem_of_getElem? (i := 111) rfl)) rfl
theorem ml_X11_294 : Cond.methodLink RX11 294 yX9_isCovered ∈ LW := lwm (tb5 _ (List.mem_of_getElem? (i := 115) rfl)) rfl
theorem ml_L_215 : Cond.methodLink RL 215 yL_lines ∈ LW := lwm (tb5 _ (List.mem_of_getElem? (i := 119) rfl)) rfl
theorem ml_L_307 : Cond.methodLink RL 307 yJ4_init_da8c8 ∈ LW := lwm (tb5 _ (List.mem_of_getElem? (i := 123) rfl)) rfl
theorem ml_L_308 : Cond.methodLink RL 308 yJ4_append_bf812 ∈ LW := lwm (tb5 _ (List.mem_of_getElem? (i := 124) rfl)) rfl
theorem ml_J4_53 : Cond.methodLink RJ4 53 yJ5_append_c97b9 ∈ LW := lwm (tb5 _ (List.mem_of_getElem? (i := 128) rfl)) rfl
theorem ml_J5_245 : Cond.methodLink RJ5 245 yJ6_stringSize_0f7a4 ∈ LW := lwm (tb5 _ (List.mem_of_getElem? (i := 131) rfl)) rfl
theorem ml_J5_100 : Cond.methodLink RJ5 100 yJ5_ensureCapacityInternal_d00df ∈ LW := lwm (tb5 _ (List.mem_of_getElem? (i := 134) rfl)) rfl
theorem ml_J5_104 : Cond.methodLink RJ5 104 yJ5_newCapacity_0f7a4 ∈ LW := lwm (tb5 _ (List.mem_of_getElem? (i := 138) rfl)) rfl
theorem ml_J5_114 : Cond.methodLink RJ5 114 yJ8_newLength_cabcc ∈ LW := lwm (tb5 _ (List.mem_of_getElem? (i := 142) rfl)) rfl
theorem ml_J8_194 : Cond.methodLink RJ8 194 yJ9_max_7cf53 ∈ LW := lwm (tb5 _ (List.mem_of_getElem? (i := 145) rfl)) rfl
theorem ml_J8_201 : Cond.methodLink RJ8 201 yJ8_hugeLength_7cf53 ∈ LW := lwm (tb5 _ (List.mem_of_getElem? (i := 147) rfl)) rfl
theorem ml_J5_108 : Cond.methodLink RJ5 108 yJ7_copyOf_9075b ∈ LW := lwm (tb5 _ (List.mem_of_getElem? (i := 151) rfl)) rfl
theorem ml_J7_310 : Cond.methodLink RJ7 310 ⟨"[B", "clone", "()Ljava/lang/Object;"⟩ ∈ LW := lwm (tb5 _ (List.mem_of_getElem? (i := 154) rfl)) rfl
theorem ml_J7_304 : Cond.methodLink RJ7 304 yJ9_min_7cf53 ∈ LW := lwm (tb5 _ (List.mem_of_getElem? (i := 161) rfl)) rfl
theorem ml_J7_150 : Cond.methodLink RJ7 150 ⟨"java/lang/System", "arraycopy", "(Ljava/lang/Object;ILjava/lang/Object;II)V"⟩ ∈ LW := lwm (tb5 _ (List.mem_of_getElem? (i := 162) rfl)) rfl
theorem ml_J5_83 : Cond.methodLink RJ5 83 yJ5_isLatin1_aae02 ∈ LW := lwm (tb5 _ (List.mem_of_getElem? (i := 165) rfl)) rfl
theorem ml_J5_248 : Cond.methodLink RJ5 248 yJ6_getChars_ba4f3 ∈ LW := lwm (tb5 _ (List.mem_of_getElem? (i := 170) rfl)) rfl
theorem ml_J5_251 : Cond.methodLink RJ5 251 yJ2_getChars_46870 ∈ LW := lwm (tb5 _ (List.mem_of_getElem? (i := 177) rfl)) rfl
theorem ml_J2_96 : Cond.methodLink RJ2 96 yJ2_checkBoundsBeginEnd_d044e ∈ LW := lwm (tb5 _ (List.mem_of_getElem? (i := 180) rfl)) rfl
theorem ml_J2_48 : Cond.methodLink RJ2 48 yJ2_length_9d52b ∈ LW := lwm (tb5 _ (List.mem_of_getElem? (i := 183) rfl)) rfl
theorem ml_J2_241 : Cond.methodLink RJ2 241 yJ0_checkBoundsBeginEnd_23922 ∈ LW := lwm (tb5 _ (List.mem_of_getElem? (i := 186) rfl)) rfl
theorem ml_J0_1062 : Cond.methodLink RJ0 1062 yJ3_checkFromToIndex_8c36e ∈ LW := lwm (tb5 _ (List.mem_of_getElem? (i := 191) rfl)) rfl
theorem ml_J2_393 : Cond.methodLink RJ2 393 yJ2_getChars_ba4f3 ∈ LW := lwm (tb5 _ (List.mem_of_getElem? (i := 194) rfl)) rfl
theorem ml_J2_111 : Cond.methodLink RJ2 111 yJ2_putChar_b72d1 ∈ LW := lwm (tb5 _ (List.mem_of_getElem? (i := 198) rfl)) rfl
theorem ml_L_316 : Cond.methodLink RL 316 yJ4_append_15ec4 ∈ LW := lwm (tb5 _ (List.mem_of_getElem? (i := 210) rfl)) rfl
theorem ml_J4_29 : Cond.methodLink RJ4 29 yJ5_append_cf1ce ∈ LW := lwm (tb5 _ (List.mem_of_getElem? (i := 214) rfl)) rfl
theorem ml_J5_204 : Cond.methodLink RJ5 204 yJ5_appendNull_278bc ∈ LW := lwm (tb5 _ (List.mem_of_getElem? (i := 217) rfl)) rfl
theorem ml_J5_226 : Cond.methodLink RJ5 226 yJ2_putCharsAt_cd4e5 ∈ LW := lwm (tb5 _ (List.mem_of_getElem? (i := 221) rfl)) rfl
theorem ml_J5_32 : Cond.methodLink RJ5 32 yJ0_length_8abf5 ∈ LW := lwm (tb5 _ (List.mem_of_getElem? (i := 224) rfl)) rfl
theorem ml_J0_335 : Cond.methodLink RJ0 335 yJ0_coder_7d493 ∈ LW := lwm (tb5 _ (List.mem_of_getElem? (i := 228) rfl)) rfl
theorem ml_J5_208 : Cond.methodLink RJ5 208 yJ5_putStringAt_47b60 ∈ LW := lwm (tb5 _ (List.mem_of_getElem? (i := 233) rfl)) rfl
theorem ml_J5_397 : Cond.methodLink RJ5 397 yJ5_inflateIfNeededFor_a7421 ∈ LW := lwm (tb5 _ (List.mem_of_getElem? (i := 237) rfl)) rfl
theorem ml_J5_40 : Cond.methodLink RJ5 40 yJ0_coder_7d493 ∈ LW := lwm (tb6 _ (List.mem_of_getElem? (i := 1) rfl)) rfl
theorem ml_J5_195 : Cond.methodLink RJ5 195 yJ5_inflate_da8c8 ∈ LW := lwm (tb6 _ (List.mem_of_getElem? (i := 2) rfl)) rfl
theorem ml_J5_125 : Cond.methodLink RJ5 125 yJ1_inflate_0e8fd ∈ LW := lwm (tb6 _ (List.mem_of_getElem? (i := 6) rfl)) rfl
theorem ml_J1_240 : Cond.methodLink RJ1 240 yJ2_inflate_0e8fd ∈ LW := lwm (tb6 _ (List.mem_of_getElem? (i := 9) rfl)) rfl
theorem ml_J2_173 : Cond.methodLink RJ2 173 yJ2_checkBoundsOffCount_d044e ∈ LW := lwm (tb6 _ (List.mem_of_getElem? (i := 12) rfl)) rfl
theorem ml_J2_419 : Cond.methodLink RJ2 419 yJ0_checkBoundsOffCount_cabcc ∈ LW := lwm (tb6 _ (List.mem_of_getElem? (i := 15) rfl)) rfl
theorem ml_J0_1065 : Cond.methodLink RJ0 1065 yJ3_checkFromIndexSize_8c36e ∈ LW := lwm (tb6 _ (List.mem_of_getElem? (i := 18) rfl)) rfl
theorem ml_J5_399 : Cond.methodLink RJ5 399 yJ0_getBytes_840e7 ∈ LW := lwm (tb6 _ (List.mem_of_getElem? (i := 21) rfl)) rfl
theorem ml_J0_212 : Cond.methodLink RJ0 212 ⟨"java/lang/System", "arraycopy", "(Ljava/lang/Object;ILjava/lang/Object;II)V"⟩ ∈ LW := lwm (tb6 _ (List.mem_of_getElem? (i := 25) rfl)) rfl
theorem ml_J0_106 : Cond.methodLink RJ0 106 yJ1_inflate_0e8fd ∈ LW := lwm (tb6 _ (List.mem_of_getElem? (i := 26) rfl)) rfl
theorem ml_L_321 : Cond.methodLink RL 321 yJ4_toString_0e30d ∈ LW := lwm (tb6 _ (List.mem_of_getElem? (i := 28) rfl)) rfl
theorem ml_J4_137 : Cond.methodLink RJ4 137 yJ0_init_81219 ∈ LW := lwm (tb6 _ (List.mem_of_getElem? (i := 33) rfl)) rfl
theorem ml_J0_489 : Cond.methodLink RJ0 489 yJ0_init_db425 ∈ LW := lwm (tb6 _ (List.mem_of_getElem? (i := 36) rfl)) rfl
theorem ml_J0_1 : Cond.methodLink RJ0 1 ⟨"java/lang/Object", "<init>", "()V"⟩ ∈ LW := lwm (tb6 _ (List.mem_of_getElem? (i := 39) rfl)) rfl
theorem ml_J0_552 : Cond.methodLink RJ0 552 yJ5_getValue_6d5f1 ∈ LW := lwm (tb6 _ (List.mem_of_getElem? (i := 40) rfl)) rfl
theorem ml_J0_549 : Cond.methodLink RJ0 549 yJ5_length_8abf5 ∈ LW := lwm (tb6 _ (List.mem_of_getElem? (i := 45) rfl)) rfl
theorem ml_J4_343 : Cond.methodLink RJ4 343 yJ5_length_8abf5 ∈ LW := lwm (tb6 _ (List.mem_of_getElem? (i := 51) rfl)) rfl
theorem ml_J0_1047 : Cond.methodLink RJ0 1047 yJ5_isLatin1_aae02 ∈ LW := lwm (tb6 _ (List.mem_of_getElem? (i := 53) rfl)) rfl
theorem ml_J0_54 : Cond.methodLink RJ0 54 yJ7_copyOfRange_39247 ∈ LW := lwm (tb6 _ (List.mem_of_getElem? (i := 54) rfl)) rfl
theorem ml_J7_339 : Cond.methodLink RJ7 339 yJ7_copyOfRangeByte_39247 ∈ LW := lwm (tb6 _ (List.mem_of_getElem? (i := 57) rfl)) rfl
theorem ml_J7_343 : Cond.methodLink RJ7 343 yJ7_checkLength_df160 ∈ LW := lwm (tb6 _ (List.mem_of_getElem? (i := 60) rfl)) rfl
theorem ml_J7_47 : Cond.methodLink RJ7 47 yJ4_init_da8c8 ∈ LW := lwm (tb6 _ (List.mem_of_getElem? (i := 65) rfl)) rfl
theorem ml_J7_54 : Cond.methodLink RJ7 54 yJ4_append_bf812 ∈ LW := lwm (tb6 _ (List.mem_of_getElem? (i := 66) rfl)) rfl
theorem ml_J7_50 : Cond.methodLink RJ7 50 yJ4_append_15ec4 ∈ LW := lwm (tb6 _ (List.mem_of_getElem? (i := 68) rfl)) rfl
theorem ml_J7_61 : Cond.methodLink RJ7 61 yJ4_toString_0e30d ∈ LW := lwm (tb6 _ (List.mem_of_getElem? (i := 69) rfl)) rfl
theorem ml_J7_65 : Cond.methodLink RJ7 65 ⟨"java/lang/IllegalArgumentException", "<init>", "(Ljava/lang/String;)V"⟩ ∈ LW := lwm (tb6 _ (List.mem_of_getElem? (i := 70) rfl)) rfl
theorem ml_J0_1051 : Cond.methodLink RJ0 1051 yJ2_compress_39247 ∈ LW := lwm (tb6 _ (List.mem_of_getElem? (i := 71) rfl)) rfl
theorem ml_J2_123 : Cond.methodLink RJ2 123 yJ2_compress_5af95 ∈ LW := lwm (tb6 _ (List.mem_of_getElem? (i := 74) rfl)) rfl
theorem ml_J2_71 : Cond.methodLink RJ2 71 yJ2_getChar_3b067 ∈ LW := lwm (tb6 _ (List.mem_of_getElem? (i := 77) rfl)) rfl
theorem ml_J2_126 : Cond.methodLink RJ2 126 yJ7_copyOfRange_39247 ∈ LW := lwm (tb6 _ (List.mem_of_getElem? (i := 80) rfl)) rfl
theorem ml_J0_47 : Cond.methodLink RJ0 47 yJ2_coderFromArrayLen_85cad ∈ LW := lwm (tb6 _ (List.mem_of_getElem? (i := 81) rfl)) rfl
theorem ml_L_325 : Cond.methodLink RL 325 yL_writeOrder ∈ LW := lwm (tb6 _ (List.mem_of_getElem? (i := 91) rfl)) rfl
theorem ml_L_122 : Cond.methodLink RL 122 yX11_writeOrder ∈ LW := lwm (tb6 _ (List.mem_of_getElem? (i := 94) rfl)) rfl
theorem ml_X11_266 : Cond.methodLink RX11 266 yJ4_setLength_d00df ∈ LW := lwm (tb6 _ (List.mem_of_getElem? (i := 98) rfl)) rfl
theorem ml_J4_333 : Cond.methodLink RJ4 333 yJ5_setLength_d00df ∈ LW := lwm (tb6 _ (List.mem_of_getElem? (i := 102) rfl)) rfl
theorem ml_J5_131 : Cond.methodLink RJ5 131 yJx7c733_init_d00df ∈ LW := lwm (tb6 _ (List.mem_of_getElem? (i := 107) rfl)) rfl
theorem ml_Jx7c733_12 : Cond.methodLink RJx7c733 12 yJ4_init_da8c8 ∈ LW := lwm (tb6 _ (List.mem_of_getElem? (i := 111) rfl)) rfl
theorem ml_Jx7c733_15 : Cond.methodLink RJx7c733 15 yJ4_append_15ec4 ∈ LW := lwm (tb6 _ (List.mem_of_getElem? (i := 113) rfl)) rfl
theorem ml_Jx7c733_19 : Cond.methodLink RJx7c733 19 yJ4_append_bf812 ∈ LW := lwm (tb6 _ (List.mem_of_getElem? (i := 114) rfl)) rfl
theorem ml_Jx7c733_22 : Cond.methodLink RJx7c733 22 yJ4_toString_0e30d ∈ LW := lwm (tb6 _ (List.mem_of_getElem? (i := 115) rfl)) rfl
theorem ml_Jx7c733_7 : Cond.methodLink RJx7c733 7 ⟨"java/lang/IndexOutOfBoundsException", "<init>", "(Ljava/lang/String;)V"⟩ ∈ LW := lwm (tb6 _ (List.mem_of_getElem? (i := 116) rfl)) rfl
theorem ml_J5_133 : Cond.methodLink RJ5 133 yJ1_fillNull_b72d1 ∈ LW := lwm (tb6 _ (List.mem_of_getElem? (i := 124) rfl)) rfl
theorem ml_J1_236 : Cond.methodLink RJ1 236 yJ7_fill_eb02e ∈ LW := lwm (tb6 _ (List.mem_of_getElem? (i := 127) rfl)) rfl
theorem ml_J7_13 : Cond.methodLink RJ7 13 yJ7_rangeCheck_23922 ∈ LW := lwm (tb6 _ (List.mem_of_getElem? (i := 130) rfl)) rfl
theorem ml_J7_70 : Cond.methodLink RJ7 70 yJx00060_init_d00df ∈ LW := lwm (tb6 _ (List.mem_of_getElem? (i := 137) rfl)) rfl
theorem ml_Jx00060_12 : Cond.methodLink RJx00060 12 yJ4_init_da8c8 ∈ LW := lwm (tb6 _ (List.mem_of_getElem? (i := 141) rfl)) rfl
theorem ml_Jx00060_15 : Cond.methodLink RJx00060 15 yJ4_append_15ec4 ∈ LW := lwm (tb6 _ (List.mem_of_getElem? (i := 143) rfl)) rfl
theorem ml_Jx00060_19 : Cond.methodLink RJx00060 19 yJ4_append_bf812 ∈ LW := lwm (tb6 _ (List.mem_of_getElem? (i := 144) rfl)) rfl
theorem ml_Jx00060_22 : Cond.methodLink RJx00060 22 yJ4_toString_0e30d ∈ LW := lwm (tb6 _ (List.mem_of_getElem? (i := 145) rfl)) rfl
theorem ml_J5_137 : Cond.methodLink RJ5 137 yJ2_fillNull_b72d1 ∈ LW := lwm (tb6 _ (List.mem_of_getElem? (i := 146) rfl)) rfl
theorem ml_J2_380 : Cond.methodLink RJ2 380 yJ7_fill_eb02e ∈ LW := lwm (tb6 _ (List.mem_of_getElem? (i := 149) rfl)) rfl
theorem ml_X11_269 : Cond.methodLink RX11 269 yJ4_append_bf812 ∈ LW := lwm (tb6 _ (List.mem_of_getElem? (i := 150) rfl)) rfl
theorem ml_X11_273 : Cond.methodLink RX11 273 yJ4_append_cf468 ∈ LW := lwm (tb6 _ (List.mem_of_getElem? (i := 151) rfl)) rfl
theorem ml_J4_50 : Cond.methodLink RJ4 50 yJ5_append_3fe6f ∈ LW := lwm (tb6 _ (List.mem_of_getElem? (i := 155) rfl)) rfl
theorem ml_J5_191 : Cond.methodLink RJ5 191 yJ1_canEncode_fc78d ∈ LW := lwm (tb6 _ (List.mem_of_getElem? (i := 158) rfl)) rfl
theorem ml_J5_197 : Cond.methodLink RJ5 197 yJ2_putCharSB_b72d1 ∈ LW := lwm (tb6 _ (List.mem_of_getElem? (i := 161) rfl)) rfl
theorem ml_J2_67 : Cond.methodLink RJ2 67 yJ2_checkIndex_2214a ∈ LW := lwm (tb6 _ (List.mem_of_getElem? (i := 164) rfl)) rfl
theorem ml_J2_414 : Cond.methodLink RJ2 414 yJ0_checkIndex_df160 ∈ LW := lwm (tb6 _ (List.mem_of_getElem? (i := 167) rfl)) rfl
theorem ml_J0_1059 : Cond.methodLink RJ0 1059 yJ3_checkIndex_8e157 ∈ LW := lwm (tb6 _ (List.mem_of_getElem? (i := 170) rfl)) rfl
theorem ml_X11_276 : Cond.methodLink RX11 276 yJ4_length_8abf5 ∈ LW := lwm (tb6 _ (List.mem_of_getElem? (i := 173) rfl)) rfl
theorem ml_L_327 : Cond.methodLink RL 327 yL_spells ∈ LW := lwm (tb6 _ (List.mem_of_getElem? (i := 174) rfl)) rfl
theorem ml_L_145 : Cond.methodLink RL 145 yJ0_length_8abf5 ∈ LW := lwm (tb6 _ (List.mem_of_getElem? (i := 177) rfl)) rfl
theorem ml_L_303 : Cond.methodLink RL 303 yL_lineAt ∈ LW := lwm (tb6 _ (List.mem_of_getElem? (i := 178) rfl)) rfl
theorem ml_L_125 : Cond.methodLink RL 125 yX11_lineAt ∈ LW := lwm (tb6 _ (List.mem_of_getElem? (i := 181) rfl)) rfl
theorem ml_X11_285 : Cond.methodLink RX11 285 yJ4_charAt_5068e ∈ LW := lwm (tb6 _ (List.mem_of_getElem? (i := 186) rfl)) rfl
theorem ml_J4_329 : Cond.methodLink RJ4 329 yJ5_charAt_5068e ∈ LW := lwm (tb6 _ (List.mem_of_getElem? (i := 190) rfl)) rfl
theorem ml_J5_138 : Cond.methodLink RJ5 138 yJ9_min_7cf53 ∈ LW := lwm (tb6 _ (List.mem_of_getElem? (i := 193) rfl)) rfl
theorem ml_J5_144 : Cond.methodLink RJ5 144 yJ0_checkIndex_df160 ∈ LW := lwm (tb6 _ (List.mem_of_getElem? (i := 194) rfl)) rfl
theorem ml_J5_148 : Cond.methodLink RJ5 148 yJ2_getChar_3b067 ∈ LW := lwm (tb6 _ (List.mem_of_getElem? (i := 195) rfl)) rfl
theorem ml_L_150 : Cond.methodLink RL 150 yJ0_charAt_5068e ∈ LW := lwm (tb6 _ (List.mem_of_getElem? (i := 196) rfl)) rfl
theorem ml_J0_492 : Cond.methodLink RJ0 492 yJ0_isLatin1_aae02 ∈ LW := lwm (tb6 _ (List.mem_of_getElem? (i := 200) rfl)) rfl
theorem ml_J0_495 : Cond.methodLink RJ0 495 yJ1_charAt_3b067 ∈ LW := lwm (tb6 _ (List.mem_of_getElem? (i := 204) rfl)) rfl
theorem ml_J1_9 : Cond.methodLink RJ1 9 yJ0_checkIndex_df160 ∈ LW := lwm (tb6 _ (List.mem_of_getElem? (i := 207) rfl)) rfl
theorem ml_J0_498 : Cond.methodLink RJ0 498 yJ2_charAt_3b067 ∈ LW := lwm (tb6 _ (List.mem_of_getElem? (i := 208) rfl)) rfl
theorem ml_L_335 : Cond.methodLink RL 335 yX11_writeBook ∈ LW := lwm (tb6 _ (List.mem_of_getElem? (i := 213) rfl)) rfl
theorem ml_X11_279 : Cond.methodLink RX11 279 yX11_appendBest ∈ LW := lwm (tb6 _ (List.mem_of_getElem? (i := 217) rfl)) rfl
theorem ml_L_218 : Cond.methodLink RL 218 yL_undone ∈ LW := lwm (tb6 _ (List.mem_of_getElem? (i := 221) rfl)) rfl
theorem ml_L_355 : Cond.methodLink RL 355 yL_sum ∈ LW := lwm (tb6 _ (List.mem_of_getElem? (i := 224) rfl)) rfl
theorem ml_L_340 : Cond.methodLink RL 340 yX11_time ∈ LW := lwm (tb6 _ (List.mem_of_getElem? (i := 228) rfl)) rfl
theorem ml_L_359 : Cond.methodLink RL 359 yL_cancel ∈ LW := lwm (tb6 _ (List.mem_of_getElem? (i := 238) rfl)) rfl
theorem ml_L_42 : Cond.methodLink RL 42 yX11_cancel ∈ LW := lwm (tb7 _ (List.mem_of_getElem? (i := 1) rfl)) rfl
theorem ml_X11_95 : Cond.methodLink RX11 95 yX9_cancelFault ∈ LW := lwm (tb7 _ (List.mem_of_getElem? (i := 5) rfl)) rfl
theorem ml_X9_86 : Cond.methodLink RX9 86 yX1_slotOf ∈ LW := lwm (tb7 _ (List.mem_of_getElem? (i := 9) rfl)) rfl
theorem ml_X11_99 : Cond.methodLink RX11 99 yX9_withdraw ∈ LW := lwm (tb7 _ (List.mem_of_getElem? (i := 11) rfl)) rfl
theorem ml_L_369 : Cond.methodLink RL 369 yL_execute ∈ LW := lwm (tb7 _ (List.mem_of_getElem? (i := 19) rfl)) rfl
theorem ml_L_153 : Cond.methodLink RL 153 yL_type ∈ LW := lwm (tb7 _ (List.mem_of_getElem? (i := 22) rfl)) rfl
theorem ml_L_129 : Cond.methodLink RL 129 yX11_type ∈ LW := lwm (tb7 _ (List.mem_of_getElem? (i := 25) rfl)) rfl
theorem ml_X11_303 : Cond.methodLink RX11 303 yX2_isFull ∈ LW := lwm (tb7 _ (List.mem_of_getElem? (i := 30) rfl)) rfl
theorem ml_X2_40 : Cond.methodLink RX2 40 yJ4_length_8abf5 ∈ LW := lwm (tb7 _ (List.mem_of_getElem? (i := 34) rfl)) rfl
theorem ml_X11_308 : Cond.methodLink RX11 308 yX2_append ∈ LW := lwm (tb7 _ (List.mem_of_getElem? (i := 36) rfl)) rfl
theorem ml_X2_44 : Cond.methodLink RX2 44 yJ4_append_cf468 ∈ LW := lwm (tb7 _ (List.mem_of_getElem? (i := 40) rfl)) rfl
theorem ml_L_158 : Cond.methodLink RL 158 yL_executes ∈ LW := lwm (tb7 _ (List.mem_of_getElem? (i := 41) rfl)) rfl
theorem ml_L_133 : Cond.methodLink RL 133 yX11_execute ∈ LW := lwm (tb7 _ (List.mem_of_getElem? (i := 44) rfl)) rfl
theorem ml_X11_311 : Cond.methodLink RX11 311 yX2_countCommands ∈ LW := lwm (tb7 _ (List.mem_of_getElem? (i := 48) rfl)) rfl
theorem ml_X2_51 : Cond.methodLink RX2 51 yX2_rewind ∈ LW := lwm (tb7 _ (List.mem_of_getElem? (i := 52) rfl)) rfl
theorem ml_X2_54 : Cond.methodLink RX2 54 yX2_readCommand ∈ LW := lwm (tb7 _ (List.mem_of_getElem? (i := 56) rfl)) rfl
theorem ml_X2_58 : Cond.methodLink RX2 58 yX2_readSign ∈ LW := lwm (tb7 _ (List.mem_of_getElem? (i := 60) rfl)) rfl
theorem ml_X2_93 : Cond.methodLink RX2 93 yX2_standsAt ∈ LW := lwm (tb7 _ (List.mem_of_getElem? (i := 64) rfl)) rfl
theorem ml_X2_115 : Cond.methodLink RX2 115 yJ4_charAt_5068e ∈ LW := lwm (tb7 _ (List.mem_of_getElem? (i := 68) rfl)) rfl
theorem ml_X2_62 : Cond.methodLink RX2 62 yX2_readVerb ∈ LW := lwm (tb7 _ (List.mem_of_getElem? (i := 69) rfl)) rfl
theorem ml_X2_76 : Cond.methodLink RX2 76 yX2_matchingLetters ∈ LW := lwm (tb7 _ (List.mem_of_getElem? (i := 75) rfl)) rfl
theorem ml_X2_80 : Cond.methodLink RX2 80 yJ0_length_8abf5 ∈ LW := lwm (tb7 _ (List.mem_of_getElem? (i := 79) rfl)) rfl
theorem ml_X2_89 : Cond.methodLink RX2 89 yJ0_charAt_5068e ∈ LW := lwm (tb7 _ (List.mem_of_getElem? (i := 80) rfl)) rfl
theorem ml_X2_83 : Cond.methodLink RX2 83 yJ9_max_7cf53 ∈ LW := lwm (tb7 _ (List.mem_of_getElem? (i := 81) rfl)) rfl
theorem ml_X2_65 : Cond.methodLink RX2 65 yX2_readParameters ∈ LW := lwm (tb7 _ (List.mem_of_getElem? (i := 82) rfl)) rfl
theorem ml_X2_103 : Cond.methodLink RX2 103 yX2_readNumber ∈ LW := lwm (tb7 _ (List.mem_of_getElem? (i := 86) rfl)) rfl
theorem ml_X2_107 : Cond.methodLink RX2 107 yX2_digitAt ∈ LW := lwm (tb7 _ (List.mem_of_getElem? (i := 90) rfl)) rfl
theorem ml_X2_111 : Cond.methodLink RX2 111 yX7_set ∈ LW := lwm (tb7 _ (List.mem_of_getElem? (i := 94) rfl)) rfl
theorem ml_X11_317 : Cond.methodLink RX11 317 yX2_empty ∈ LW := lwm (tb7 _ (List.mem_of_getElem? (i := 95) rfl)) rfl
theorem ml_X2_48 : Cond.methodLink RX2 48 yJ4_setLength_d00df ∈ LW := lwm (tb7 _ (List.mem_of_getElem? (i := 99) rfl)) rfl
theorem ml_X11_322 : Cond.methodLink RX11 322 yX9_copyFrom ∈ LW := lwm (tb7 _ (List.mem_of_getElem? (i := 101) rfl)) rfl
theorem ml_X11_325 : Cond.methodLink RX11 325 yX2_rewind ∈ LW := lwm (tb7 _ (List.mem_of_getElem? (i := 102) rfl)) rfl
theorem ml_X11_328 : Cond.methodLink RX11 328 yX2_readCommand ∈ LW := lwm (tb7 _ (List.mem_of_getElem? (i := 103) rfl)) rfl
theorem ml_X11_331 : Cond.methodLink RX11 331 yX11_commandFault ∈ LW := lwm (tb7 _ (List.mem_of_getElem? (i := 104) rfl)) rfl
theorem ml_X11_432 : Cond.methodLink RX11 432 ⟨"DropMarket$Verb", "ordinal", "()I"⟩ ∈ LW := lwm (tb7 _ (List.mem_of_getElem? (i := 110) rfl)) rfl
theorem ml_X11_340 : Cond.methodLink RX11 340 yX11_runCommand ∈ LW := lwm (tb7 _ (List.mem_of_getElem? (i := 117) rfl)) rfl
theorem ml_L_372 : Cond.methodLink RL 372 yL_undo ∈ LW := lwm (tb7 _ (List.mem_of_getElem? (i := 122) rfl)) rfl
theorem ml_L_142 : Cond.methodLink RL 142 yX11_undo ∈ LW := lwm (tb7 _ (List.mem_of_getElem? (i := 125) rfl)) rfl
theorem ml_X11_354 : Cond.methodLink RX11 354 yX4_popInto ∈ LW := lwm (tb7 _ (List.mem_of_getElem? (i := 130) rfl)) rfl
theorem ml_X4_39 : Cond.methodLink RX4 39 yJ9_max_7cf53 ∈ LW := lwm (tb7 _ (List.mem_of_getElem? (i := 134) rfl)) rfl
theorem obj_i1 : Cond.instanceMethod Lib.objectInit ∈ LW := lwm (tb1 _ (List.mem_of_getElem? (i := 46) rfl)) rfl
theorem obj_i2 : Cond.code Lib.objectInit ⟨#[0xb1]⟩ 1 none ∈ LW := lwm (tb1 _ (List.mem_of_getElem? (i := 47) rfl)) rfl
theorem mn_X11_9 : Cond.methodLinkNest RX11 9 yX9_init "DropMarket" ∈ lw_tbl := tb1 _ (List.mem_of_getElem? (i := 50) rfl)
theorem mn_X9_11 : Cond.methodLinkNest RX9 11 yX8_init "DropMarket" ∈ lw_tbl := tb1 _ (List.mem_of_getElem? (i := 56) rfl)
theorem mn_X9_20 : Cond.methodLinkNest RX9 20 yX1_init "DropMarket" ∈ lw_tbl := tb1 _ (List.mem_of_getElem? (i := 92) rfl)
theorem mn_X4_24 : Cond.methodLinkNest RX4 24 yX9_init "DropMarket" ∈ lw_tbl := tb1 _ (List.mem_of_getElem? (i := 178) rfl)
theorem mn_X11_31 : Cond.methodLinkNest RX11 31 yX6_init "DropMarket" ∈ lw_tbl := tb1 _ (List.mem_of_getElem? (i := 192) rfl)
theorem mn_X11_38 : Cond.methodLinkNest RX11 38 yX2_init "DropMarket" ∈ lw_tbl := tb1 _ (List.mem_of_getElem? (i := 207) rfl)
theorem mn_X9_49 : Cond.methodLinkNest RX9 49 yX11_isWithin "DropMarket" ∈ lw_tbl := tb2 _ (List.mem_of_getElem? (i := 74) rfl)
theorem mn_X1_82 : Cond.methodLinkNest RX1 82 yX5_init "DropMarket" ∈ lw_tbl := tb3 _ (List.mem_of_getElem? (i := 231) rfl)
theorem mn_X6_52 : Cond.methodLinkNest RX6 52 yX5_init "DropMarket" ∈ lw_tbl := tb5 _ (List.mem_of_getElem? (i := 108) rfl)
theorem acp_n : Cond.native arraycopyName ∈ LW := lwm (tb5 _ (List.mem_of_getElem? (i := 164) rfl)) rfl
theorem acp_s : Cond.static arraycopyName ∈ LW := lwm (tb5 _ (List.mem_of_getElem? (i := 163) rfl)) rfl
theorem ac_int : Cond.arrayClass .int ∈ LW := lwm (tb1 _ (List.mem_of_getElem? (i := 73) rfl)) rfl
theorem ac_byte : Cond.arrayClass .byte ∈ LW := lwm (tb2 _ (List.mem_of_getElem? (i := 3) rfl)) rfl
theorem ac_long : Cond.arrayClass .long ∈ LW := lwm (tb7 _ (List.mem_of_getElem? (i := 135) rfl)) rfl
-- the methods
theorem yf_L_drawn : YfS yL_drawn cL_drawn 11 (some (.object "DropMarket")) 1 := ⟨⟨lwm (tb1 _ (List.mem_of_getElem? (i := 38) rfl)) rfl, lwm (tb1 _ (List.mem_of_getElem? (i := 0) rfl)) rfl, lwm (tb1 _ (List.mem_of_getElem? (i := 39) rfl)) rfl⟩, by decide +kernel⟩
theorem yf_X11_init : YfI yX11_init cX11_init 1 0 := ⟨⟨lwm (tb1 _ (List.mem_of_getElem? (i := 43) rfl)) rfl, lwm (tb1 _ (List.mem_of_getElem? (i := 1) rfl)) rfl, lwm (tb1 _ (List.mem_of_getElem? (i := 44) rfl)) rfl⟩, by decide +kernel⟩
theorem yf_X9_init : YfI yX9_init cX9_init 1 0 := ⟨⟨lwm (tb1 _ (List.mem_of_getElem? (i := 51) rfl)) rfl, lwm (tb1 _ (List.mem_of_getElem? (i := 2) rfl)) rfl, lwm (tb1 _ (List.mem_of_getElem? (i := 52) rfl)) rfl⟩, by decide +kernel⟩
theorem yf_X8_init : YfI yX8_init cX8_init 1 0 := ⟨⟨lwm (tb1 _ (List.mem_of_getElem? (i := 57) rfl)) rfl, lwm (tb1 _ (List.mem_of_getElem? (i := 3) rfl)) rfl, lwm (tb1 _ (List.mem_of_getElem? (i := 58) rfl)) rfl⟩, by decide +kernel⟩
theorem yf_X7_init : YfI yX7_init cX7_init 2 1 := ⟨⟨lwm (tb1 _ (List.mem_of_getElem? (i := 63) rfl)) rfl, lwm (tb1 _ (List.mem_of_getElem? (i := 4) rfl)) rfl, lwm (tb1 _ (List.mem_of_getElem? (i := 64) rfl)) rfl⟩, by decide +kernel⟩
theorem yf_J9_max_7cf53 : YfS yJ9_max_7cf53 cJ9_max_7cf53 2 (some .int) 2 := ⟨⟨lwm (tb1 _ (List.mem_of_getElem? (i := 67) rfl)) rfl, lwm (tb1 _ (List.mem_of_getElem? (i := 5) rfl)) rfl, lwm (tb1 _ (List.mem_of_getElem? (i := 68) rfl)) rfl⟩, by decide +kernel⟩
theorem yf_X1_init : YfI yX1_init cX1_init 1 0 := ⟨⟨lwm (tb1 _ (List.mem_of_getElem? (i := 93) rfl)) rfl, lwm (tb1 _ (List.mem_of_getElem? (i := 6) rfl)) rfl, lwm (tb1 _ (List.mem_of_getElem? (i := 94) rfl)) rfl⟩, by decide +kernel⟩
theorem yf_X4_init : YfI yX4_init cX4_init 2 0 := ⟨⟨lwm (tb1 _ (List.mem_of_getElem? (i := 173) rfl)) rfl, lwm (tb1 _ (List.mem_of_getElem? (i := 7) rfl)) rfl, lwm (tb1 _ (List.mem_of_getElem? (i := 174) rfl)) rfl⟩, by decide +kernel⟩
theorem yf_X6_init : YfI yX6_init cX6_init 1 0 := ⟨⟨lwm (tb1 _ (List.mem_of_getElem? (i := 193) rfl)) rfl, lwm (tb1 _ (List.mem_of_getElem? (i := 8) rfl)) rfl, lwm (tb1 _ (List.mem_of_getElem? (i := 194) rfl)) rfl⟩, by decide +kernel⟩
theorem yf_X2_init : YfI yX2_init cX2_init 1 0 := ⟨⟨lwm (tb1 _ (List.mem_of_getElem? (i := 208) rfl)) rfl, lwm (tb1 _ (List.mem_of_getElem? (i := 9) rfl)) rfl, lwm (tb1 _ (List.mem_of_getElem? (i := 209) rfl)) rfl⟩, by decide +kernel⟩
theorem yf_J4_init_da8c8 : YfI yJ4_init_da8c8 cJ4_init_da8c8 1 0 := ⟨⟨lwm (tb1 _ (List.mem_of_getElem? (i := 214) rfl)) rfl, lwm (tb1 _ (List.mem_of_getElem? (i := 11) rfl)) rfl, lwm (tb1 _ (List.mem_of_getElem? (i := 215) rfl)) rfl⟩, by decide +kernel⟩
theorem yf_J5_init_d00df : YfI yJ5_init_d00df cJ5_init_d00df 2 1 := ⟨⟨lwm (tb1 _ (List.mem_of_getElem? (i := 217) rfl)) rfl, lwm (tb1 _ (List.mem_of_getElem? (i := 10) rfl)) rfl, lwm (tb1 _ (List.mem_of_getElem? (i := 218) rfl)) rfl⟩, by decide +kernel⟩
theorem yf_J2_newBytesFor_77867 : YfS yJ2_newBytesFor_77867 cJ2_newBytesFor_77867 1 (some (.array .byte)) 1 := ⟨⟨lwm (tb1 _ (List.mem_of_getElem? (i := 223) rfl)) rfl, lwm (tb1 _ (List.mem_of_getElem? (i := 13) rfl)) rfl, lwm (tb1 _ (List.mem_of_getElem? (i := 224) rfl)) rfl⟩, by decide +kernel⟩
theorem yf_J2_newBytesLength_0f7a4 : YfS yJ2_newBytesLength_0f7a4 cJ2_newBytesLength_0f7a4 1 (some .int) 1 := ⟨⟨lwm (tb1 _ (List.mem_of_getElem? (i := 226) rfl)) rfl, lwm (tb1 _ (List.mem_of_getElem? (i := 13) rfl)) rfl, lwm (tb1 _ (List.mem_of_getElem? (i := 227) rfl)) rfl⟩, by decide +kernel⟩
theorem yf_L_cell : YfS yL_cell cL_cell 2 (some .int) 2 := ⟨⟨lwm (tb2 _ (List.mem_of_getElem? (i := 58) rfl)) rfl, lwm (tb1 _ (List.mem_of_getElem? (i := 0) rfl)) rfl, lwm (tb2 _ (List.mem_of_getElem? (i := 59) rfl)) rfl⟩, by decide +kernel⟩
theorem yf_X11_addStall : YfV yX11_addStall cX11_addStall 3 (some .int) 2 := ⟨⟨lwm (tb2 _ (List.mem_of_getElem? (i := 67) rfl)) rfl, lwm (tb2 _ (List.mem_of_getElem? (i := 68) rfl)) rfl, lwm (tb1 _ (List.mem_of_getElem? (i := 1) rfl)) rfl, lwm (tb2 _ (List.mem_of_getElem? (i := 69) rfl)) rfl⟩, by decide +kernel⟩
theorem yf_X9_stallFault : YfV yX9_stallFault cX9_stallFault 3 (some (.object "DropMarket$Fault")) 2 := ⟨⟨lwm (tb2 _ (List.mem_of_getElem? (i := 71) rfl)) rfl, lwm (tb2 _ (List.mem_of_getElem? (i := 72) rfl)) rfl, lwm (tb1 _ (List.mem_of_getElem? (i := 2) rfl)) rfl, lwm (tb2 _ (List.mem_of_getElem? (i := 73) rfl)) rfl⟩, by decide +kernel⟩
theorem yf_X11_isWithin : YfS yX11_isWithin cX11_isWithin 3 (some .boolean) 3 := ⟨⟨lwm (tb2 _ (List.mem_of_getElem? (i := 75) rfl)) rfl, lwm (tb1 _ (List.mem_of_getElem? (i := 1) rfl)) rfl, lwm (tb2 _ (List.mem_of_getElem? (i := 76) rfl)) rfl⟩, by decide +kernel⟩
theorem yf_X8_isFull : YfV yX8_isFull cX8_isFull 1 (some .boolean) 0 := ⟨⟨lwm (tb2 _ (List.mem_of_getElem? (i := 80) rfl)) rfl, lwm (tb2 _ (List.mem_of_getElem? (i := 81) rfl)) rfl, lwm (tb1 _ (List.mem_of_getElem? (i := 3) rfl)) rfl, lwm (tb2 _ (List.mem_of_getElem? (i := 82) rfl)) rfl⟩, by decide +kernel⟩
theorem yf_X11_refuse : YfS yX11_refuse cX11_refuse 1 none 1 := ⟨⟨lwm (tb2 _ (List.mem_of_getElem? (i := 88) rfl)) rfl, lwm (tb1 _ (List.mem_of_getElem? (i := 1) rfl)) rfl, lwm (tb2 _ (List.mem_of_getElem? (i := 89) rfl)) rfl⟩, by decide +kernel⟩
theorem yf_X4_push : YfV yX4_push cX4_push 3 none 1 := ⟨⟨lwm (tb2 _ (List.mem_of_getElem? (i := 235) rfl)) rfl, lwm (tb2 _ (List.mem_of_getElem? (i := 236) rfl)) rfl, lwm (tb1 _ (List.mem_of_getElem? (i := 7) rfl)) rfl, lwm (tb2 _ (List.mem_of_getElem? (i := 237) rfl)) rfl⟩, by decide +kernel⟩
theorem yf_J9_min_7cf53 : YfS yJ9_min_7cf53 cJ9_min_7cf53 2 (some .int) 2 := ⟨⟨lwm (tb2 _ (List.mem_of_getElem? (i := 239) rfl)) rfl, lwm (tb1 _ (List.mem_of_getElem? (i := 5) rfl)) rfl, lwm (tb3 _ (List.mem_of_getElem? (i := 0) rfl)) rfl⟩, by decide +kernel⟩
theorem yf_X4_newestRow : YfV yX4_newestRow cX4_newestRow 1 (some (.object "DropMarket$State")) 0 := ⟨⟨lwm (tb3 _ (List.mem_of_getElem? (i := 3) rfl)) rfl, lwm (List.mem_append_left _ (List.mem_of_getElem? (i := 1) rfl)) rfl, lwm (tb1 _ (List.mem_of_getElem? (i := 7) rfl)) rfl, lwm (tb3 _ (List.mem_of_getElem? (i := 4) rfl)) rfl⟩, by decide +kernel⟩
theorem yf_X9_copyFrom : YfV yX9_copyFrom cX9_copyFrom 2 none 1 := ⟨⟨lwm (tb3 _ (List.mem_of_getElem? (i := 6) rfl)) rfl, lwm (tb3 _ (List.mem_of_getElem? (i := 7) rfl)) rfl, lwm (tb1 _ (List.mem_of_getElem? (i := 2) rfl)) rfl, lwm (tb3 _ (List.mem_of_getElem? (i := 8) rfl)) rfl⟩, by decide +kernel⟩
theorem yf_X8_copyFrom : YfV yX8_copyFrom cX8_copyFrom 2 none 1 := ⟨⟨lwm (tb3 _ (List.mem_of_getElem? (i := 10) rfl)) rfl, lwm (tb3 _ (List.mem_of_getElem? (i := 11) rfl)) rfl, lwm (tb1 _ (List.mem_of_getElem? (i := 3) rfl)) rfl, lwm (tb3 _ (List.mem_of_getElem? (i := 12) rfl)) rfl⟩, by decide +kernel⟩
theorem yf_X7_copyFrom : YfV yX7_copyFrom cX7_copyFrom 3 none 1 := ⟨⟨lwm (tb3 _ (List.mem_of_getElem? (i := 14) rfl)) rfl, lwm (tb3 _ (List.mem_of_getElem? (i := 15) rfl)) rfl, lwm (tb1 _ (List.mem_of_getElem? (i := 4) rfl)) rfl, lwm (tb3 _ (List.mem_of_getElem? (i := 16) rfl)) rfl⟩, by decide +kernel⟩
theorem yf_X1_copyFrom : YfV yX1_copyFrom cX1_copyFrom 2 none 1 := ⟨⟨lwm (tb3 _ (List.mem_of_getElem? (i := 18) rfl)) rfl, lwm (tb3 _ (List.mem_of_getElem? (i := 19) rfl)) rfl, lwm (tb1 _ (List.mem_of_getElem? (i := 6) rfl)) rfl, lwm (tb3 _ (List.mem_of_getElem? (i := 20) rfl)) rfl⟩, by decide +kernel⟩
theorem yf_X8_open : YfV yX8_open cX8_open 4 (some .int) 2 := ⟨⟨lwm (tb3 _ (List.mem_of_getElem? (i := 23) rfl)) rfl, lwm (tb3 _ (List.mem_of_getElem? (i := 24) rfl)) rfl, lwm (tb1 _ (List.mem_of_getElem? (i := 3) rfl)) rfl, lwm (tb3 _ (List.mem_of_getElem? (i := 25) rfl)) rfl⟩, by decide +kernel⟩
theorem yf_X7_set : YfV yX7_set cX7_set 3 none 2 := ⟨⟨lwm (tb3 _ (List.mem_of_getElem? (i := 27) rfl)) rfl, lwm (tb3 _ (List.mem_of_getElem? (i := 28) rfl)) rfl, lwm (tb1 _ (List.mem_of_getElem? (i := 4) rfl)) rfl, lwm (tb3 _ (List.mem_of_getElem? (i := 29) rfl)) rfl⟩, by decide +kernel⟩
theorem yf_Jx00060_init_a7421 : YfI yJx00060_init_a7421 cJx00060_init_a7421 2 1 := ⟨⟨lwm (tb3 _ (List.mem_of_getElem? (i := 35) rfl)) rfl, lwm (tb1 _ (List.mem_of_getElem? (i := 25) rfl)) rfl, lwm (tb3 _ (List.mem_of_getElem? (i := 36) rfl)) rfl⟩, by decide +kernel⟩
theorem yf_X11_placeBuy : YfV yX11_placeBuy cX11_placeBuy 4 (some .int) 3 := ⟨⟨lwm (tb3 _ (List.mem_of_getElem? (i := 56) rfl)) rfl, lwm (tb3 _ (List.mem_of_getElem? (i := 57) rfl)) rfl, lwm (tb1 _ (List.mem_of_getElem? (i := 1) rfl)) rfl, lwm (tb3 _ (List.mem_of_getElem? (i := 58) rfl)) rfl⟩, by decide +kernel⟩
theorem yf_X11_placeOrder : YfV yX11_placeOrder cX11_placeOrder 7 (some .int) 6 := ⟨⟨lwm (tb3 _ (List.mem_of_getElem? (i := 61) rfl)) rfl, lwm (List.mem_append_left _ (List.mem_of_getElem? (i := 2) rfl)) rfl, lwm (tb1 _ (List.mem_of_getElem? (i := 1) rfl)) rfl, lwm (tb3 _ (List.mem_of_getElem? (i := 62) rfl)) rfl⟩, by decide +kernel⟩
theorem yf_X1_isFull : YfV yX1_isFull cX1_isFull 1 (some .boolean) 0 := ⟨⟨lwm (tb3 _ (List.mem_of_getElem? (i := 64) rfl)) rfl, lwm (tb3 _ (List.mem_of_getElem? (i := 65) rfl)) rfl, lwm (tb1 _ (List.mem_of_getElem? (i := 6) rfl)) rfl, lwm (tb3 _ (List.mem_of_getElem? (i := 66) rfl)) rfl⟩, by decide +kernel⟩
theorem yf_X9_orderFault : YfV yX9_orderFault cX9_orderFault 8 (some (.object "DropMarket$Fault")) 6 := ⟨⟨lwm (tb3 _ (List.mem_of_getElem? (i := 68) rfl)) rfl, lwm (tb3 _ (List.mem_of_getElem? (i := 69) rfl)) rfl, lwm (tb1 _ (List.mem_of_getElem? (i := 2) rfl)) rfl, lwm (tb3 _ (List.mem_of_getElem? (i := 70) rfl)) rfl⟩, by decide +kernel⟩
theorem yf_X8_has : YfV yX8_has cX8_has 2 (some .boolean) 1 := ⟨⟨lwm (tb3 _ (List.mem_of_getElem? (i := 72) rfl)) rfl, lwm (tb3 _ (List.mem_of_getElem? (i := 73) rfl)) rfl, lwm (tb1 _ (List.mem_of_getElem? (i := 3) rfl)) rfl, lwm (tb3 _ (List.mem_of_getElem? (i := 74) rfl)) rfl⟩, by decide +kernel⟩
theorem yf_X9_freeMoney : YfV yX9_freeMoney cX9_freeMoney 2 (some .int) 1 := ⟨⟨lwm (tb3 _ (List.mem_of_getElem? (i := 77) rfl)) rfl, lwm (tb3 _ (List.mem_of_getElem? (i := 78) rfl)) rfl, lwm (tb1 _ (List.mem_of_getElem? (i := 2) rfl)) rfl, lwm (tb3 _ (List.mem_of_getElem? (i := 79) rfl)) rfl⟩, by decide +kernel⟩
theorem yf_X7_get : YfV yX7_get cX7_get 2 (some .int) 1 := ⟨⟨lwm (tb3 _ (List.mem_of_getElem? (i := 81) rfl)) rfl, lwm (tb3 _ (List.mem_of_getElem? (i := 82) rfl)) rfl, lwm (tb1 _ (List.mem_of_getElem? (i := 4) rfl)) rfl, lwm (tb3 _ (List.mem_of_getElem? (i := 83) rfl)) rfl⟩, by decide +kernel⟩
theorem yf_X1_boundMoney : YfV yX1_boundMoney cX1_boundMoney 4 (some .int) 1 := ⟨⟨lwm (tb3 _ (List.mem_of_getElem? (i := 85) rfl)) rfl, lwm (tb3 _ (List.mem_of_getElem? (i := 86) rfl)) rfl, lwm (tb1 _ (List.mem_of_getElem? (i := 6) rfl)) rfl, lwm (tb3 _ (List.mem_of_getElem? (i := 87) rfl)) rfl⟩, by decide +kernel⟩
theorem yf_X1_buys : YfV yX1_buys cX1_buys 2 (some .boolean) 1 := ⟨⟨lwm (tb3 _ (List.mem_of_getElem? (i := 89) rfl)) rfl, lwm (tb3 _ (List.mem_of_getElem? (i := 90) rfl)) rfl, lwm (tb1 _ (List.mem_of_getElem? (i := 6) rfl)) rfl, lwm (tb3 _ (List.mem_of_getElem? (i := 91) rfl)) rfl⟩, by decide +kernel⟩
theorem yf_X9_freeDrops : YfV yX9_freeDrops cX9_freeDrops 2 (some .int) 1 := ⟨⟨lwm (tb3 _ (List.mem_of_getElem? (i := 94) rfl)) rfl, lwm (tb3 _ (List.mem_of_getElem? (i := 95) rfl)) rfl, lwm (tb1 _ (List.mem_of_getElem? (i := 2) rfl)) rfl, lwm (tb3 _ (List.mem_of_getElem? (i := 96) rfl)) rfl⟩, by decide +kernel⟩
theorem yf_X1_boundDrops : YfV yX1_boundDrops cX1_boundDrops 4 (some .int) 1 := ⟨⟨lwm (tb3 _ (List.mem_of_getElem? (i := 98) rfl)) rfl, lwm (tb3 _ (List.mem_of_getElem? (i := 99) rfl)) rfl, lwm (tb1 _ (List.mem_of_getElem? (i := 6) rfl)) rfl, lwm (tb3 _ (List.mem_of_getElem? (i := 100) rfl)) rfl⟩, by decide +kernel⟩
theorem yf_X9_place : YfV yX9_place cX9_place 8 (some .int) 5 := ⟨⟨lwm (tb3 _ (List.mem_of_getElem? (i := 103) rfl)) rfl, lwm (tb3 _ (List.mem_of_getElem? (i := 104) rfl)) rfl, lwm (tb1 _ (List.mem_of_getElem? (i := 2) rfl)) rfl, lwm (tb3 _ (List.mem_of_getElem? (i := 105) rfl)) rfl⟩, by decide +kernel⟩
theorem yf_X9_tradeNew : YfV yX9_tradeNew cX9_tradeNew 11 (some .int) 4 := ⟨⟨lwm (tb3 _ (List.mem_of_getElem? (i := 108) rfl)) rfl, lwm (List.mem_append_left _ (List.mem_of_getElem? (i := 3) rfl)) rfl, lwm (tb1 _ (List.mem_of_getElem? (i := 2) rfl)) rfl, lwm (tb3 _ (List.mem_of_getElem? (i := 109) rfl)) rfl⟩, by decide +kernel⟩
theorem yf_X1_bestSlot : YfV yX1_bestSlot cX1_bestSlot 4 (some .int) 1 := ⟨⟨lwm (tb3 _ (List.mem_of_getElem? (i := 111) rfl)) rfl, lwm (tb3 _ (List.mem_of_getElem? (i := 112) rfl)) rfl, lwm (tb1 _ (List.mem_of_getElem? (i := 6) rfl)) rfl, lwm (tb3 _ (List.mem_of_getElem? (i := 113) rfl)) rfl⟩, by decide +kernel⟩
theorem yf_X1_isAhead : YfV yX1_isAhead cX1_isAhead 5 (some .boolean) 3 := ⟨⟨lwm (tb3 _ (List.mem_of_getElem? (i := 116) rfl)) rfl, lwm (List.mem_append_left _ (List.mem_of_getElem? (i := 4) rfl)) rfl, lwm (tb1 _ (List.mem_of_getElem? (i := 6) rfl)) rfl, lwm (tb3 _ (List.mem_of_getElem? (i := 117) rfl)) rfl⟩, by decide +kernel⟩
theorem yf_X9_trade : YfV yX9_trade cX9_trade 6 none 4 := ⟨⟨lwm (tb3 _ (List.mem_of_getElem? (i := 121) rfl)) rfl, lwm (List.mem_append_left _ (List.mem_of_getElem? (i := 5) rfl)) rfl, lwm (tb1 _ (List.mem_of_getElem? (i := 2) rfl)) rfl, lwm (tb3 _ (List.mem_of_getElem? (i := 122) rfl)) rfl⟩, by decide +kernel⟩
theorem yf_X7_add : YfV yX7_add cX7_add 3 none 2 := ⟨⟨lwm (tb3 _ (List.mem_of_getElem? (i := 124) rfl)) rfl, lwm (tb3 _ (List.mem_of_getElem? (i := 125) rfl)) rfl, lwm (tb1 _ (List.mem_of_getElem? (i := 4) rfl)) rfl, lwm (tb3 _ (List.mem_of_getElem? (i := 126) rfl)) rfl⟩, by decide +kernel⟩
theorem yf_X1_reduce : YfV yX1_reduce cX1_reduce 3 none 2 := ⟨⟨lwm (tb3 _ (List.mem_of_getElem? (i := 128) rfl)) rfl, lwm (tb3 _ (List.mem_of_getElem? (i := 129) rfl)) rfl, lwm (tb1 _ (List.mem_of_getElem? (i := 6) rfl)) rfl, lwm (tb3 _ (List.mem_of_getElem? (i := 130) rfl)) rfl⟩, by decide +kernel⟩
theorem yf_X1_remove : YfV yX1_remove cX1_remove 2 none 1 := ⟨⟨lwm (tb3 _ (List.mem_of_getElem? (i := 133) rfl)) rfl, lwm (tb3 _ (List.mem_of_getElem? (i := 134) rfl)) rfl, lwm (tb1 _ (List.mem_of_getElem? (i := 6) rfl)) rfl, lwm (tb3 _ (List.mem_of_getElem? (i := 135) rfl)) rfl⟩, by decide +kernel⟩
theorem yf_X7_closeGap : YfV yX7_closeGap cX7_closeGap 3 none 1 := ⟨⟨lwm (tb3 _ (List.mem_of_getElem? (i := 137) rfl)) rfl, lwm (tb3 _ (List.mem_of_getElem? (i := 138) rfl)) rfl, lwm (tb1 _ (List.mem_of_getElem? (i := 4) rfl)) rfl, lwm (tb3 _ (List.mem_of_getElem? (i := 139) rfl)) rfl⟩, by decide +kernel⟩
theorem yf_X1_enter : YfV yX1_enter cX1_enter 7 none 6 := ⟨⟨lwm (tb3 _ (List.mem_of_getElem? (i := 141) rfl)) rfl, lwm (tb3 _ (List.mem_of_getElem? (i := 142) rfl)) rfl, lwm (tb1 _ (List.mem_of_getElem? (i := 6) rfl)) rfl, lwm (tb3 _ (List.mem_of_getElem? (i := 143) rfl)) rfl⟩, by decide +kernel⟩
theorem yf_X11_placeSell : YfV yX11_placeSell cX11_placeSell 4 (some .int) 3 := ⟨⟨lwm (tb3 _ (List.mem_of_getElem? (i := 149) rfl)) rfl, lwm (tb3 _ (List.mem_of_getElem? (i := 150) rfl)) rfl, lwm (tb1 _ (List.mem_of_getElem? (i := 1) rfl)) rfl, lwm (tb3 _ (List.mem_of_getElem? (i := 151) rfl)) rfl⟩, by decide +kernel⟩
theorem yf_X11_placeBuyFor : YfV yX11_placeBuyFor cX11_placeBuyFor 5 (some .int) 4 := ⟨⟨lwm (tb3 _ (List.mem_of_getElem? (i := 156) rfl)) rfl, lwm (tb3 _ (List.mem_of_getElem? (i := 157) rfl)) rfl, lwm (tb1 _ (List.mem_of_getElem? (i := 1) rfl)) rfl, lwm (tb3 _ (List.mem_of_getElem? (i := 158) rfl)) rfl⟩, by decide +kernel⟩
theorem yf_X11_placeSellFor : YfV yX11_placeSellFor cX11_placeSellFor 5 (some .int) 4 := ⟨⟨lwm (tb3 _ (List.mem_of_getElem? (i := 164) rfl)) rfl, lwm (tb3 _ (List.mem_of_getElem? (i := 165) rfl)) rfl, lwm (tb1 _ (List.mem_of_getElem? (i := 1) rfl)) rfl, lwm (tb3 _ (List.mem_of_getElem? (i := 166) rfl)) rfl⟩, by decide +kernel⟩
theorem yf_X11_takeBuy : YfV yX11_takeBuy cX11_takeBuy 4 (some .int) 3 := ⟨⟨lwm (tb3 _ (List.mem_of_getElem? (i := 171) rfl)) rfl, lwm (tb3 _ (List.mem_of_getElem? (i := 172) rfl)) rfl, lwm (tb1 _ (List.mem_of_getElem? (i := 1) rfl)) rfl, lwm (tb3 _ (List.mem_of_getElem? (i := 173) rfl)) rfl⟩, by decide +kernel⟩
theorem yf_X11_takeAtOnce : YfV yX11_takeAtOnce cX11_takeAtOnce 5 (some .int) 4 := ⟨⟨lwm (tb3 _ (List.mem_of_getElem? (i := 176) rfl)) rfl, lwm (List.mem_append_left _ (List.mem_of_getElem? (i := 6) rfl)) rfl, lwm (tb1 _ (List.mem_of_getElem? (i := 1) rfl)) rfl, lwm (tb3 _ (List.mem_of_getElem? (i := 177) rfl)) rfl⟩, by decide +kernel⟩
theorem yf_X9_take : YfV yX9_take cX9_take 5 (some .int) 4 := ⟨⟨lwm (tb3 _ (List.mem_of_getElem? (i := 179) rfl)) rfl, lwm (tb3 _ (List.mem_of_getElem? (i := 180) rfl)) rfl, lwm (tb1 _ (List.mem_of_getElem? (i := 2) rfl)) rfl, lwm (tb3 _ (List.mem_of_getElem? (i := 181) rfl)) rfl⟩, by decide +kernel⟩
theorem yf_X11_pass : YfV yX11_pass cX11_pass 2 (some .int) 1 := ⟨⟨lwm (tb3 _ (List.mem_of_getElem? (i := 186) rfl)) rfl, lwm (tb3 _ (List.mem_of_getElem? (i := 187) rfl)) rfl, lwm (tb1 _ (List.mem_of_getElem? (i := 1) rfl)) rfl, lwm (tb3 _ (List.mem_of_getElem? (i := 188) rfl)) rfl⟩, by decide +kernel⟩
theorem yf_X9_passFault : YfV yX9_passFault cX9_passFault 2 (some (.object "DropMarket$Fault")) 1 := ⟨⟨lwm (tb3 _ (List.mem_of_getElem? (i := 190) rfl)) rfl, lwm (tb3 _ (List.mem_of_getElem? (i := 191) rfl)) rfl, lwm (tb1 _ (List.mem_of_getElem? (i := 2) rfl)) rfl, lwm (tb3 _ (List.mem_of_getElem? (i := 192) rfl)) rfl⟩, by decide +kernel⟩
theorem yf_X9_letPass : YfV yX9_letPass cX9_letPass 5 (some .int) 1 := ⟨⟨lwm (tb3 _ (List.mem_of_getElem? (i := 194) rfl)) rfl, lwm (tb3 _ (List.mem_of_getElem? (i := 195) rfl)) rfl, lwm (tb1 _ (List.mem_of_getElem? (i := 2) rfl)) rfl, lwm (tb3 _ (List.mem_of_getElem? (i := 196) rfl)) rfl⟩, by decide +kernel⟩
theorem yf_X11_takeSell : YfV yX11_takeSell cX11_takeSell 4 (some .int) 3 := ⟨⟨lwm (tb3 _ (List.mem_of_getElem? (i := 203) rfl)) rfl, lwm (tb3 _ (List.mem_of_getElem? (i := 204) rfl)) rfl, lwm (tb1 _ (List.mem_of_getElem? (i := 1) rfl)) rfl, lwm (tb3 _ (List.mem_of_getElem? (i := 205) rfl)) rfl⟩, by decide +kernel⟩
theorem yf_X11_isPoolOpen : YfV yX11_isPoolOpen cX11_isPoolOpen 1 (some .boolean) 0 := ⟨⟨lwm (tb3 _ (List.mem_of_getElem? (i := 207) rfl)) rfl, lwm (tb3 _ (List.mem_of_getElem? (i := 208) rfl)) rfl, lwm (tb1 _ (List.mem_of_getElem? (i := 1) rfl)) rfl, lwm (tb3 _ (List.mem_of_getElem? (i := 209) rfl)) rfl⟩, by decide +kernel⟩
theorem yf_X11_closePool : YfV yX11_closePool cX11_closePool 1 (some .int) 0 := ⟨⟨lwm (tb3 _ (List.mem_of_getElem? (i := 214) rfl)) rfl, lwm (tb3 _ (List.mem_of_getElem? (i := 215) rfl)) rfl, lwm (tb1 _ (List.mem_of_getElem? (i := 1) rfl)) rfl, lwm (tb3 _ (List.mem_of_getElem? (i := 216) rfl)) rfl⟩, by decide +kernel⟩
theorem yf_X9_closeFault : YfV yX9_closeFault cX9_closeFault 1 (some (.object "DropMarket$Fault")) 0 := ⟨⟨lwm (tb3 _ (List.mem_of_getElem? (i := 218) rfl)) rfl, lwm (tb3 _ (List.mem_of_getElem? (i := 219) rfl)) rfl, lwm (tb1 _ (List.mem_of_getElem? (i := 2) rfl)) rfl, lwm (tb3 _ (List.mem_of_getElem? (i := 220) rfl)) rfl⟩, by decide +kernel⟩
theorem yf_X9_endPool : YfV yX9_endPool cX9_endPool 2 (some .int) 0 := ⟨⟨lwm (tb3 _ (List.mem_of_getElem? (i := 222) rfl)) rfl, lwm (tb3 _ (List.mem_of_getElem? (i := 223) rfl)) rfl, lwm (tb1 _ (List.mem_of_getElem? (i := 2) rfl)) rfl, lwm (tb3 _ (List.mem_of_getElem? (i := 224) rfl)) rfl⟩, by decide +kernel⟩
theorem yf_X1_poolByTrying : YfV yX1_poolByTrying cX1_poolByTrying 3 (some (.object "DropMarket$PoolChoice")) 0 := ⟨⟨lwm (tb3 _ (List.mem_of_getElem? (i := 226) rfl)) rfl, lwm (tb3 _ (List.mem_of_getElem? (i := 227) rfl)) rfl, lwm (tb1 _ (List.mem_of_getElem? (i := 6) rfl)) rfl, lwm (tb3 _ (List.mem_of_getElem? (i := 228) rfl)) rfl⟩, by decide +kernel⟩
theorem yf_X5_init : YfI yX5_init cX5_init 1 0 := ⟨⟨lwm (tb3 _ (List.mem_of_getElem? (i := 232) rfl)) rfl, lwm (tb1 _ (List.mem_of_getElem? (i := 26) rfl)) rfl, lwm (tb3 _ (List.mem_of_getElem? (i := 233) rfl)) rfl⟩, by decide +kernel⟩
theorem yf_X1_demand : YfV yX1_demand cX1_demand 4 (some .int) 1 := ⟨⟨lwm (tb4 _ (List.mem_of_getElem? (i := 9) rfl)) rfl, lwm (tb4 _ (List.mem_of_getElem? (i := 10) rfl)) rfl, lwm (tb1 _ (List.mem_of_getElem? (i := 6) rfl)) rfl, lwm (tb4 _ (List.mem_of_getElem? (i := 11) rfl)) rfl⟩, by decide +kernel⟩
theorem yf_X1_supply : YfV yX1_supply cX1_supply 4 (some .int) 1 := ⟨⟨lwm (tb4 _ (List.mem_of_getElem? (i := 13) rfl)) rfl, lwm (tb4 _ (List.mem_of_getElem? (i := 14) rfl)) rfl, lwm (tb1 _ (List.mem_of_getElem? (i := 6) rfl)) rfl, lwm (tb4 _ (List.mem_of_getElem? (i := 15) rfl)) rfl⟩, by decide +kernel⟩
theorem yf_X5_consider : YfV yX5_consider cX5_consider 6 none 3 := ⟨⟨lwm (tb4 _ (List.mem_of_getElem? (i := 17) rfl)) rfl, lwm (tb4 _ (List.mem_of_getElem? (i := 18) rfl)) rfl, lwm (tb1 _ (List.mem_of_getElem? (i := 26) rfl)) rfl, lwm (tb4 _ (List.mem_of_getElem? (i := 19) rfl)) rfl⟩, by decide +kernel⟩
theorem yf_J9_abs_0f7a4 : YfS yJ9_abs_0f7a4 cJ9_abs_0f7a4 1 (some .int) 1 := ⟨⟨lwm (tb4 _ (List.mem_of_getElem? (i := 22) rfl)) rfl, lwm (tb1 _ (List.mem_of_getElem? (i := 5) rfl)) rfl, lwm (tb4 _ (List.mem_of_getElem? (i := 23) rfl)) rfl⟩, by decide +kernel⟩
theorem yf_X9_tradePool : YfV yX9_tradePool cX9_tradePool 9 none 2 := ⟨⟨lwm (tb4 _ (List.mem_of_getElem? (i := 26) rfl)) rfl, lwm (List.mem_append_left _ (List.mem_of_getElem? (i := 7) rfl)) rfl, lwm (tb1 _ (List.mem_of_getElem? (i := 2) rfl)) rfl, lwm (tb4 _ (List.mem_of_getElem? (i := 27) rfl)) rfl⟩, by decide +kernel⟩
theorem yf_X1_clear : YfV yX1_clear cX1_clear 1 none 0 := ⟨⟨lwm (tb4 _ (List.mem_of_getElem? (i := 30) rfl)) rfl, lwm (tb4 _ (List.mem_of_getElem? (i := 31) rfl)) rfl, lwm (tb1 _ (List.mem_of_getElem? (i := 6) rfl)) rfl, lwm (tb4 _ (List.mem_of_getElem? (i := 32) rfl)) rfl⟩, by decide +kernel⟩
theorem yf_X11_openPool : YfV yX11_openPool cX11_openPool 1 (some .int) 0 := ⟨⟨lwm (tb4 _ (List.mem_of_getElem? (i := 37) rfl)) rfl, lwm (tb4 _ (List.mem_of_getElem? (i := 38) rfl)) rfl, lwm (tb1 _ (List.mem_of_getElem? (i := 1) rfl)) rfl, lwm (tb4 _ (List.mem_of_getElem? (i := 39) rfl)) rfl⟩, by decide +kernel⟩
theorem yf_X9_openFault : YfV yX9_openFault cX9_openFault 1 (some (.object "DropMarket$Fault")) 0 := ⟨⟨lwm (tb4 _ (List.mem_of_getElem? (i := 41) rfl)) rfl, lwm (tb4 _ (List.mem_of_getElem? (i := 42) rfl)) rfl, lwm (tb1 _ (List.mem_of_getElem? (i := 2) rfl)) rfl, lwm (tb4 _ (List.mem_of_getElem? (i := 43) rfl)) rfl⟩, by decide +kernel⟩
theorem yf_X9_startPool : YfV yX9_startPool cX9_startPool 1 (some .int) 0 := ⟨⟨lwm (tb4 _ (List.mem_of_getElem? (i := 45) rfl)) rfl, lwm (tb4 _ (List.mem_of_getElem? (i := 46) rfl)) rfl, lwm (tb1 _ (List.mem_of_getElem? (i := 2) rfl)) rfl, lwm (tb4 _ (List.mem_of_getElem? (i := 47) rfl)) rfl⟩, by decide +kernel⟩
theorem yf_L_stalls : YfS yL_stalls cL_stalls 10 (some .boolean) 1 := ⟨⟨lwm (tb4 _ (List.mem_of_getElem? (i := 49) rfl)) rfl, lwm (tb1 _ (List.mem_of_getElem? (i := 0) rfl)) rfl, lwm (tb4 _ (List.mem_of_getElem? (i := 50) rfl)) rfl⟩, by decide +kernel⟩
theorem yf_X11_stallCount : YfV yX11_stallCount cX11_stallCount 1 (some .int) 0 := ⟨⟨lwm (tb4 _ (List.mem_of_getElem? (i := 52) rfl)) rfl, lwm (tb4 _ (List.mem_of_getElem? (i := 53) rfl)) rfl, lwm (tb1 _ (List.mem_of_getElem? (i := 1) rfl)) rfl, lwm (tb4 _ (List.mem_of_getElem? (i := 54) rfl)) rfl⟩, by decide +kernel⟩
theorem yf_X11_moneyOf : YfV yX11_moneyOf cX11_moneyOf 2 (some .int) 1 := ⟨⟨lwm (tb4 _ (List.mem_of_getElem? (i := 59) rfl)) rfl, lwm (tb4 _ (List.mem_of_getElem? (i := 60) rfl)) rfl, lwm (tb1 _ (List.mem_of_getElem? (i := 1) rfl)) rfl, lwm (tb4 _ (List.mem_of_getElem? (i := 61) rfl)) rfl⟩, by decide +kernel⟩
theorem yf_X11_requireStall : YfV yX11_requireStall cX11_requireStall 2 none 1 := ⟨⟨lwm (tb4 _ (List.mem_of_getElem? (i := 64) rfl)) rfl, lwm (List.mem_append_left _ (List.mem_of_getElem? (i := 8) rfl)) rfl, lwm (tb1 _ (List.mem_of_getElem? (i := 1) rfl)) rfl, lwm (tb4 _ (List.mem_of_getElem? (i := 65) rfl)) rfl⟩, by decide +kernel⟩
theorem yf_X11_dropsOf : YfV yX11_dropsOf cX11_dropsOf 2 (some .int) 1 := ⟨⟨lwm (tb4 _ (List.mem_of_getElem? (i := 72) rfl)) rfl, lwm (tb4 _ (List.mem_of_getElem? (i := 73) rfl)) rfl, lwm (tb1 _ (List.mem_of_getElem? (i := 1) rfl)) rfl, lwm (tb4 _ (List.mem_of_getElem? (i := 74) rfl)) rfl⟩, by decide +kernel⟩
theorem yf_X11_orderCount : YfV yX11_orderCount cX11_orderCount 1 (some .int) 0 := ⟨⟨lwm (tb4 _ (List.mem_of_getElem? (i := 76) rfl)) rfl, lwm (tb4 _ (List.mem_of_getElem? (i := 77) rfl)) rfl, lwm (tb1 _ (List.mem_of_getElem? (i := 1) rfl)) rfl, lwm (tb4 _ (List.mem_of_getElem? (i := 78) rfl)) rfl⟩, by decide +kernel⟩
theorem yf_X11_orderAt : YfV yX11_orderAt cX11_orderAt 2 (some .int) 1 := ⟨⟨lwm (tb4 _ (List.mem_of_getElem? (i := 80) rfl)) rfl, lwm (tb4 _ (List.mem_of_getElem? (i := 81) rfl)) rfl, lwm (tb1 _ (List.mem_of_getElem? (i := 1) rfl)) rfl, lwm (tb4 _ (List.mem_of_getElem? (i := 82) rfl)) rfl⟩, by decide +kernel⟩
theorem yf_X11_stallOf : YfV yX11_stallOf cX11_stallOf 2 (some .int) 1 := ⟨⟨lwm (tb4 _ (List.mem_of_getElem? (i := 85) rfl)) rfl, lwm (tb4 _ (List.mem_of_getElem? (i := 86) rfl)) rfl, lwm (tb1 _ (List.mem_of_getElem? (i := 1) rfl)) rfl, lwm (tb4 _ (List.mem_of_getElem? (i := 87) rfl)) rfl⟩, by decide +kernel⟩
theorem yf_X11_requireSlot : YfV yX11_requireSlot cX11_requireSlot 3 (some .int) 1 := ⟨⟨lwm (tb4 _ (List.mem_of_getElem? (i := 90) rfl)) rfl, lwm (List.mem_append_left _ (List.mem_of_getElem? (i := 9) rfl)) rfl, lwm (tb1 _ (List.mem_of_getElem? (i := 1) rfl)) rfl, lwm (tb4 _ (List.mem_of_getElem? (i := 91) rfl)) rfl⟩, by decide +kernel⟩
theorem yf_X1_slotOf : YfV yX1_slotOf cX1_slotOf 3 (some .int) 1 := ⟨⟨lwm (tb4 _ (List.mem_of_getElem? (i := 93) rfl)) rfl, lwm (tb4 _ (List.mem_of_getElem? (i := 94) rfl)) rfl, lwm (tb1 _ (List.mem_of_getElem? (i := 6) rfl)) rfl, lwm (tb4 _ (List.mem_of_getElem? (i := 95) rfl)) rfl⟩, by decide +kernel⟩
theorem yf_X11_isBuying : YfV yX11_isBuying cX11_isBuying 2 (some .boolean) 1 := ⟨⟨lwm (tb4 _ (List.mem_of_getElem? (i := 97) rfl)) rfl, lwm (tb4 _ (List.mem_of_getElem? (i := 98) rfl)) rfl, lwm (tb1 _ (List.mem_of_getElem? (i := 1) rfl)) rfl, lwm (tb4 _ (List.mem_of_getElem? (i := 99) rfl)) rfl⟩, by decide +kernel⟩
theorem yf_X11_priceOf : YfV yX11_priceOf cX11_priceOf 2 (some .int) 1 := ⟨⟨lwm (tb4 _ (List.mem_of_getElem? (i := 102) rfl)) rfl, lwm (tb4 _ (List.mem_of_getElem? (i := 103) rfl)) rfl, lwm (tb1 _ (List.mem_of_getElem? (i := 1) rfl)) rfl, lwm (tb4 _ (List.mem_of_getElem? (i := 104) rfl)) rfl⟩, by decide +kernel⟩
theorem yf_X11_quantityOf : YfV yX11_quantityOf cX11_quantityOf 2 (some .int) 1 := ⟨⟨lwm (tb4 _ (List.mem_of_getElem? (i := 106) rfl)) rfl, lwm (tb4 _ (List.mem_of_getElem? (i := 107) rfl)) rfl, lwm (tb1 _ (List.mem_of_getElem? (i := 1) rfl)) rfl, lwm (tb4 _ (List.mem_of_getElem? (i := 108) rfl)) rfl⟩, by decide +kernel⟩
theorem yf_X11_stallByMoney : YfV yX11_stallByMoney cX11_stallByMoney 3 (some .int) 1 := ⟨⟨lwm (tb4 _ (List.mem_of_getElem? (i := 114) rfl)) rfl, lwm (tb4 _ (List.mem_of_getElem? (i := 115) rfl)) rfl, lwm (tb1 _ (List.mem_of_getElem? (i := 1) rfl)) rfl, lwm (tb4 _ (List.mem_of_getElem? (i := 116) rfl)) rfl⟩, by decide +kernel⟩
theorem yf_X8_withRank : YfV yX8_withRank cX8_withRank 3 (some .int) 1 := ⟨⟨lwm (tb4 _ (List.mem_of_getElem? (i := 118) rfl)) rfl, lwm (tb4 _ (List.mem_of_getElem? (i := 119) rfl)) rfl, lwm (tb1 _ (List.mem_of_getElem? (i := 3) rfl)) rfl, lwm (tb4 _ (List.mem_of_getElem? (i := 120) rfl)) rfl⟩, by decide +kernel⟩
theorem yf_X8_rankOf : YfV yX8_rankOf cX8_rankOf 5 (some .int) 1 := ⟨⟨lwm (tb4 _ (List.mem_of_getElem? (i := 123) rfl)) rfl, lwm (List.mem_append_left _ (List.mem_of_getElem? (i := 10) rfl)) rfl, lwm (tb1 _ (List.mem_of_getElem? (i := 3) rfl)) rfl, lwm (tb4 _ (List.mem_of_getElem? (i := 124) rfl)) rfl⟩, by decide +kernel⟩
theorem yf_X11_freeMoneyOf : YfV yX11_freeMoneyOf cX11_freeMoneyOf 2 (some .int) 1 := ⟨⟨lwm (tb4 _ (List.mem_of_getElem? (i := 131) rfl)) rfl, lwm (tb4 _ (List.mem_of_getElem? (i := 132) rfl)) rfl, lwm (tb1 _ (List.mem_of_getElem? (i := 1) rfl)) rfl, lwm (tb4 _ (List.mem_of_getElem? (i := 133) rfl)) rfl⟩, by decide +kernel⟩
theorem yf_X11_freeDropsOf : YfV yX11_freeDropsOf cX11_freeDropsOf 2 (some .int) 1 := ⟨⟨lwm (tb4 _ (List.mem_of_getElem? (i := 139) rfl)) rfl, lwm (tb4 _ (List.mem_of_getElem? (i := 140) rfl)) rfl, lwm (tb1 _ (List.mem_of_getElem? (i := 1) rfl)) rfl, lwm (tb4 _ (List.mem_of_getElem? (i := 141) rfl)) rfl⟩, by decide +kernel⟩
theorem yf_X11_totalMoney : YfV yX11_totalMoney cX11_totalMoney 1 (some .int) 0 := ⟨⟨lwm (tb4 _ (List.mem_of_getElem? (i := 144) rfl)) rfl, lwm (tb4 _ (List.mem_of_getElem? (i := 145) rfl)) rfl, lwm (tb1 _ (List.mem_of_getElem? (i := 1) rfl)) rfl, lwm (tb4 _ (List.mem_of_getElem? (i := 146) rfl)) rfl⟩, by decide +kernel⟩
theorem yf_X7_sum : YfV yX7_sum cX7_sum 6 (some .int) 0 := ⟨⟨lwm (tb4 _ (List.mem_of_getElem? (i := 148) rfl)) rfl, lwm (tb4 _ (List.mem_of_getElem? (i := 149) rfl)) rfl, lwm (tb1 _ (List.mem_of_getElem? (i := 4) rfl)) rfl, lwm (tb4 _ (List.mem_of_getElem? (i := 150) rfl)) rfl⟩, by decide +kernel⟩
theorem yf_X11_totalDrops : YfV yX11_totalDrops cX11_totalDrops 1 (some .int) 0 := ⟨⟨lwm (tb4 _ (List.mem_of_getElem? (i := 152) rfl)) rfl, lwm (tb4 _ (List.mem_of_getElem? (i := 153) rfl)) rfl, lwm (tb1 _ (List.mem_of_getElem? (i := 1) rfl)) rfl, lwm (tb4 _ (List.mem_of_getElem? (i := 154) rfl)) rfl⟩, by decide +kernel⟩
theorem yf_L_book : YfS yL_book cL_book 11 (some .boolean) 1 := ⟨⟨lwm (tb4 _ (List.mem_of_getElem? (i := 156) rfl)) rfl, lwm (tb1 _ (List.mem_of_getElem? (i := 0) rfl)) rfl, lwm (tb4 _ (List.mem_of_getElem? (i := 157) rfl)) rfl⟩, by decide +kernel⟩
theorem yf_X11_minutesLeft : YfV yX11_minutesLeft cX11_minutesLeft 3 (some .int) 1 := ⟨⟨lwm (tb4 _ (List.mem_of_getElem? (i := 174) rfl)) rfl, lwm (tb4 _ (List.mem_of_getElem? (i := 175) rfl)) rfl, lwm (tb1 _ (List.mem_of_getElem? (i := 1) rfl)) rfl, lwm (tb4 _ (List.mem_of_getElem? (i := 176) rfl)) rfl⟩, by decide +kernel⟩
theorem yf_X11_buyingAt : YfV yX11_buyingAt cX11_buyingAt 2 (some .int) 1 := ⟨⟨lwm (tb4 _ (List.mem_of_getElem? (i := 185) rfl)) rfl, lwm (tb4 _ (List.mem_of_getElem? (i := 186) rfl)) rfl, lwm (tb1 _ (List.mem_of_getElem? (i := 1) rfl)) rfl, lwm (tb4 _ (List.mem_of_getElem? (i := 187) rfl)) rfl⟩, by decide +kernel⟩
theorem yf_X11_requirePrice : YfS yX11_requirePrice cX11_requirePrice 1 none 1 := ⟨⟨lwm (tb4 _ (List.mem_of_getElem? (i := 189) rfl)) rfl, lwm (tb1 _ (List.mem_of_getElem? (i := 1) rfl)) rfl, lwm (tb4 _ (List.mem_of_getElem? (i := 190) rfl)) rfl⟩, by decide +kernel⟩
theorem yf_X1_quantityAt : YfV yX1_quantityAt cX1_quantityAt 5 (some .int) 2 := ⟨⟨lwm (tb4 _ (List.mem_of_getElem? (i := 193) rfl)) rfl, lwm (tb4 _ (List.mem_of_getElem? (i := 194) rfl)) rfl, lwm (tb1 _ (List.mem_of_getElem? (i := 6) rfl)) rfl, lwm (tb4 _ (List.mem_of_getElem? (i := 195) rfl)) rfl⟩, by decide +kernel⟩
theorem yf_X11_sellingAt : YfV yX11_sellingAt cX11_sellingAt 2 (some .int) 1 := ⟨⟨lwm (tb4 _ (List.mem_of_getElem? (i := 200) rfl)) rfl, lwm (tb4 _ (List.mem_of_getElem? (i := 201) rfl)) rfl, lwm (tb1 _ (List.mem_of_getElem? (i := 1) rfl)) rfl, lwm (tb4 _ (List.mem_of_getElem? (i := 202) rfl)) rfl⟩, by decide +kernel⟩
theorem yf_X11_buyingShare : YfV yX11_buyingShare cX11_buyingShare 1 (some .float) 0 := ⟨⟨lwm (tb4 _ (List.mem_of_getElem? (i := 204) rfl)) rfl, lwm (tb4 _ (List.mem_of_getElem? (i := 205) rfl)) rfl, lwm (tb1 _ (List.mem_of_getElem? (i := 1) rfl)) rfl, lwm (tb4 _ (List.mem_of_getElem? (i := 206) rfl)) rfl⟩, by decide +kernel⟩
theorem yf_X1_buyingOrders : YfV yX1_buyingOrders cX1_buyingOrders 3 (some .int) 0 := ⟨⟨lwm (tb4 _ (List.mem_of_getElem? (i := 224) rfl)) rfl, lwm (tb4 _ (List.mem_of_getElem? (i := 225) rfl)) rfl, lwm (tb1 _ (List.mem_of_getElem? (i := 6) rfl)) rfl, lwm (tb4 _ (List.mem_of_getElem? (i := 226) rfl)) rfl⟩, by decide +kernel⟩
theorem yf_X11_bestBuy : YfV yX11_bestBuy cX11_bestBuy 1 (some .int) 0 := ⟨⟨lwm (tb4 _ (List.mem_of_getElem? (i := 231) rfl)) rfl, lwm (tb4 _ (List.mem_of_getElem? (i := 232) rfl)) rfl, lwm (tb1 _ (List.mem_of_getElem? (i := 1) rfl)) rfl, lwm (tb4 _ (List.mem_of_getElem? (i := 233) rfl)) rfl⟩, by decide +kernel⟩
theorem yf_X11_bestOrder : YfV yX11_bestOrder cX11_bestOrder 3 (some .int) 1 := ⟨⟨lwm (tb4 _ (List.mem_of_getElem? (i := 236) rfl)) rfl, lwm (List.mem_append_left _ (List.mem_of_getElem? (i := 11) rfl)) rfl, lwm (tb1 _ (List.mem_of_getElem? (i := 1) rfl)) rfl, lwm (tb4 _ (List.mem_of_getElem? (i := 237) rfl)) rfl⟩, by decide +kernel⟩
theorem yf_X11_bestSell : YfV yX11_bestSell cX11_bestSell 1 (some .int) 0 := ⟨⟨lwm (tb5 _ (List.mem_of_getElem? (i := 4) rfl)) rfl, lwm (tb5 _ (List.mem_of_getElem? (i := 5) rfl)) rfl, lwm (tb1 _ (List.mem_of_getElem? (i := 1) rfl)) rfl, lwm (tb5 _ (List.mem_of_getElem? (i := 6) rfl)) rfl⟩, by decide +kernel⟩
theorem yf_X11_spread : YfV yX11_spread cX11_spread 1 (some .int) 0 := ⟨⟨lwm (tb5 _ (List.mem_of_getElem? (i := 11) rfl)) rfl, lwm (tb5 _ (List.mem_of_getElem? (i := 12) rfl)) rfl, lwm (tb1 _ (List.mem_of_getElem? (i := 1) rfl)) rfl, lwm (tb5 _ (List.mem_of_getElem? (i := 13) rfl)) rfl⟩, by decide +kernel⟩
theorem yf_X1_spreadOfBest : YfV yX1_spreadOfBest cX1_spreadOfBest 3 (some .int) 0 := ⟨⟨lwm (tb5 _ (List.mem_of_getElem? (i := 15) rfl)) rfl, lwm (tb5 _ (List.mem_of_getElem? (i := 16) rfl)) rfl, lwm (tb1 _ (List.mem_of_getElem? (i := 6) rfl)) rfl, lwm (tb5 _ (List.mem_of_getElem? (i := 17) rfl)) rfl⟩, by decide +kernel⟩
theorem yf_X11_requireSpread : YfS yX11_requireSpread cX11_requireSpread 1 (some .int) 1 := ⟨⟨lwm (tb5 _ (List.mem_of_getElem? (i := 20) rfl)) rfl, lwm (tb1 _ (List.mem_of_getElem? (i := 1) rfl)) rfl, lwm (tb5 _ (List.mem_of_getElem? (i := 21) rfl)) rfl⟩, by decide +kernel⟩
theorem yf_X11_spreadBySums : YfV yX11_spreadBySums cX11_spreadBySums 1 (some .int) 0 := ⟨⟨lwm (tb5 _ (List.mem_of_getElem? (i := 27) rfl)) rfl, lwm (tb5 _ (List.mem_of_getElem? (i := 28) rfl)) rfl, lwm (tb1 _ (List.mem_of_getElem? (i := 1) rfl)) rfl, lwm (tb5 _ (List.mem_of_getElem? (i := 29) rfl)) rfl⟩, by decide +kernel⟩
theorem yf_X6_gather : YfV yX6_gather cX6_gather 4 none 1 := ⟨⟨lwm (tb5 _ (List.mem_of_getElem? (i := 31) rfl)) rfl, lwm (tb5 _ (List.mem_of_getElem? (i := 32) rfl)) rfl, lwm (tb1 _ (List.mem_of_getElem? (i := 8) rfl)) rfl, lwm (tb5 _ (List.mem_of_getElem? (i := 33) rfl)) rfl⟩, by decide +kernel⟩
theorem yf_X7_clear : YfV yX7_clear cX7_clear 2 none 0 := ⟨⟨lwm (tb5 _ (List.mem_of_getElem? (i := 35) rfl)) rfl, lwm (tb5 _ (List.mem_of_getElem? (i := 36) rfl)) rfl, lwm (tb1 _ (List.mem_of_getElem? (i := 4) rfl)) rfl, lwm (tb5 _ (List.mem_of_getElem? (i := 37) rfl)) rfl⟩, by decide +kernel⟩
theorem yf_X6_spreadOfSums : YfV yX6_spreadOfSums cX6_spreadOfSums 4 (some .int) 0 := ⟨⟨lwm (tb5 _ (List.mem_of_getElem? (i := 42) rfl)) rfl, lwm (tb5 _ (List.mem_of_getElem? (i := 43) rfl)) rfl, lwm (tb1 _ (List.mem_of_getElem? (i := 8) rfl)) rfl, lwm (tb5 _ (List.mem_of_getElem? (i := 44) rfl)) rfl⟩, by decide +kernel⟩
theorem yf_L_pool : YfS yL_pool cL_pool 10 (some .boolean) 1 := ⟨⟨lwm (tb5 _ (List.mem_of_getElem? (i := 46) rfl)) rfl, lwm (tb1 _ (List.mem_of_getElem? (i := 0) rfl)) rfl, lwm (tb5 _ (List.mem_of_getElem? (i := 47) rfl)) rfl⟩, by decide +kernel⟩
theorem yf_X11_volumeAt : YfV yX11_volumeAt cX11_volumeAt 2 (some .int) 1 := ⟨⟨lwm (tb5 _ (List.mem_of_getElem? (i := 52) rfl)) rfl, lwm (tb5 _ (List.mem_of_getElem? (i := 53) rfl)) rfl, lwm (tb1 _ (List.mem_of_getElem? (i := 1) rfl)) rfl, lwm (tb5 _ (List.mem_of_getElem? (i := 54) rfl)) rfl⟩, by decide +kernel⟩
theorem yf_X1_volume : YfV yX1_volume cX1_volume 2 (some .int) 1 := ⟨⟨lwm (tb5 _ (List.mem_of_getElem? (i := 56) rfl)) rfl, lwm (tb5 _ (List.mem_of_getElem? (i := 57) rfl)) rfl, lwm (tb1 _ (List.mem_of_getElem? (i := 6) rfl)) rfl, lwm (tb5 _ (List.mem_of_getElem? (i := 58) rfl)) rfl⟩, by decide +kernel⟩
theorem yf_X11_tradeCount : YfV yX11_tradeCount cX11_tradeCount 1 (some .int) 0 := ⟨⟨lwm (tb5 _ (List.mem_of_getElem? (i := 61) rfl)) rfl, lwm (tb5 _ (List.mem_of_getElem? (i := 62) rfl)) rfl, lwm (tb1 _ (List.mem_of_getElem? (i := 1) rfl)) rfl, lwm (tb5 _ (List.mem_of_getElem? (i := 63) rfl)) rfl⟩, by decide +kernel⟩
theorem yf_X11_meanPrice : YfV yX11_meanPrice cX11_meanPrice 1 (some .double) 0 := ⟨⟨lwm (tb5 _ (List.mem_of_getElem? (i := 65) rfl)) rfl, lwm (tb5 _ (List.mem_of_getElem? (i := 66) rfl)) rfl, lwm (tb1 _ (List.mem_of_getElem? (i := 1) rfl)) rfl, lwm (tb5 _ (List.mem_of_getElem? (i := 67) rfl)) rfl⟩, by decide +kernel⟩
theorem yf_X11_turnover : YfV yX11_turnover cX11_turnover 1 (some .long) 0 := ⟨⟨lwm (tb5 _ (List.mem_of_getElem? (i := 70) rfl)) rfl, lwm (tb5 _ (List.mem_of_getElem? (i := 71) rfl)) rfl, lwm (tb1 _ (List.mem_of_getElem? (i := 1) rfl)) rfl, lwm (tb5 _ (List.mem_of_getElem? (i := 72) rfl)) rfl⟩, by decide +kernel⟩
theorem yf_X11_tradedQuantity : YfV yX11_tradedQuantity cX11_tradedQuantity 1 (some .int) 0 := ⟨⟨lwm (tb5 _ (List.mem_of_getElem? (i := 74) rfl)) rfl, lwm (tb5 _ (List.mem_of_getElem? (i := 75) rfl)) rfl, lwm (tb1 _ (List.mem_of_getElem? (i := 1) rfl)) rfl, lwm (tb5 _ (List.mem_of_getElem? (i := 76) rfl)) rfl⟩, by decide +kernel⟩
theorem yf_X11_lastPrice : YfV yX11_lastPrice cX11_lastPrice 1 (some .int) 0 := ⟨⟨lwm (tb5 _ (List.mem_of_getElem? (i := 81) rfl)) rfl, lwm (tb5 _ (List.mem_of_getElem? (i := 82) rfl)) rfl, lwm (tb1 _ (List.mem_of_getElem? (i := 1) rfl)) rfl, lwm (tb5 _ (List.mem_of_getElem? (i := 83) rfl)) rfl⟩, by decide +kernel⟩
theorem yf_X11_poolPrice : YfV yX11_poolPrice cX11_poolPrice 1 (some .int) 0 := ⟨⟨lwm (tb5 _ (List.mem_of_getElem? (i := 88) rfl)) rfl, lwm (tb5 _ (List.mem_of_getElem? (i := 89) rfl)) rfl, lwm (tb1 _ (List.mem_of_getElem? (i := 1) rfl)) rfl, lwm (tb5 _ (List.mem_of_getElem? (i := 90) rfl)) rfl⟩, by decide +kernel⟩
theorem yf_X11_requirePoolPrice : YfS yX11_requirePoolPrice cX11_requirePoolPrice 1 (some .int) 1 := ⟨⟨lwm (tb5 _ (List.mem_of_getElem? (i := 93) rfl)) rfl, lwm (tb1 _ (List.mem_of_getElem? (i := 1) rfl)) rfl, lwm (tb5 _ (List.mem_of_getElem? (i := 94) rfl)) rfl⟩, by decide +kernel⟩
theorem yf_X11_poolPriceBySums : YfV yX11_poolPriceBySums cX11_poolPriceBySums 1 (some .int) 0 := ⟨⟨lwm (tb5 _ (List.mem_of_getElem? (i := 100) rfl)) rfl, lwm (tb5 _ (List.mem_of_getElem? (i := 101) rfl)) rfl, lwm (tb1 _ (List.mem_of_getElem? (i := 1) rfl)) rfl, lwm (tb5 _ (List.mem_of_getElem? (i := 102) rfl)) rfl⟩, by decide +kernel⟩
theorem yf_X6_poolBySums : YfV yX6_poolBySums cX6_poolBySums 5 (some (.object "DropMarket$PoolChoice")) 0 := ⟨⟨lwm (tb5 _ (List.mem_of_getElem? (i := 104) rfl)) rfl, lwm (tb5 _ (List.mem_of_getElem? (i := 105) rfl)) rfl, lwm (tb1 _ (List.mem_of_getElem? (i := 8) rfl)) rfl, lwm (tb5 _ (List.mem_of_getElem? (i := 106) rfl)) rfl⟩, by decide +kernel⟩
theorem yf_X11_isConsistent : YfV yX11_isConsistent cX11_isConsistent 1 (some .boolean) 0 := ⟨⟨lwm (tb5 _ (List.mem_of_getElem? (i := 112) rfl)) rfl, lwm (tb5 _ (List.mem_of_getElem? (i := 113) rfl)) rfl, lwm (tb1 _ (List.mem_of_getElem? (i := 1) rfl)) rfl, lwm (tb5 _ (List.mem_of_getElem? (i := 114) rfl)) rfl⟩, by decide +kernel⟩
theorem yf_X9_isCovered : YfV yX9_isCovered cX9_isCovered 2 (some .boolean) 0 := ⟨⟨lwm (tb5 _ (List.mem_of_getElem? (i := 116) rfl)) rfl, lwm (tb5 _ (List.mem_of_getElem? (i := 117) rfl)) rfl, lwm (tb1 _ (List.mem_of_getElem? (i := 2) rfl)) rfl, lwm (tb5 _ (List.mem_of_getElem? (i := 118) rfl)) rfl⟩, by decide +kernel⟩
theorem yf_L_lines : YfS yL_lines cL_lines 4 (some .boolean) 1 := ⟨⟨lwm (tb5 _ (List.mem_of_getElem? (i := 120) rfl)) rfl, lwm (tb1 _ (List.mem_of_getElem? (i := 0) rfl)) rfl, lwm (tb5 _ (List.mem_of_getElem? (i := 121) rfl)) rfl⟩, by decide +kernel⟩
theorem yf_J4_append_bf812 : YfV yJ4_append_bf812 cJ4_append_bf812 2 (some (.object "java/lang/StringBuilder")) 1 := ⟨⟨lwm (tb5 _ (List.mem_of_getElem? (i := 125) rfl)) rfl, lwm (tb5 _ (List.mem_of_getElem? (i := 126) rfl)) rfl, lwm (tb1 _ (List.mem_of_getElem? (i := 11) rfl)) rfl, lwm (tb5 _ (List.mem_of_getElem? (i := 127) rfl)) rfl⟩, by decide +kernel⟩
theorem yf_J6_stringSize_0f7a4 : YfS yJ6_stringSize_0f7a4 cJ6_stringSize_0f7a4 4 (some .int) 1 := ⟨⟨lwm (tb5 _ (List.mem_of_getElem? (i := 132) rfl)) rfl, lwm (tb1 _ (List.mem_of_getElem? (i := 29) rfl)) rfl, lwm (tb5 _ (List.mem_of_getElem? (i := 133) rfl)) rfl⟩, by decide +kernel⟩
theorem yf_J8_newLength_cabcc : YfS yJ8_newLength_cabcc cJ8_newLength_cabcc 4 (some .int) 3 := ⟨⟨lwm (tb5 _ (List.mem_of_getElem? (i := 143) rfl)) rfl, lwm (tb1 _ (List.mem_of_getElem? (i := 30) rfl)) rfl, lwm (tb5 _ (List.mem_of_getElem? (i := 144) rfl)) rfl⟩, by decide +kernel⟩
theorem yf_J8_hugeLength_7cf53 : YfS yJ8_hugeLength_7cf53 cJ8_hugeLength_7cf53 3 (some .int) 2 := ⟨⟨lwm (tb5 _ (List.mem_of_getElem? (i := 148) rfl)) rfl, lwm (tb1 _ (List.mem_of_getElem? (i := 30) rfl)) rfl, lwm (tb5 _ (List.mem_of_getElem? (i := 149) rfl)) rfl⟩, by decide +kernel⟩
theorem yf_J7_copyOf_9075b : YfS yJ7_copyOf_9075b cJ7_copyOf_9075b 3 (some (.array .byte)) 2 := ⟨⟨lwm (tb5 _ (List.mem_of_getElem? (i := 152) rfl)) rfl, lwm (tb1 _ (List.mem_of_getElem? (i := 31) rfl)) rfl, lwm (tb5 _ (List.mem_of_getElem? (i := 153) rfl)) rfl⟩, by decide +kernel⟩
theorem yf_J6_getChars_ba4f3 : YfS yJ6_getChars_ba4f3 cJ6_getChars_ba4f3 7 (some .int) 3 := ⟨⟨lwm (tb5 _ (List.mem_of_getElem? (i := 171) rfl)) rfl, lwm (tb1 _ (List.mem_of_getElem? (i := 29) rfl)) rfl, lwm (tb5 _ (List.mem_of_getElem? (i := 172) rfl)) rfl⟩, by decide +kernel⟩
theorem yf_J2_getChars_46870 : YfS yJ2_getChars_46870 cJ2_getChars_46870 5 (some .int) 4 := ⟨⟨lwm (tb5 _ (List.mem_of_getElem? (i := 178) rfl)) rfl, lwm (tb1 _ (List.mem_of_getElem? (i := 13) rfl)) rfl, lwm (tb5 _ (List.mem_of_getElem? (i := 179) rfl)) rfl⟩, by decide +kernel⟩
theorem yf_J2_checkBoundsBeginEnd_d044e : YfS yJ2_checkBoundsBeginEnd_d044e cJ2_checkBoundsBeginEnd_d044e 3 none 3 := ⟨⟨lwm (tb5 _ (List.mem_of_getElem? (i := 181) rfl)) rfl, lwm (tb1 _ (List.mem_of_getElem? (i := 13) rfl)) rfl, lwm (tb5 _ (List.mem_of_getElem? (i := 182) rfl)) rfl⟩, by decide +kernel⟩
theorem yf_J2_length_9d52b : YfS yJ2_length_9d52b cJ2_length_9d52b 1 (some .int) 1 := ⟨⟨lwm (tb5 _ (List.mem_of_getElem? (i := 184) rfl)) rfl, lwm (tb1 _ (List.mem_of_getElem? (i := 13) rfl)) rfl, lwm (tb5 _ (List.mem_of_getElem? (i := 185) rfl)) rfl⟩, by decide +kernel⟩
theorem yf_J0_checkBoundsBeginEnd_23922 : YfS yJ0_checkBoundsBeginEnd_23922 cJ0_checkBoundsBeginEnd_23922 3 none 3 := ⟨⟨lwm (tb5 _ (List.mem_of_getElem? (i := 187) rfl)) rfl, lwm (tb1 _ (List.mem_of_getElem? (i := 12) rfl)) rfl, lwm (tb5 _ (List.mem_of_getElem? (i := 188) rfl)) rfl⟩, by decide +kernel⟩
theorem yf_J3_checkFromToIndex_8c36e : YfS yJ3_checkFromToIndex_8c36e cJ3_checkFromToIndex_8c36e 4 (some .int) 4 := ⟨⟨lwm (tb5 _ (List.mem_of_getElem? (i := 192) rfl)) rfl, lwm (tb1 _ (List.mem_of_getElem? (i := 33) rfl)) rfl, lwm (tb5 _ (List.mem_of_getElem? (i := 193) rfl)) rfl⟩, by decide +kernel⟩
theorem yf_J2_getChars_ba4f3 : YfS yJ2_getChars_ba4f3 cJ2_getChars_ba4f3 7 (some .int) 3 := ⟨⟨lwm (tb5 _ (List.mem_of_getElem? (i := 195) rfl)) rfl, lwm (tb1 _ (List.mem_of_getElem? (i := 13) rfl)) rfl, lwm (tb5 _ (List.mem_of_getElem? (i := 196) rfl)) rfl⟩, by decide +kernel⟩
theorem yf_J2_putChar_b72d1 : YfS yJ2_putChar_b72d1 cJ2_putChar_b72d1 3 none 3 := ⟨⟨lwm (tb5 _ (List.mem_of_getElem? (i := 199) rfl)) rfl, lwm (tb1 _ (List.mem_of_getElem? (i := 13) rfl)) rfl, lwm (tb5 _ (List.mem_of_getElem? (i := 200) rfl)) rfl⟩, by decide +kernel⟩
theorem yf_J4_append_15ec4 : YfV yJ4_append_15ec4 cJ4_append_15ec4 2 (some (.object "java/lang/StringBuilder")) 1 := ⟨⟨lwm (tb5 _ (List.mem_of_getElem? (i := 211) rfl)) rfl, lwm (tb5 _ (List.mem_of_getElem? (i := 212) rfl)) rfl, lwm (tb1 _ (List.mem_of_getElem? (i := 11) rfl)) rfl, lwm (tb5 _ (List.mem_of_getElem? (i := 213) rfl)) rfl⟩, by decide +kernel⟩
theorem yf_J2_putCharsAt_cd4e5 : YfS yJ2_putCharsAt_cd4e5 cJ2_putCharsAt_cd4e5 7 (some .int) 6 := ⟨⟨lwm (tb5 _ (List.mem_of_getElem? (i := 222) rfl)) rfl, lwm (tb1 _ (List.mem_of_getElem? (i := 13) rfl)) rfl, lwm (tb5 _ (List.mem_of_getElem? (i := 223) rfl)) rfl⟩, by decide +kernel⟩
theorem yf_J0_length_8abf5 : YfV yJ0_length_8abf5 cJ0_length_8abf5 1 (some .int) 0 := ⟨⟨lwm (tb5 _ (List.mem_of_getElem? (i := 225) rfl)) rfl, lwm (tb5 _ (List.mem_of_getElem? (i := 226) rfl)) rfl, lwm (tb1 _ (List.mem_of_getElem? (i := 12) rfl)) rfl, lwm (tb5 _ (List.mem_of_getElem? (i := 227) rfl)) rfl⟩, by decide +kernel⟩
theorem yf_J0_coder_7d493 : YfV yJ0_coder_7d493 cJ0_coder_7d493 1 (some .byte) 0 := ⟨⟨lwm (tb5 _ (List.mem_of_getElem? (i := 229) rfl)) rfl, lwm (tb5 _ (List.mem_of_getElem? (i := 230) rfl)) rfl, lwm (tb1 _ (List.mem_of_getElem? (i := 12) rfl)) rfl, lwm (tb5 _ (List.mem_of_getElem? (i := 231) rfl)) rfl⟩, by decide +kernel⟩
theorem yf_J1_inflate_0e8fd : YfS yJ1_inflate_0e8fd cJ1_inflate_0e8fd 5 none 5 := ⟨⟨lwm (tb6 _ (List.mem_of_getElem? (i := 7) rfl)) rfl, lwm (tb1 _ (List.mem_of_getElem? (i := 34) rfl)) rfl, lwm (tb6 _ (List.mem_of_getElem? (i := 8) rfl)) rfl⟩, by decide +kernel⟩
theorem yf_J2_inflate_0e8fd : YfS yJ2_inflate_0e8fd cJ2_inflate_0e8fd 6 none 5 := ⟨⟨lwm (tb6 _ (List.mem_of_getElem? (i := 10) rfl)) rfl, lwm (tb1 _ (List.mem_of_getElem? (i := 13) rfl)) rfl, lwm (tb6 _ (List.mem_of_getElem? (i := 11) rfl)) rfl⟩, by decide +kernel⟩
theorem yf_J2_checkBoundsOffCount_d044e : YfS yJ2_checkBoundsOffCount_d044e cJ2_checkBoundsOffCount_d044e 3 none 3 := ⟨⟨lwm (tb6 _ (List.mem_of_getElem? (i := 13) rfl)) rfl, lwm (tb1 _ (List.mem_of_getElem? (i := 13) rfl)) rfl, lwm (tb6 _ (List.mem_of_getElem? (i := 14) rfl)) rfl⟩, by decide +kernel⟩
theorem yf_J0_checkBoundsOffCount_cabcc : YfS yJ0_checkBoundsOffCount_cabcc cJ0_checkBoundsOffCount_cabcc 3 (some .int) 3 := ⟨⟨lwm (tb6 _ (List.mem_of_getElem? (i := 16) rfl)) rfl, lwm (tb1 _ (List.mem_of_getElem? (i := 12) rfl)) rfl, lwm (tb6 _ (List.mem_of_getElem? (i := 17) rfl)) rfl⟩, by decide +kernel⟩
theorem yf_J3_checkFromIndexSize_8c36e : YfS yJ3_checkFromIndexSize_8c36e cJ3_checkFromIndexSize_8c36e 4 (some .int) 4 := ⟨⟨lwm (tb6 _ (List.mem_of_getElem? (i := 19) rfl)) rfl, lwm (tb1 _ (List.mem_of_getElem? (i := 33) rfl)) rfl, lwm (tb6 _ (List.mem_of_getElem? (i := 20) rfl)) rfl⟩, by decide +kernel⟩
theorem yf_J0_getBytes_840e7 : YfV yJ0_getBytes_840e7 cJ0_getBytes_840e7 4 none 3 := ⟨⟨lwm (tb6 _ (List.mem_of_getElem? (i := 22) rfl)) rfl, lwm (tb6 _ (List.mem_of_getElem? (i := 23) rfl)) rfl, lwm (tb1 _ (List.mem_of_getElem? (i := 12) rfl)) rfl, lwm (tb6 _ (List.mem_of_getElem? (i := 24) rfl)) rfl⟩, by decide +kernel⟩
theorem yf_J4_toString_0e30d : YfV yJ4_toString_0e30d cJ4_toString_0e30d 1 (some (.object "java/lang/String")) 0 := ⟨⟨lwm (tb6 _ (List.mem_of_getElem? (i := 29) rfl)) rfl, lwm (tb6 _ (List.mem_of_getElem? (i := 30) rfl)) rfl, lwm (tb1 _ (List.mem_of_getElem? (i := 11) rfl)) rfl, lwm (tb6 _ (List.mem_of_getElem? (i := 31) rfl)) rfl⟩, by decide +kernel⟩
theorem yf_J0_init_81219 : YfI yJ0_init_81219 cJ0_init_81219 2 1 := ⟨⟨lwm (tb6 _ (List.mem_of_getElem? (i := 34) rfl)) rfl, lwm (tb1 _ (List.mem_of_getElem? (i := 12) rfl)) rfl, lwm (tb6 _ (List.mem_of_getElem? (i := 35) rfl)) rfl⟩, by decide +kernel⟩
theorem yf_J0_init_db425 : YfI yJ0_init_db425 cJ0_init_db425 5 2 := ⟨⟨lwm (tb6 _ (List.mem_of_getElem? (i := 37) rfl)) rfl, lwm (tb1 _ (List.mem_of_getElem? (i := 12) rfl)) rfl, lwm (tb6 _ (List.mem_of_getElem? (i := 38) rfl)) rfl⟩, by decide +kernel⟩
theorem yf_J4_length_8abf5 : YfV yJ4_length_8abf5 cJ4_length_8abf5 1 (some .int) 0 := ⟨⟨lwm (tb6 _ (List.mem_of_getElem? (i := 49) rfl)) rfl, lwm (tb7 _ (List.mem_of_getElem? (i := 147) rfl)) rfl, lwm (tb1 _ (List.mem_of_getElem? (i := 11) rfl)) rfl, lwm (tb6 _ (List.mem_of_getElem? (i := 50) rfl)) rfl⟩, by decide +kernel⟩
theorem yf_J7_copyOfRange_39247 : YfS yJ7_copyOfRange_39247 cJ7_copyOfRange_39247 3 (some (.array .byte)) 3 := ⟨⟨lwm (tb6 _ (List.mem_of_getElem? (i := 55) rfl)) rfl, lwm (tb1 _ (List.mem_of_getElem? (i := 31) rfl)) rfl, lwm (tb6 _ (List.mem_of_getElem? (i := 56) rfl)) rfl⟩, by decide +kernel⟩
theorem yf_J7_copyOfRangeByte_39247 : YfS yJ7_copyOfRangeByte_39247 cJ7_copyOfRangeByte_39247 5 (some (.array .byte)) 3 := ⟨⟨lwm (tb6 _ (List.mem_of_getElem? (i := 58) rfl)) rfl, lwm (tb1 _ (List.mem_of_getElem? (i := 31) rfl)) rfl, lwm (tb6 _ (List.mem_of_getElem? (i := 59) rfl)) rfl⟩, by decide +kernel⟩
theorem yf_J7_checkLength_df160 : YfS yJ7_checkLength_df160 cJ7_checkLength_df160 2 none 2 := ⟨⟨lwm (tb6 _ (List.mem_of_getElem? (i := 61) rfl)) rfl, lwm (tb1 _ (List.mem_of_getElem? (i := 31) rfl)) rfl, lwm (tb6 _ (List.mem_of_getElem? (i := 62) rfl)) rfl⟩, by decide +kernel⟩
theorem yf_J2_compress_39247 : YfS yJ2_compress_39247 cJ2_compress_39247 6 (some (.array .byte)) 3 := ⟨⟨lwm (tb6 _ (List.mem_of_getElem? (i := 72) rfl)) rfl, lwm (tb1 _ (List.mem_of_getElem? (i := 13) rfl)) rfl, lwm (tb6 _ (List.mem_of_getElem? (i := 73) rfl)) rfl⟩, by decide +kernel⟩
theorem yf_J2_compress_5af95 : YfS yJ2_compress_5af95 cJ2_compress_5af95 7 (some .int) 5 := ⟨⟨lwm (tb6 _ (List.mem_of_getElem? (i := 75) rfl)) rfl, lwm (tb1 _ (List.mem_of_getElem? (i := 13) rfl)) rfl, lwm (tb6 _ (List.mem_of_getElem? (i := 76) rfl)) rfl⟩, by decide +kernel⟩
theorem yf_J2_getChar_3b067 : YfS yJ2_getChar_3b067 cJ2_getChar_3b067 2 (some .char) 2 := ⟨⟨lwm (tb6 _ (List.mem_of_getElem? (i := 78) rfl)) rfl, lwm (tb1 _ (List.mem_of_getElem? (i := 13) rfl)) rfl, lwm (tb6 _ (List.mem_of_getElem? (i := 79) rfl)) rfl⟩, by decide +kernel⟩
theorem yf_J2_coderFromArrayLen_85cad : YfS yJ2_coderFromArrayLen_85cad cJ2_coderFromArrayLen_85cad 2 (some .byte) 2 := ⟨⟨lwm (tb6 _ (List.mem_of_getElem? (i := 82) rfl)) rfl, lwm (tb1 _ (List.mem_of_getElem? (i := 13) rfl)) rfl, lwm (tb6 _ (List.mem_of_getElem? (i := 83) rfl)) rfl⟩, by decide +kernel⟩
theorem yf_X11_writeOrder : YfV yX11_writeOrder cX11_writeOrder 3 (some .int) 1 := ⟨⟨lwm (tb6 _ (List.mem_of_getElem? (i := 95) rfl)) rfl, lwm (tb6 _ (List.mem_of_getElem? (i := 96) rfl)) rfl, lwm (tb1 _ (List.mem_of_getElem? (i := 1) rfl)) rfl, lwm (tb6 _ (List.mem_of_getElem? (i := 97) rfl)) rfl⟩, by decide +kernel⟩
theorem yf_J4_setLength_d00df : YfV yJ4_setLength_d00df cJ4_setLength_d00df 2 none 1 := ⟨⟨lwm (tb6 _ (List.mem_of_getElem? (i := 99) rfl)) rfl, lwm (tb6 _ (List.mem_of_getElem? (i := 100) rfl)) rfl, lwm (tb1 _ (List.mem_of_getElem? (i := 11) rfl)) rfl, lwm (tb6 _ (List.mem_of_getElem? (i := 101) rfl)) rfl⟩, by decide +kernel⟩
theorem yf_Jx7c733_init_d00df : YfI yJx7c733_init_d00df cJx7c733_init_d00df 2 1 := ⟨⟨lwm (tb6 _ (List.mem_of_getElem? (i := 108) rfl)) rfl, lwm (tb1 _ (List.mem_of_getElem? (i := 35) rfl)) rfl, lwm (tb6 _ (List.mem_of_getElem? (i := 109) rfl)) rfl⟩, by decide +kernel⟩
theorem yf_J1_fillNull_b72d1 : YfS yJ1_fillNull_b72d1 cJ1_fillNull_b72d1 3 none 3 := ⟨⟨lwm (tb6 _ (List.mem_of_getElem? (i := 125) rfl)) rfl, lwm (tb1 _ (List.mem_of_getElem? (i := 34) rfl)) rfl, lwm (tb6 _ (List.mem_of_getElem? (i := 126) rfl)) rfl⟩, by decide +kernel⟩
theorem yf_J7_fill_eb02e : YfS yJ7_fill_eb02e cJ7_fill_eb02e 5 none 4 := ⟨⟨lwm (tb6 _ (List.mem_of_getElem? (i := 128) rfl)) rfl, lwm (tb1 _ (List.mem_of_getElem? (i := 31) rfl)) rfl, lwm (tb6 _ (List.mem_of_getElem? (i := 129) rfl)) rfl⟩, by decide +kernel⟩
theorem yf_J7_rangeCheck_23922 : YfS yJ7_rangeCheck_23922 cJ7_rangeCheck_23922 3 none 3 := ⟨⟨lwm (tb6 _ (List.mem_of_getElem? (i := 131) rfl)) rfl, lwm (tb1 _ (List.mem_of_getElem? (i := 31) rfl)) rfl, lwm (tb6 _ (List.mem_of_getElem? (i := 132) rfl)) rfl⟩, by decide +kernel⟩
theorem yf_Jx00060_init_d00df : YfI yJx00060_init_d00df cJx00060_init_d00df 2 1 := ⟨⟨lwm (tb6 _ (List.mem_of_getElem? (i := 138) rfl)) rfl, lwm (tb1 _ (List.mem_of_getElem? (i := 25) rfl)) rfl, lwm (tb6 _ (List.mem_of_getElem? (i := 139) rfl)) rfl⟩, by decide +kernel⟩
theorem yf_J2_fillNull_b72d1 : YfS yJ2_fillNull_b72d1 cJ2_fillNull_b72d1 3 none 3 := ⟨⟨lwm (tb6 _ (List.mem_of_getElem? (i := 147) rfl)) rfl, lwm (tb1 _ (List.mem_of_getElem? (i := 13) rfl)) rfl, lwm (tb6 _ (List.mem_of_getElem? (i := 148) rfl)) rfl⟩, by decide +kernel⟩
theorem yf_J4_append_cf468 : YfV yJ4_append_cf468 cJ4_append_cf468 2 (some (.object "java/lang/StringBuilder")) 1 := ⟨⟨lwm (tb6 _ (List.mem_of_getElem? (i := 152) rfl)) rfl, lwm (tb6 _ (List.mem_of_getElem? (i := 153) rfl)) rfl, lwm (tb1 _ (List.mem_of_getElem? (i := 11) rfl)) rfl, lwm (tb6 _ (List.mem_of_getElem? (i := 154) rfl)) rfl⟩, by decide +kernel⟩
theorem yf_J1_canEncode_fc78d : YfS yJ1_canEncode_fc78d cJ1_canEncode_fc78d 1 (some .boolean) 1 := ⟨⟨lwm (tb6 _ (List.mem_of_getElem? (i := 159) rfl)) rfl, lwm (tb1 _ (List.mem_of_getElem? (i := 34) rfl)) rfl, lwm (tb6 _ (List.mem_of_getElem? (i := 160) rfl)) rfl⟩, by decide +kernel⟩
theorem yf_J2_putCharSB_b72d1 : YfS yJ2_putCharSB_b72d1 cJ2_putCharSB_b72d1 3 none 3 := ⟨⟨lwm (tb6 _ (List.mem_of_getElem? (i := 162) rfl)) rfl, lwm (tb1 _ (List.mem_of_getElem? (i := 13) rfl)) rfl, lwm (tb6 _ (List.mem_of_getElem? (i := 163) rfl)) rfl⟩, by decide +kernel⟩
theorem yf_J2_checkIndex_2214a : YfS yJ2_checkIndex_2214a cJ2_checkIndex_2214a 2 none 2 := ⟨⟨lwm (tb6 _ (List.mem_of_getElem? (i := 165) rfl)) rfl, lwm (tb1 _ (List.mem_of_getElem? (i := 13) rfl)) rfl, lwm (tb6 _ (List.mem_of_getElem? (i := 166) rfl)) rfl⟩, by decide +kernel⟩
theorem yf_J0_checkIndex_df160 : YfS yJ0_checkIndex_df160 cJ0_checkIndex_df160 2 none 2 := ⟨⟨lwm (tb6 _ (List.mem_of_getElem? (i := 168) rfl)) rfl, lwm (tb1 _ (List.mem_of_getElem? (i := 12) rfl)) rfl, lwm (tb6 _ (List.mem_of_getElem? (i := 169) rfl)) rfl⟩, by decide +kernel⟩
theorem yf_J3_checkIndex_8e157 : YfS yJ3_checkIndex_8e157 cJ3_checkIndex_8e157 3 (some .int) 3 := ⟨⟨lwm (tb6 _ (List.mem_of_getElem? (i := 171) rfl)) rfl, lwm (tb1 _ (List.mem_of_getElem? (i := 33) rfl)) rfl, lwm (tb6 _ (List.mem_of_getElem? (i := 172) rfl)) rfl⟩, by decide +kernel⟩
theorem yf_L_spells : YfS yL_spells cL_spells 5 (some .boolean) 3 := ⟨⟨lwm (tb6 _ (List.mem_of_getElem? (i := 175) rfl)) rfl, lwm (tb1 _ (List.mem_of_getElem? (i := 0) rfl)) rfl, lwm (tb6 _ (List.mem_of_getElem? (i := 176) rfl)) rfl⟩, by decide +kernel⟩
theorem yf_X11_lineAt : YfV yX11_lineAt cX11_lineAt 2 (some .char) 1 := ⟨⟨lwm (tb6 _ (List.mem_of_getElem? (i := 182) rfl)) rfl, lwm (tb6 _ (List.mem_of_getElem? (i := 183) rfl)) rfl, lwm (tb1 _ (List.mem_of_getElem? (i := 1) rfl)) rfl, lwm (tb6 _ (List.mem_of_getElem? (i := 184) rfl)) rfl⟩, by decide +kernel⟩
theorem yf_J4_charAt_5068e : YfV yJ4_charAt_5068e cJ4_charAt_5068e 2 (some .char) 1 := ⟨⟨lwm (tb6 _ (List.mem_of_getElem? (i := 187) rfl)) rfl, lwm (tb6 _ (List.mem_of_getElem? (i := 188) rfl)) rfl, lwm (tb1 _ (List.mem_of_getElem? (i := 11) rfl)) rfl, lwm (tb6 _ (List.mem_of_getElem? (i := 189) rfl)) rfl⟩, by decide +kernel⟩
theorem yf_J0_charAt_5068e : YfV yJ0_charAt_5068e cJ0_charAt_5068e 2 (some .char) 1 := ⟨⟨lwm (tb6 _ (List.mem_of_getElem? (i := 197) rfl)) rfl, lwm (tb6 _ (List.mem_of_getElem? (i := 198) rfl)) rfl, lwm (tb1 _ (List.mem_of_getElem? (i := 12) rfl)) rfl, lwm (tb6 _ (List.mem_of_getElem? (i := 199) rfl)) rfl⟩, by decide +kernel⟩
theorem yf_J0_isLatin1_aae02 : YfV yJ0_isLatin1_aae02 cJ0_isLatin1_aae02 1 (some .boolean) 0 := ⟨⟨lwm (tb6 _ (List.mem_of_getElem? (i := 201) rfl)) rfl, lwm (tb6 _ (List.mem_of_getElem? (i := 202) rfl)) rfl, lwm (tb1 _ (List.mem_of_getElem? (i := 12) rfl)) rfl, lwm (tb6 _ (List.mem_of_getElem? (i := 203) rfl)) rfl⟩, by decide +kernel⟩
theorem yf_J1_charAt_3b067 : YfS yJ1_charAt_3b067 cJ1_charAt_3b067 2 (some .char) 2 := ⟨⟨lwm (tb6 _ (List.mem_of_getElem? (i := 205) rfl)) rfl, lwm (tb1 _ (List.mem_of_getElem? (i := 34) rfl)) rfl, lwm (tb6 _ (List.mem_of_getElem? (i := 206) rfl)) rfl⟩, by decide +kernel⟩
theorem yf_J2_charAt_3b067 : YfS yJ2_charAt_3b067 cJ2_charAt_3b067 2 (some .char) 2 := ⟨⟨lwm (tb6 _ (List.mem_of_getElem? (i := 209) rfl)) rfl, lwm (tb1 _ (List.mem_of_getElem? (i := 13) rfl)) rfl, lwm (tb6 _ (List.mem_of_getElem? (i := 210) rfl)) rfl⟩, by decide +kernel⟩
theorem yf_X11_writeBook : YfV yX11_writeBook cX11_writeBook 1 (some .int) 0 := ⟨⟨lwm (tb6 _ (List.mem_of_getElem? (i := 214) rfl)) rfl, lwm (tb6 _ (List.mem_of_getElem? (i := 215) rfl)) rfl, lwm (tb1 _ (List.mem_of_getElem? (i := 1) rfl)) rfl, lwm (tb6 _ (List.mem_of_getElem? (i := 216) rfl)) rfl⟩, by decide +kernel⟩
theorem yf_X11_appendBest : YfV yX11_appendBest cX11_appendBest 4 none 1 := ⟨⟨lwm (tb6 _ (List.mem_of_getElem? (i := 219) rfl)) rfl, lwm (List.mem_append_left _ (List.mem_of_getElem? (i := 12) rfl)) rfl, lwm (tb1 _ (List.mem_of_getElem? (i := 1) rfl)) rfl, lwm (tb6 _ (List.mem_of_getElem? (i := 220) rfl)) rfl⟩, by decide +kernel⟩
theorem yf_L_undone : YfS yL_undone cL_undone 11 (some .boolean) 2 := ⟨⟨lwm (tb6 _ (List.mem_of_getElem? (i := 222) rfl)) rfl, lwm (tb1 _ (List.mem_of_getElem? (i := 0) rfl)) rfl, lwm (tb6 _ (List.mem_of_getElem? (i := 223) rfl)) rfl⟩, by decide +kernel⟩
theorem yf_L_sum : YfS yL_sum cL_sum 5 (some .long) 1 := ⟨⟨lwm (tb6 _ (List.mem_of_getElem? (i := 225) rfl)) rfl, lwm (tb1 _ (List.mem_of_getElem? (i := 0) rfl)) rfl, lwm (tb6 _ (List.mem_of_getElem? (i := 226) rfl)) rfl⟩, by decide +kernel⟩
theorem yf_X11_time : YfV yX11_time cX11_time 1 (some .int) 0 := ⟨⟨lwm (tb6 _ (List.mem_of_getElem? (i := 229) rfl)) rfl, lwm (tb6 _ (List.mem_of_getElem? (i := 230) rfl)) rfl, lwm (tb1 _ (List.mem_of_getElem? (i := 1) rfl)) rfl, lwm (tb6 _ (List.mem_of_getElem? (i := 231) rfl)) rfl⟩, by decide +kernel⟩
theorem yf_X11_cancel : YfV yX11_cancel cX11_cancel 2 (some .int) 1 := ⟨⟨lwm (tb7 _ (List.mem_of_getElem? (i := 2) rfl)) rfl, lwm (tb7 _ (List.mem_of_getElem? (i := 3) rfl)) rfl, lwm (tb1 _ (List.mem_of_getElem? (i := 1) rfl)) rfl, lwm (tb7 _ (List.mem_of_getElem? (i := 4) rfl)) rfl⟩, by decide +kernel⟩
theorem yf_X9_cancelFault : YfV yX9_cancelFault cX9_cancelFault 2 (some (.object "DropMarket$Fault")) 1 := ⟨⟨lwm (tb7 _ (List.mem_of_getElem? (i := 6) rfl)) rfl, lwm (tb7 _ (List.mem_of_getElem? (i := 7) rfl)) rfl, lwm (tb1 _ (List.mem_of_getElem? (i := 2) rfl)) rfl, lwm (tb7 _ (List.mem_of_getElem? (i := 8) rfl)) rfl⟩, by decide +kernel⟩
theorem yf_X9_withdraw : YfV yX9_withdraw cX9_withdraw 4 (some .int) 1 := ⟨⟨lwm (tb7 _ (List.mem_of_getElem? (i := 12) rfl)) rfl, lwm (tb7 _ (List.mem_of_getElem? (i := 13) rfl)) rfl, lwm (tb1 _ (List.mem_of_getElem? (i := 2) rfl)) rfl, lwm (tb7 _ (List.mem_of_getElem? (i := 14) rfl)) rfl⟩, by decide +kernel⟩
theorem yf_L_execute : YfS yL_execute cL_execute 3 (some .int) 2 := ⟨⟨lwm (tb7 _ (List.mem_of_getElem? (i := 20) rfl)) rfl, lwm (tb1 _ (List.mem_of_getElem? (i := 0) rfl)) rfl, lwm (tb7 _ (List.mem_of_getElem? (i := 21) rfl)) rfl⟩, by decide +kernel⟩
theorem yf_X11_type : YfV yX11_type cX11_type 2 (some .int) 1 := ⟨⟨lwm (tb7 _ (List.mem_of_getElem? (i := 26) rfl)) rfl, lwm (tb7 _ (List.mem_of_getElem? (i := 27) rfl)) rfl, lwm (tb1 _ (List.mem_of_getElem? (i := 1) rfl)) rfl, lwm (tb7 _ (List.mem_of_getElem? (i := 28) rfl)) rfl⟩, by decide +kernel⟩
theorem yf_X2_isFull : YfV yX2_isFull cX2_isFull 1 (some .boolean) 0 := ⟨⟨lwm (tb7 _ (List.mem_of_getElem? (i := 31) rfl)) rfl, lwm (tb7 _ (List.mem_of_getElem? (i := 32) rfl)) rfl, lwm (tb1 _ (List.mem_of_getElem? (i := 9) rfl)) rfl, lwm (tb7 _ (List.mem_of_getElem? (i := 33) rfl)) rfl⟩, by decide +kernel⟩
theorem yf_X2_append : YfV yX2_append cX2_append 2 (some .int) 1 := ⟨⟨lwm (tb7 _ (List.mem_of_getElem? (i := 37) rfl)) rfl, lwm (tb7 _ (List.mem_of_getElem? (i := 38) rfl)) rfl, lwm (tb1 _ (List.mem_of_getElem? (i := 9) rfl)) rfl, lwm (tb7 _ (List.mem_of_getElem? (i := 39) rfl)) rfl⟩, by decide +kernel⟩
theorem yf_X11_execute : YfV yX11_execute cX11_execute 3 (some .int) 0 := ⟨⟨lwm (tb7 _ (List.mem_of_getElem? (i := 45) rfl)) rfl, lwm (tb7 _ (List.mem_of_getElem? (i := 46) rfl)) rfl, lwm (tb1 _ (List.mem_of_getElem? (i := 1) rfl)) rfl, lwm (tb7 _ (List.mem_of_getElem? (i := 47) rfl)) rfl⟩, by decide +kernel⟩
theorem yf_X2_countCommands : YfV yX2_countCommands cX2_countCommands 2 (some .int) 0 := ⟨⟨lwm (tb7 _ (List.mem_of_getElem? (i := 49) rfl)) rfl, lwm (tb7 _ (List.mem_of_getElem? (i := 50) rfl)) rfl, lwm (tb1 _ (List.mem_of_getElem? (i := 9) rfl)) rfl, lwm (tb7 _ (List.mem_of_getElem? (i := 51) rfl)) rfl⟩, by decide +kernel⟩
theorem yf_X2_rewind : YfV yX2_rewind cX2_rewind 1 none 0 := ⟨⟨lwm (tb7 _ (List.mem_of_getElem? (i := 53) rfl)) rfl, lwm (tb7 _ (List.mem_of_getElem? (i := 54) rfl)) rfl, lwm (tb1 _ (List.mem_of_getElem? (i := 9) rfl)) rfl, lwm (tb7 _ (List.mem_of_getElem? (i := 55) rfl)) rfl⟩, by decide +kernel⟩
theorem yf_X2_readCommand : YfV yX2_readCommand cX2_readCommand 1 (some .boolean) 0 := ⟨⟨lwm (tb7 _ (List.mem_of_getElem? (i := 57) rfl)) rfl, lwm (tb7 _ (List.mem_of_getElem? (i := 58) rfl)) rfl, lwm (tb1 _ (List.mem_of_getElem? (i := 9) rfl)) rfl, lwm (tb7 _ (List.mem_of_getElem? (i := 59) rfl)) rfl⟩, by decide +kernel⟩
theorem yf_X2_readSign : YfV yX2_readSign cX2_readSign 2 (some .boolean) 1 := ⟨⟨lwm (tb7 _ (List.mem_of_getElem? (i := 62) rfl)) rfl, lwm (List.mem_append_left _ (List.mem_of_getElem? (i := 13) rfl)) rfl, lwm (tb1 _ (List.mem_of_getElem? (i := 9) rfl)) rfl, lwm (tb7 _ (List.mem_of_getElem? (i := 63) rfl)) rfl⟩, by decide +kernel⟩
theorem yf_X2_standsAt : YfV yX2_standsAt cX2_standsAt 3 (some .boolean) 2 := ⟨⟨lwm (tb7 _ (List.mem_of_getElem? (i := 66) rfl)) rfl, lwm (List.mem_append_left _ (List.mem_of_getElem? (i := 14) rfl)) rfl, lwm (tb1 _ (List.mem_of_getElem? (i := 9) rfl)) rfl, lwm (tb7 _ (List.mem_of_getElem? (i := 67) rfl)) rfl⟩, by decide +kernel⟩
theorem yf_X2_readVerb : YfV yX2_readVerb cX2_readVerb 7 (some .boolean) 0 := ⟨⟨lwm (tb7 _ (List.mem_of_getElem? (i := 71) rfl)) rfl, lwm (List.mem_append_left _ (List.mem_of_getElem? (i := 15) rfl)) rfl, lwm (tb1 _ (List.mem_of_getElem? (i := 9) rfl)) rfl, lwm (tb7 _ (List.mem_of_getElem? (i := 72) rfl)) rfl⟩, by decide +kernel⟩
theorem yf_X2_matchingLetters : YfV yX2_matchingLetters cX2_matchingLetters 3 (some .int) 1 := ⟨⟨lwm (tb7 _ (List.mem_of_getElem? (i := 77) rfl)) rfl, lwm (List.mem_append_left _ (List.mem_of_getElem? (i := 16) rfl)) rfl, lwm (tb1 _ (List.mem_of_getElem? (i := 9) rfl)) rfl, lwm (tb7 _ (List.mem_of_getElem? (i := 78) rfl)) rfl⟩, by decide +kernel⟩
theorem yf_X2_readParameters : YfV yX2_readParameters cX2_readParameters 2 (some .boolean) 0 := ⟨⟨lwm (tb7 _ (List.mem_of_getElem? (i := 84) rfl)) rfl, lwm (List.mem_append_left _ (List.mem_of_getElem? (i := 17) rfl)) rfl, lwm (tb1 _ (List.mem_of_getElem? (i := 9) rfl)) rfl, lwm (tb7 _ (List.mem_of_getElem? (i := 85) rfl)) rfl⟩, by decide +kernel⟩
theorem yf_X2_readNumber : YfV yX2_readNumber cX2_readNumber 5 (some .boolean) 2 := ⟨⟨lwm (tb7 _ (List.mem_of_getElem? (i := 88) rfl)) rfl, lwm (List.mem_append_left _ (List.mem_of_getElem? (i := 18) rfl)) rfl, lwm (tb1 _ (List.mem_of_getElem? (i := 9) rfl)) rfl, lwm (tb7 _ (List.mem_of_getElem? (i := 89) rfl)) rfl⟩, by decide +kernel⟩
theorem yf_X2_digitAt : YfV yX2_digitAt cX2_digitAt 3 (some .int) 1 := ⟨⟨lwm (tb7 _ (List.mem_of_getElem? (i := 92) rfl)) rfl, lwm (List.mem_append_left _ (List.mem_of_getElem? (i := 19) rfl)) rfl, lwm (tb1 _ (List.mem_of_getElem? (i := 9) rfl)) rfl, lwm (tb7 _ (List.mem_of_getElem? (i := 93) rfl)) rfl⟩, by decide +kernel⟩
theorem yf_X2_empty : YfV yX2_empty cX2_empty 1 none 0 := ⟨⟨lwm (tb7 _ (List.mem_of_getElem? (i := 96) rfl)) rfl, lwm (tb7 _ (List.mem_of_getElem? (i := 97) rfl)) rfl, lwm (tb1 _ (List.mem_of_getElem? (i := 9) rfl)) rfl, lwm (tb7 _ (List.mem_of_getElem? (i := 98) rfl)) rfl⟩, by decide +kernel⟩
theorem yf_X11_commandFault : YfV yX11_commandFault cX11_commandFault 4 (some (.object "DropMarket$Fault")) 0 := ⟨⟨lwm (tb7 _ (List.mem_of_getElem? (i := 106) rfl)) rfl, lwm (List.mem_append_left _ (List.mem_of_getElem? (i := 20) rfl)) rfl, lwm (tb1 _ (List.mem_of_getElem? (i := 1) rfl)) rfl, lwm (tb7 _ (List.mem_of_getElem? (i := 107) rfl)) rfl⟩, by decide +kernel⟩
theorem yf_X11_runCommand : YfV yX11_runCommand cX11_runCommand 4 none 0 := ⟨⟨lwm (tb7 _ (List.mem_of_getElem? (i := 119) rfl)) rfl, lwm (List.mem_append_left _ (List.mem_of_getElem? (i := 21) rfl)) rfl, lwm (tb1 _ (List.mem_of_getElem? (i := 1) rfl)) rfl, lwm (tb7 _ (List.mem_of_getElem? (i := 120) rfl)) rfl⟩, by decide +kernel⟩
theorem yf_X11_undo : YfV yX11_undo cX11_undo 1 (some .int) 0 := ⟨⟨lwm (tb7 _ (List.mem_of_getElem? (i := 126) rfl)) rfl, lwm (tb7 _ (List.mem_of_getElem? (i := 127) rfl)) rfl, lwm (tb1 _ (List.mem_of_getElem? (i := 1) rfl)) rfl, lwm (tb7 _ (List.mem_of_getElem? (i := 128) rfl)) rfl⟩, by decide +kernel⟩
theorem yf_X4_popInto : YfV yX4_popInto cX4_popInto 3 none 1 := ⟨⟨lwm (tb7 _ (List.mem_of_getElem? (i := 131) rfl)) rfl, lwm (tb7 _ (List.mem_of_getElem? (i := 132) rfl)) rfl, lwm (tb1 _ (List.mem_of_getElem? (i := 7) rfl)) rfl, lwm (tb7 _ (List.mem_of_getElem? (i := 133) rfl)) rfl⟩, by decide +kernel⟩
-- where fields lie
theorem in_X1 : ∀ w ∈ u_ws RX1 TX1 7, w ∈ LW := fun w h => by
  have hd : (u_ws RX1 TX1 7).all (fun w => decide (w ∈ lw_tbl) && goodWord w) = true := by decide +kernel
  have h2 := List.all_eq_true.mp hd w h
  simp only [Bool.and_eq_true, decide_eq_true_eq] at h2
  exact lwm h2.1 h2.2
theorem in_X2 : ∀ w ∈ u_ws RX2 TX2 4, w ∈ LW := fun w h => by
  have hd : (u_ws RX2 TX2 4).all (fun w => decide (w ∈ lw_tbl) && goodWord w) = true := by decide +kernel
  have h2 := List.all_eq_true.mp hd w h
  simp only [Bool.and_eq_true, decide_eq_true_eq] at h2
  exact lwm h2.1 h2.2
theorem in_X4 : ∀ w ∈ u_ws RX4 TX4 3, w ∈ LW := fun w h => by
  have hd : (u_ws RX4 TX4 3).all (fun w => decide (w ∈ lw_tbl) && goodWord w) = true := by decide +kernel
  have h2 := List.all_eq_true.mp hd w h
  simp only [Bool.and_eq_true, decide_eq_true_eq] at h2
  exact lwm h2.1 h2.2
theorem in_X5 : ∀ w ∈ u_ws RX5 TX5 3, w ∈ LW := fun w h => by
  have hd : (u_ws RX5 TX5 3).all (fun w => decide (w ∈ lw_tbl) && goodWord w) = true := by decide +kernel
  have h2 := List.all_eq_true.mp hd w h
  simp only [Bool.and_eq_true, decide_eq_true_eq] at h2
  exact lwm h2.1 h2.2
theorem in_X6 : ∀ w ∈ u_ws RX6 TX6 2, w ∈ LW := fun w h => by
  have hd : (u_ws RX6 TX6 2).all (fun w => decide (w ∈ lw_tbl) && goodWord w) = true := by decide +kernel
  have h2 := List.all_eq_true.mp hd w h
  simp only [Bool.and_eq_true, decide_eq_true_eq] at h2
  exact lwm h2.1 h2.2
theorem in_X7 : ∀ w ∈ u_ws RX7 TX7 1, w ∈ LW := fun w h => by
  have hd : (u_ws RX7 TX7 1).all (fun w => decide (w ∈ lw_tbl) && goodWord w) = true := by decide +kernel
  have h2 := List.all_eq_true.mp hd w h
  simp only [Bool.and_eq_true, decide_eq_true_eq] at h2
  exact lwm h2.1 h2.2
theorem in_X8 : ∀ w ∈ u_ws RX8 TX8 3, w ∈ LW := fun w h => by
  have hd : (u_ws RX8 TX8 3).all (fun w => decide (w ∈ lw_tbl) && goodWord w) = true := by decide +kernel
  have h2 := List.all_eq_true.mp hd w h
  simp only [Bool.and_eq_true, decide_eq_true_eq] at h2
  exact lwm h2.1 h2.2
theorem in_X9 : ∀ w ∈ u_ws RX9 TX9 9, w ∈ LW := fun w h => by
  have hd : (u_ws RX9 TX9 9).all (fun w => decide (w ∈ lw_tbl) && goodWord w) = true := by decide +kernel
  have h2 := List.all_eq_true.mp hd w h
  simp only [Bool.and_eq_true, decide_eq_true_eq] at h2
  exact lwm h2.1 h2.2
theorem in_X11 : ∀ w ∈ u_ws RX11 TX11 10, w ∈ LW := fun w h => by
  have hd : (u_ws RX11 TX11 10).all (fun w => decide (w ∈ lw_tbl) && goodWord w) = true := by decide +kernel
  have h2 := List.all_eq_true.mp hd w h
  simp only [Bool.and_eq_true, decide_eq_true_eq] at h2
  exact lwm h2.1 h2.2
theorem in_Jx00060 : ∀ w ∈ u_ws RJx00060 TJx00060 6, w ∈ LW := fun w h => by
  have hd : (u_ws RJx00060 TJx00060 6).all (fun w => decide (w ∈ lw_tbl) && goodWord w) = true := by decide +kernel
  have h2 := List.all_eq_true.mp hd w h
  simp only [Bool.and_eq_true, decide_eq_true_eq] at h2
  exact lwm h2.1 h2.2
theorem in_J0 : ∀ w ∈ u_ws RJ0 TJ0 4, w ∈ LW := fun w h => by
  have hd : (u_ws RJ0 TJ0 4).all (fun w => decide (w ∈ lw_tbl) && goodWord w) = true := by decide +kernel
  have h2 := List.all_eq_true.mp hd w h
  simp only [Bool.and_eq_true, decide_eq_true_eq] at h2
  exact lwm h2.1 h2.2
theorem in_J4 : ∀ w ∈ u_ws RJ4 TJ4 4, w ∈ LW := fun w h => by
  have hd : (u_ws RJ4 TJ4 4).all (fun w => decide (w ∈ lw_tbl) && goodWord w) = true := by decide +kernel
  have h2 := List.all_eq_true.mp hd w h
  simp only [Bool.and_eq_true, decide_eq_true_eq] at h2
  exact lwm h2.1 h2.2
theorem in_Jx7c733 : ∀ w ∈ u_ws RJx7c733 TJx7c733 6, w ∈ LW := fun w h => by
  have hd : (u_ws RJx7c733 TJx7c733 6).all (fun w => decide (w ∈ lw_tbl) && goodWord w) = true := by decide +kernel
  have h2 := List.all_eq_true.mp hd w h
  simp only [Bool.and_eq_true, decide_eq_true_eq] at h2
  exact lwm h2.1 h2.2
