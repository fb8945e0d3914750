/-! the words of the tables, by their places: by program (wip/whole/gen_links.py) -/
theorem tb1 : ∀ w ∈ tables_1_1, w ∈ lw_tbl := fun w h => List.mem_append_right _ (List.mem_append_left _ h)
theorem tb2 : ∀ w ∈ tables_1_2, w ∈ lw_tbl := fun w h => List.mem_append_right _ (List.mem_append_right _ (List.mem_append_left _ h))
theorem tb3 : ∀ w ∈ tables_1_3, w ∈ lw_tbl := fun w h => List.mem_append_right _ (List.mem_append_right _ (List.mem_append_right _ (List.mem_append_left _ h)))
theorem tb4 : ∀ w ∈ tables_1_4, w ∈ lw_tbl := fun w h => List.mem_append_right _ (List.mem_append_right _ (List.mem_append_right _ (List.mem_append_right _ (List.mem_append_left _ h))))
theorem tb5 : ∀ w ∈ tables_1_5, w ∈ lw_tbl := fun w h => List.mem_append_right _ (List.mem_append_right _ (List.mem_append_right _ (List.mem_append_right _ (List.mem_append_right _ (List.mem_append_left _ h)))))
theorem tb6 : ∀ w ∈ tables_1_6, w ∈ lw_tbl := fun w h => List.mem_append_right _ (List.mem_append_right _ (List.mem_append_right _ (List.mem_append_right _ (List.mem_append_right _ (List.mem_append_right _ (List.mem_append_left _ h))))))
theorem tb7 : ∀ w ∈ tables_1_7, w ∈ lw_tbl := fun w h => List.mem_append_right _ (List.mem_append_right _ (List.mem_append_right _ (List.mem_append_right _ (List.mem_append_right _ (List.mem_append_right _ (List.mem_append_right _ (List.mem_append_left _ h)))))))
theorem tb8 : ∀ w ∈ tables_1_8, w ∈ lw_tbl := fun w h => List.mem_append_right _ (List.mem_append_right _ (List.mem_append_right _ (List.mem_append_right _ (List.mem_append_right _ (List.mem_append_right _ (List.mem_append_right _ (List.mem_append_right _ (List.mem_append_left _ h))))))))
theorem tb9 : ∀ w ∈ tables_1_9, w ∈ lw_tbl := fun w h => List.mem_append_right _ (List.mem_append_right _ (List.mem_append_right _ (List.mem_append_right _ (List.mem_append_right _ (List.mem_append_right _ (List.mem_append_right _ (List.mem_append_right _ (List.mem_append_right _ (h)))))))))
def LW : List Cond := lw_tbl.filter goodWord
theorem lwm {w : Cond} (h : w ∈ lw_tbl) (g : goodWord w = true) : w ∈ LW := List.mem_filter.mpr ⟨h, g⟩
theorem LW_in : ∀ w ∈ LW, w ∈ lw_tbl := fun _ h => (List.mem_filter.mp h).1
theorem LW_good : ∀ w ∈ LW, (w.onTables && w.keeps) = true ∨ ∃ ty, w = .arrayClass ty := fun _ h => good_of_word (List.mem_filter.mp h).2
/-- what the tables say of an instance method: it is one, it selects itself, its class, its code, its parameters -/
def YfV (y : MethodName) (cc : ByteArray) (n : Nat) (r : Option FieldType) (k : Nat) : Prop := (Cond.instanceMethod y ∈ LW ∧ Cond.selects y.cls y y ∈ LW ∧ Cond.initialized y.cls ∈ LW ∧ Cond.code y cc n r ∈ LW) ∧ (y.cls ≠ "java/lang/invoke/MethodHandle" ∧ y.cls ≠ "java/lang/invoke/VarHandle" ∧ (parseMethodDescriptor y.desc).map (fun d => d.parameters.length) = some k)
def YfS (y : MethodName) (cc : ByteArray) (n : Nat) (r : Option FieldType) (k : Nat) : Prop := (Cond.static y ∈ LW ∧ Cond.initialized y.cls ∈ LW ∧ Cond.code y cc n r ∈ LW) ∧ (y.cls ≠ "java/lang/invoke/MethodHandle" ∧ y.cls ≠ "java/lang/invoke/VarHandle" ∧ (parseMethodDescriptor y.desc).map (fun d => d.parameters.length) = some k)
def YfI (y : MethodName) (cc : ByteArray) (n : Nat) (k : Nat) : Prop := (Cond.instanceMethod y ∈ LW ∧ Cond.initialized y.cls ∈ LW ∧ Cond.code y cc n none ∈ LW) ∧ (y.cls ≠ "java/lang/invoke/MethodHandle" ∧ y.cls ≠ "java/lang/invoke/VarHandle" ∧ (parseMethodDescriptor y.desc).map (fun d => d.parameters.length) = some k)
-- classes are initialised
theorem ini_L : Cond.initialized RL ∈ LW := lwm (tb1 _ (List.mem_of_getElem? (i := 0) rfl)) rfl
theorem ini_X11 : Cond.initialized RX11 ∈ LW := lwm (tb1 _ (List.mem_of_getElem? (i := 1) rfl)) rfl
theorem ini_X9 : Cond.initialized RX9 ∈ LW := lwm (tb1 _ (List.mem_of_getElem? (i := 2) rfl)) rfl
theorem ini_X8 : Cond.initialized RX8 ∈ LW := lwm (tb1 _ (List.mem_of_getElem? (i := 3) rfl)) rfl
theorem ini_X7 : Cond.initialized RX7 ∈ LW := lwm (tb1 _ (List.mem_of_getElem? (i := 4) rfl)) rfl
theorem ini_J9 : Cond.initialized RJ9 ∈ LW := lwm (tb1 _ (List.mem_of_getElem? (i := 5) rfl)) rfl
theorem ini_X1 : Cond.initialized RX1 ∈ LW := lwm (tb1 _ (List.mem_of_getElem? (i := 6) rfl)) rfl
theorem ini_X4 : Cond.initialized RX4 ∈ LW := lwm (tb1 _ (List.mem_of_getElem? (i := 7) rfl)) rfl
theorem ini_X6 : Cond.initialized RX6 ∈ LW := lwm (tb1 _ (List.mem_of_getElem? (i := 8) rfl)) rfl
theorem ini_X2 : Cond.initialized RX2 ∈ LW := lwm (tb1 _ (List.mem_of_getElem? (i := 9) rfl)) rfl
theorem ini_J5 : Cond.initialized RJ5 ∈ LW := lwm (tb1 _ (List.mem_of_getElem? (i := 10) rfl)) rfl
theorem ini_J4 : Cond.initialized RJ4 ∈ LW := lwm (tb1 _ (List.mem_of_getElem? (i := 11) rfl)) rfl
theorem ini_J0 : Cond.initialized RJ0 ∈ LW := lwm (tb1 _ (List.mem_of_getElem? (i := 12) rfl)) rfl
theorem ini_J2 : Cond.initialized RJ2 ∈ LW := lwm (tb1 _ (List.mem_of_getElem? (i := 13) rfl)) rfl
theorem ini_Jx29ce0 : Cond.initialized RJx29ce0 ∈ LW := lwm (tb1 _ (List.mem_of_getElem? (i := 14) rfl)) rfl
theorem ini_X10 : Cond.initialized RX10 ∈ LW := lwm (tb1 _ (List.mem_of_getElem? (i := 15) rfl)) rfl
theorem ini_X12 : Cond.initialized RX12 ∈ LW := lwm (tb1 _ (List.mem_of_getElem? (i := 16) rfl)) rfl
theorem ini_X3 : Cond.initialized RX3 ∈ LW := lwm (tb1 _ (List.mem_of_getElem? (i := 17) rfl)) rfl
theorem ini_java_lang_Throwable : Cond.initialized "java/lang/Throwable" ∈ LW := lwm (tb1 _ (List.mem_of_getElem? (i := 18) rfl)) rfl
theorem ini_java_lang_Exception : Cond.initialized "java/lang/Exception" ∈ LW := lwm (tb1 _ (List.mem_of_getElem? (i := 19) rfl)) rfl
theorem ini_java_lang_RuntimeException : Cond.initialized "java/lang/RuntimeException" ∈ LW := lwm (tb1 _ (List.mem_of_getElem? (i := 20) rfl)) rfl
theorem ini_java_lang_IndexOutOfBoundsException : Cond.initialized "java/lang/IndexOutOfBoundsException" ∈ LW := lwm (tb1 _ (List.mem_of_getElem? (i := 21) rfl)) rfl
theorem ini_java_lang_IllegalArgumentException : Cond.initialized "java/lang/IllegalArgumentException" ∈ LW := lwm (tb1 _ (List.mem_of_getElem? (i := 22) rfl)) rfl
theorem ini_java_lang_IllegalStateException : Cond.initialized "java/lang/IllegalStateException" ∈ LW := lwm (tb1 _ (List.mem_of_getElem? (i := 23) rfl)) rfl
theorem ini_java_lang_UnsupportedOperationException : Cond.initialized "java/lang/UnsupportedOperationException" ∈ LW := lwm (tb1 _ (List.mem_of_getElem? (i := 24) rfl)) rfl
theorem ini_java_util_NoSuchElementException : Cond.initialized "java/util/NoSuchElementException" ∈ LW := lwm (tb1 _ (List.mem_of_getElem? (i := 25) rfl)) rfl
theorem ini_J10 : Cond.initialized RJ10 ∈ LW := lwm (tb1 _ (List.mem_of_getElem? (i := 26) rfl)) rfl
theorem ini_Jx00060 : Cond.initialized RJx00060 ∈ LW := lwm (tb1 _ (List.mem_of_getElem? (i := 27) rfl)) rfl
theorem ini_X5 : Cond.initialized RX5 ∈ LW := lwm (tb1 _ (List.mem_of_getElem? (i := 28) rfl)) rfl
theorem ini_java_lang_ArithmeticException : Cond.initialized "java/lang/ArithmeticException" ∈ LW := lwm (tb1 _ (List.mem_of_getElem? (i := 29) rfl)) rfl
theorem ini_Jx7c733 : Cond.initialized RJx7c733 ∈ LW := lwm (tb1 _ (List.mem_of_getElem? (i := 30) rfl)) rfl
theorem ini_J8 : Cond.initialized RJ8 ∈ LW := lwm (tb1 _ (List.mem_of_getElem? (i := 31) rfl)) rfl
theorem ini_J7 : Cond.initialized RJ7 ∈ LW := lwm (tb1 _ (List.mem_of_getElem? (i := 32) rfl)) rfl
theorem ini_J3 : Cond.initialized RJ3 ∈ LW := lwm (tb1 _ (List.mem_of_getElem? (i := 33) rfl)) rfl
theorem ini_J1 : Cond.initialized RJ1 ∈ LW := lwm (tb1 _ (List.mem_of_getElem? (i := 34) rfl)) rfl
theorem ini_Jxd2413 : Cond.initialized RJxd2413 ∈ LW := lwm (tb1 _ (List.mem_of_getElem? (i := 35) rfl)) rfl
theorem ini_J6 : Cond.initialized RJ6 ∈ LW := lwm (tb1 _ (List.mem_of_getElem? (i := 36) rfl)) rfl
theorem ini_X0 : Cond.initialized RX0 ∈ LW := lwm (tb1 _ (List.mem_of_getElem? (i := 37) rfl)) rfl
theorem isb_X11 : Cond.instantiable RX11 10 ∈ LW := lwm (tb1 _ (List.mem_of_getElem? (i := 39) rfl)) rfl
theorem isb_X9 : Cond.instantiable RX9 9 ∈ LW := lwm (tb1 _ (List.mem_of_getElem? (i := 47) rfl)) rfl
theorem isb_X8 : Cond.instantiable RX8 3 ∈ LW := lwm (tb1 _ (List.mem_of_getElem? (i := 53) rfl)) rfl
theorem isb_X7 : Cond.instantiable RX7 1 ∈ LW := lwm (tb1 _ (List.mem_of_getElem? (i := 59) rfl)) rfl
theorem isb_X1 : Cond.instantiable RX1 7 ∈ LW := lwm (tb1 _ (List.mem_of_getElem? (i := 89) rfl)) rfl
theorem isb_X4 : Cond.instantiable RX4 3 ∈ LW := lwm (tb1 _ (List.mem_of_getElem? (i := 169) rfl)) rfl
theorem isb_X6 : Cond.instantiable RX6 2 ∈ LW := lwm (tb1 _ (List.mem_of_getElem? (i := 189) rfl)) rfl
theorem isb_X2 : Cond.instantiable RX2 4 ∈ LW := lwm (tb1 _ (List.mem_of_getElem? (i := 204) rfl)) rfl
theorem isb_J4 : Cond.instantiable RJ4 4 ∈ LW := lwm (tb1 _ (List.mem_of_getElem? (i := 210) rfl)) rfl
theorem isb_Jx7c733 : Cond.instantiable RJx7c733 6 ∈ LW := lwm (tb2 _ (List.mem_of_getElem? (i := 107) rfl)) rfl
theorem isb_J0 : Cond.instantiable RJ0 4 ∈ LW := lwm (tb3 _ (List.mem_of_getElem? (i := 22) rfl)) rfl
theorem isb_java_lang_IllegalArgumentException : Cond.instantiable "java/lang/IllegalArgumentException" 6 ∈ LW := lwm (tb3 _ (List.mem_of_getElem? (i := 54) rfl)) rfl
theorem isb_java_lang_Throwable : Cond.instantiable "java/lang/Throwable" 6 ∈ LW := lwm (tb3 _ (List.mem_of_getElem? (i := 97) rfl)) rfl
theorem isb_Jx00060 : Cond.instantiable RJx00060 6 ∈ LW := lwm (tb3 _ (List.mem_of_getElem? (i := 178) rfl)) rfl
theorem isb_X5 : Cond.instantiable RX5 3 ∈ LW := lwm (tb4 _ (List.mem_of_getElem? (i := 45) rfl)) rfl
theorem isb_java_lang_IndexOutOfBoundsException : Cond.instantiable "java/lang/IndexOutOfBoundsException" 6 ∈ LW := lwm (tb4 _ (List.mem_of_getElem? (i := 161) rfl)) rfl
theorem isb_java_lang_IllegalStateException : Cond.instantiable "java/lang/IllegalStateException" 6 ∈ LW := lwm (tb4 _ (List.mem_of_getElem? (i := 179) rfl)) rfl
theorem isb_java_lang_UnsupportedOperationException : Cond.instantiable "java/lang/UnsupportedOperationException" 6 ∈ LW := lwm (tb4 _ (List.mem_of_getElem? (i := 197) rfl)) rfl
theorem isb_java_util_NoSuchElementException : Cond.instantiable "java/util/NoSuchElementException" 6 ∈ LW := lwm (tb4 _ (List.mem_of_getElem? (i := 215) rfl)) rfl
theorem isb_java_lang_ArithmeticException : Cond.instantiable "java/lang/ArithmeticException" 6 ∈ LW := lwm (tb6 _ (List.mem_of_getElem? (i := 121) rfl)) rfl
theorem isb_X12 : Cond.instantiable RX12 17 ∈ LW := lwm (tb7 _ (List.mem_of_getElem? (i := 122) rfl)) rfl
-- fields, classes, methods as a class links them
theorem fl_X7_13 : Cond.fieldLink RX7 13 "DropMarket$Row" "cells" "[I" ∈ LW := lwm (tb1 _ (List.mem_of_getElem? (i := 67) rfl)) rfl
theorem fl_X8_14 : Cond.fieldLink RX8 14 "DropMarket$Stalls" "money" "LDropMarket$Row;" ∈ LW := lwm (tb1 _ (List.mem_of_getElem? (i := 72) rfl)) rfl
theorem fl_X9_92 : Cond.fieldLink RX9 92 "DropMarket$Stalls" "money" "LDropMarket$Row;" ∈ LW := lwm (tb1 _ (List.mem_of_getElem? (i := 73) rfl)) rfl
theorem fl_X11_130 : Cond.fieldLink RX11 130 "DropMarket$Stalls" "money" "LDropMarket$Row;" ∈ LW := lwm (tb1 _ (List.mem_of_getElem? (i := 74) rfl)) rfl
theorem fl_X8_20 : Cond.fieldLink RX8 20 "DropMarket$Stalls" "drops" "LDropMarket$Row;" ∈ LW := lwm (tb1 _ (List.mem_of_getElem? (i := 75) rfl)) rfl
theorem fl_X9_104 : Cond.fieldLink RX9 104 "DropMarket$Stalls" "drops" "LDropMarket$Row;" ∈ LW := lwm (tb1 _ (List.mem_of_getElem? (i := 76) rfl)) rfl
theorem fl_X11_139 : Cond.fieldLink RX11 139 "DropMarket$Stalls" "drops" "LDropMarket$Row;" ∈ LW := lwm (tb1 _ (List.mem_of_getElem? (i := 77) rfl)) rfl
theorem fl_X8_23 : Cond.fieldLink RX8 23 "DropMarket$Stalls" "count" "I" ∈ LW := lwm (tb1 _ (List.mem_of_getElem? (i := 78) rfl)) rfl
theorem fl_X9_110 : Cond.fieldLink RX9 110 "DropMarket$Stalls" "count" "I" ∈ LW := lwm (tb1 _ (List.mem_of_getElem? (i := 79) rfl)) rfl
theorem fl_X11_123 : Cond.fieldLink RX11 123 "DropMarket$Stalls" "count" "I" ∈ LW := lwm (tb1 _ (List.mem_of_getElem? (i := 80) rfl)) rfl
theorem fl_X1_14 : Cond.fieldLink RX1 14 "DropMarket$Book" "numbers" "LDropMarket$Row;" ∈ LW := lwm (tb1 _ (List.mem_of_getElem? (i := 96) rfl)) rfl
theorem fl_X11_173 : Cond.fieldLink RX11 173 "DropMarket$Book" "numbers" "LDropMarket$Row;" ∈ LW := lwm (tb1 _ (List.mem_of_getElem? (i := 97) rfl)) rfl
theorem fl_X1_20 : Cond.fieldLink RX1 20 "DropMarket$Book" "stalls" "LDropMarket$Row;" ∈ LW := lwm (tb1 _ (List.mem_of_getElem? (i := 98) rfl)) rfl
theorem fl_X9_137 : Cond.fieldLink RX9 137 "DropMarket$Book" "stalls" "LDropMarket$Row;" ∈ LW := lwm (tb1 _ (List.mem_of_getElem? (i := 99) rfl)) rfl
theorem fl_X11_176 : Cond.fieldLink RX11 176 "DropMarket$Book" "stalls" "LDropMarket$Row;" ∈ LW := lwm (tb1 _ (List.mem_of_getElem? (i := 100) rfl)) rfl
theorem fl_X1_23 : Cond.fieldLink RX1 23 "DropMarket$Book" "sides" "LDropMarket$Row;" ∈ LW := lwm (tb1 _ (List.mem_of_getElem? (i := 101) rfl)) rfl
theorem fl_X1_26 : Cond.fieldLink RX1 26 "DropMarket$Book" "prices" "LDropMarket$Row;" ∈ LW := lwm (tb1 _ (List.mem_of_getElem? (i := 102) rfl)) rfl
theorem fl_X6_36 : Cond.fieldLink RX6 36 "DropMarket$Book" "prices" "LDropMarket$Row;" ∈ LW := lwm (tb1 _ (List.mem_of_getElem? (i := 103) rfl)) rfl
theorem fl_X9_125 : Cond.fieldLink RX9 125 "DropMarket$Book" "prices" "LDropMarket$Row;" ∈ LW := lwm (tb1 _ (List.mem_of_getElem? (i := 104) rfl)) rfl
theorem fl_X11_185 : Cond.fieldLink RX11 185 "DropMarket$Book" "prices" "LDropMarket$Row;" ∈ LW := lwm (tb1 _ (List.mem_of_getElem? (i := 105) rfl)) rfl
theorem fl_X1_29 : Cond.fieldLink RX1 29 "DropMarket$Book" "quantities" "LDropMarket$Row;" ∈ LW := lwm (tb1 _ (List.mem_of_getElem? (i := 106) rfl)) rfl
theorem fl_X6_43 : Cond.fieldLink RX6 43 "DropMarket$Book" "quantities" "LDropMarket$Row;" ∈ LW := lwm (tb1 _ (List.mem_of_getElem? (i := 107) rfl)) rfl
theorem fl_X9_128 : Cond.fieldLink RX9 128 "DropMarket$Book" "quantities" "LDropMarket$Row;" ∈ LW := lwm (tb1 _ (List.mem_of_getElem? (i := 108) rfl)) rfl
theorem fl_X11_188 : Cond.fieldLink RX11 188 "DropMarket$Book" "quantities" "LDropMarket$Row;" ∈ LW := lwm (tb1 _ (List.mem_of_getElem? (i := 109) rfl)) rfl
theorem fl_X1_32 : Cond.fieldLink RX1 32 "DropMarket$Book" "minutes" "LDropMarket$Row;" ∈ LW := lwm (tb1 _ (List.mem_of_getElem? (i := 110) rfl)) rfl
theorem fl_X9_155 : Cond.fieldLink RX9 155 "DropMarket$Book" "minutes" "LDropMarket$Row;" ∈ LW := lwm (tb1 _ (List.mem_of_getElem? (i := 111) rfl)) rfl
theorem fl_X11_191 : Cond.fieldLink RX11 191 "DropMarket$Book" "minutes" "LDropMarket$Row;" ∈ LW := lwm (tb1 _ (List.mem_of_getElem? (i := 112) rfl)) rfl
theorem fl_X1_35 : Cond.fieldLink RX1 35 "DropMarket$Book" "count" "I" ∈ LW := lwm (tb1 _ (List.mem_of_getElem? (i := 113) rfl)) rfl
theorem fl_X6_26 : Cond.fieldLink RX6 26 "DropMarket$Book" "count" "I" ∈ LW := lwm (tb1 _ (List.mem_of_getElem? (i := 114) rfl)) rfl
theorem fl_X9_154 : Cond.fieldLink RX9 154 "DropMarket$Book" "count" "I" ∈ LW := lwm (tb1 _ (List.mem_of_getElem? (i := 115) rfl)) rfl
theorem fl_X11_165 : Cond.fieldLink RX11 165 "DropMarket$Book" "count" "I" ∈ LW := lwm (tb1 _ (List.mem_of_getElem? (i := 116) rfl)) rfl
theorem fl_X9_12 : Cond.fieldLink RX9 12 "DropMarket$State" "stalls" "LDropMarket$Stalls;" ∈ LW := lwm (tb1 _ (List.mem_of_getElem? (i := 132) rfl)) rfl
theorem fl_X11_73 : Cond.fieldLink RX11 73 "DropMarket$State" "stalls" "LDropMarket$Stalls;" ∈ LW := lwm (tb1 _ (List.mem_of_getElem? (i := 133) rfl)) rfl
theorem fl_X9_21 : Cond.fieldLink RX9 21 "DropMarket$State" "book" "LDropMarket$Book;" ∈ LW := lwm (tb1 _ (List.mem_of_getElem? (i := 134) rfl)) rfl
theorem fl_X11_161 : Cond.fieldLink RX11 161 "DropMarket$State" "book" "LDropMarket$Book;" ∈ LW := lwm (tb1 _ (List.mem_of_getElem? (i := 135) rfl)) rfl
theorem fl_X9_25 : Cond.fieldLink RX9 25 "DropMarket$State" "poolIsOpen" "Z" ∈ LW := lwm (tb1 _ (List.mem_of_getElem? (i := 136) rfl)) rfl
theorem fl_X11_246 : Cond.fieldLink RX11 246 "DropMarket$State" "poolIsOpen" "Z" ∈ LW := lwm (tb1 _ (List.mem_of_getElem? (i := 137) rfl)) rfl
theorem fl_X9_29 : Cond.fieldLink RX9 29 "DropMarket$State" "minute" "I" ∈ LW := lwm (tb1 _ (List.mem_of_getElem? (i := 138) rfl)) rfl
theorem fl_X11_263 : Cond.fieldLink RX11 263 "DropMarket$State" "minute" "I" ∈ LW := lwm (tb1 _ (List.mem_of_getElem? (i := 139) rfl)) rfl
theorem fl_X9_33 : Cond.fieldLink RX9 33 "DropMarket$State" "nextNumber" "I" ∈ LW := lwm (tb1 _ (List.mem_of_getElem? (i := 140) rfl)) rfl
theorem fl_X9_36 : Cond.fieldLink RX9 36 "DropMarket$State" "latestPrice" "I" ∈ LW := lwm (tb1 _ (List.mem_of_getElem? (i := 141) rfl)) rfl
theorem fl_X11_228 : Cond.fieldLink RX11 228 "DropMarket$State" "latestPrice" "I" ∈ LW := lwm (tb1 _ (List.mem_of_getElem? (i := 142) rfl)) rfl
theorem fl_X9_39 : Cond.fieldLink RX9 39 "DropMarket$State" "trades" "I" ∈ LW := lwm (tb1 _ (List.mem_of_getElem? (i := 143) rfl)) rfl
theorem fl_X11_223 : Cond.fieldLink RX11 223 "DropMarket$State" "trades" "I" ∈ LW := lwm (tb1 _ (List.mem_of_getElem? (i := 144) rfl)) rfl
theorem fl_X9_42 : Cond.fieldLink RX9 42 "DropMarket$State" "tradedDrops" "I" ∈ LW := lwm (tb1 _ (List.mem_of_getElem? (i := 145) rfl)) rfl
theorem fl_X11_231 : Cond.fieldLink RX11 231 "DropMarket$State" "tradedDrops" "I" ∈ LW := lwm (tb1 _ (List.mem_of_getElem? (i := 146) rfl)) rfl
theorem fl_X9_45 : Cond.fieldLink RX9 45 "DropMarket$State" "paidMoney" "J" ∈ LW := lwm (tb1 _ (List.mem_of_getElem? (i := 147) rfl)) rfl
theorem fl_X11_234 : Cond.fieldLink RX11 234 "DropMarket$State" "paidMoney" "J" ∈ LW := lwm (tb1 _ (List.mem_of_getElem? (i := 148) rfl)) rfl
theorem fl_X4_11 : Cond.fieldLink RX4 11 "DropMarket$History" "ring" "[LDropMarket$State;" ∈ LW := lwm (tb1 _ (List.mem_of_getElem? (i := 177) rfl)) rfl
theorem fl_X4_17 : Cond.fieldLink RX4 17 "DropMarket$History" "newest" "I" ∈ LW := lwm (tb1 _ (List.mem_of_getElem? (i := 178) rfl)) rfl
theorem fl_X4_21 : Cond.fieldLink RX4 21 "DropMarket$History" "depth" "I" ∈ LW := lwm (tb1 _ (List.mem_of_getElem? (i := 179) rfl)) rfl
theorem fl_X11_349 : Cond.fieldLink RX11 349 "DropMarket$History" "depth" "I" ∈ LW := lwm (tb1 _ (List.mem_of_getElem? (i := 180) rfl)) rfl
theorem fl_X6_14 : Cond.fieldLink RX6 14 "DropMarket$PriceSums" "buying" "LDropMarket$Row;" ∈ LW := lwm (tb1 _ (List.mem_of_getElem? (i := 196) rfl)) rfl
theorem fl_X6_20 : Cond.fieldLink RX6 20 "DropMarket$PriceSums" "selling" "LDropMarket$Row;" ∈ LW := lwm (tb1 _ (List.mem_of_getElem? (i := 197) rfl)) rfl
theorem fl_J5_18 : Cond.fieldLink RJ5 18 "java/lang/String" "COMPACT_STRINGS" "Z" ∈ LW := lwm (tb1 _ (List.mem_of_getElem? (i := 218) rfl)) rfl
theorem fl_J5_15 : Cond.fieldLink RJ5 15 "java/lang/AbstractStringBuilder" "value" "[B" ∈ LW := lwm (tb1 _ (List.mem_of_getElem? (i := 227) rfl)) rfl
theorem fl_J5_22 : Cond.fieldLink RJ5 22 "java/lang/AbstractStringBuilder" "coder" "B" ∈ LW := lwm (tb1 _ (List.mem_of_getElem? (i := 228) rfl)) rfl
theorem fl_J5_73 : Cond.fieldLink RJ5 73 "java/lang/AbstractStringBuilder" "maybeLatin1" "Z" ∈ LW := lwm (tb1 _ (List.mem_of_getElem? (i := 229) rfl)) rfl
theorem fl_J0_1048 : Cond.fieldLink RJ0 1048 "java/lang/AbstractStringBuilder" "maybeLatin1" "Z" ∈ LW := lwm (tb1 _ (List.mem_of_getElem? (i := 230) rfl)) rfl
theorem fl_J5_79 : Cond.fieldLink RJ5 79 "java/lang/AbstractStringBuilder" "count" "I" ∈ LW := lwm (tb1 _ (List.mem_of_getElem? (i := 231) rfl)) rfl
theorem fl_X2_27 : Cond.fieldLink RX2 27 "DropMarket$Verb" "OPEN" "LDropMarket$Verb;" ∈ LW := lwm (tb2 _ (List.mem_of_getElem? (i := 4) rfl)) rfl
theorem fl_X2_12 : Cond.fieldLink RX2 12 "DropMarket$CommandText" "buffer" "Ljava/lang/StringBuilder;" ∈ LW := lwm (tb2 _ (List.mem_of_getElem? (i := 6) rfl)) rfl
theorem fl_X2_23 : Cond.fieldLink RX2 23 "DropMarket$CommandText" "parameters" "LDropMarket$Row;" ∈ LW := lwm (tb2 _ (List.mem_of_getElem? (i := 7) rfl)) rfl
theorem fl_X11_419 : Cond.fieldLink RX11 419 "DropMarket$CommandText" "parameters" "LDropMarket$Row;" ∈ LW := lwm (tb2 _ (List.mem_of_getElem? (i := 8) rfl)) rfl
theorem fl_X2_33 : Cond.fieldLink RX2 33 "DropMarket$CommandText" "verb" "LDropMarket$Verb;" ∈ LW := lwm (tb2 _ (List.mem_of_getElem? (i := 9) rfl)) rfl
theorem fl_X11_428 : Cond.fieldLink RX11 428 "DropMarket$CommandText" "verb" "LDropMarket$Verb;" ∈ LW := lwm (tb2 _ (List.mem_of_getElem? (i := 10) rfl)) rfl
theorem fl_X2_36 : Cond.fieldLink RX2 36 "DropMarket$CommandText" "position" "I" ∈ LW := lwm (tb2 _ (List.mem_of_getElem? (i := 11) rfl)) rfl
theorem fl_X11_314 : Cond.fieldLink RX11 314 "DropMarket$CommandText" "position" "I" ∈ LW := lwm (tb2 _ (List.mem_of_getElem? (i := 12) rfl)) rfl
theorem fl_X11_10 : Cond.fieldLink RX11 10 "DropMarket" "state" "LDropMarket$State;" ∈ LW := lwm (tb2 _ (List.mem_of_getElem? (i := 24) rfl)) rfl
theorem fl_X11_16 : Cond.fieldLink RX11 16 "DropMarket" "beforeText" "LDropMarket$State;" ∈ LW := lwm (tb2 _ (List.mem_of_getElem? (i := 25) rfl)) rfl
theorem fl_X11_19 : Cond.fieldLink RX11 19 "DropMarket" "snapshot" "LDropMarket$State;" ∈ LW := lwm (tb2 _ (List.mem_of_getElem? (i := 26) rfl)) rfl
theorem fl_X11_25 : Cond.fieldLink RX11 25 "DropMarket" "history" "LDropMarket$History;" ∈ LW := lwm (tb2 _ (List.mem_of_getElem? (i := 27) rfl)) rfl
theorem fl_X11_32 : Cond.fieldLink RX11 32 "DropMarket" "sums" "LDropMarket$PriceSums;" ∈ LW := lwm (tb2 _ (List.mem_of_getElem? (i := 28) rfl)) rfl
theorem fl_X11_39 : Cond.fieldLink RX11 39 "DropMarket" "text" "LDropMarket$CommandText;" ∈ LW := lwm (tb2 _ (List.mem_of_getElem? (i := 29) rfl)) rfl
theorem fl_X11_46 : Cond.fieldLink RX11 46 "DropMarket" "line" "Ljava/lang/StringBuilder;" ∈ LW := lwm (tb2 _ (List.mem_of_getElem? (i := 30) rfl)) rfl
theorem fl_X11_50 : Cond.fieldLink RX11 50 "DropMarket" "hasSnapshot" "Z" ∈ LW := lwm (tb2 _ (List.mem_of_getElem? (i := 31) rfl)) rfl
theorem fl_X11_54 : Cond.fieldLink RX11 54 "DropMarket" "lastError" "I" ∈ LW := lwm (tb2 _ (List.mem_of_getElem? (i := 32) rfl)) rfl
theorem fl_X11_58 : Cond.fieldLink RX11 58 "DropMarket" "lastFailure" "I" ∈ LW := lwm (tb2 _ (List.mem_of_getElem? (i := 33) rfl)) rfl
theorem fl_J0_1053 : Cond.fieldLink RJ0 1053 "jdk/internal/util/Preconditions" "SIOOBE_FORMATTER" "Ljava/util/function/BiFunction;" ∈ LW := lwm (tb2 _ (List.mem_of_getElem? (i := 175) rfl)) rfl
theorem fl_J2_44 : Cond.fieldLink RJ2 44 "java/lang/StringUTF16" "$assertionsDisabled" "Z" ∈ LW := lwm (tb2 _ (List.mem_of_getElem? (i := 183) rfl)) rfl
theorem fl_J2_59 : Cond.fieldLink RJ2 59 "java/lang/StringUTF16" "HI_BYTE_SHIFT" "I" ∈ LW := lwm (tb2 _ (List.mem_of_getElem? (i := 185) rfl)) rfl
theorem fl_J2_63 : Cond.fieldLink RJ2 63 "java/lang/StringUTF16" "LO_BYTE_SHIFT" "I" ∈ LW := lwm (tb2 _ (List.mem_of_getElem? (i := 187) rfl)) rfl
theorem fl_J0_38 : Cond.fieldLink RJ0 38 "java/lang/String" "COMPACT_STRINGS" "Z" ∈ LW := lwm (tb2 _ (List.mem_of_getElem? (i := 197) rfl)) rfl
theorem fl_J6_83 : Cond.fieldLink RJ6 83 "java/lang/Integer" "DigitOnes" "[B" ∈ LW := lwm (tb3 _ (List.mem_of_getElem? (i := 5) rfl)) rfl
theorem fl_J6_87 : Cond.fieldLink RJ6 87 "java/lang/Integer" "DigitTens" "[B" ∈ LW := lwm (tb3 _ (List.mem_of_getElem? (i := 7) rfl)) rfl
theorem fl_J2_403 : Cond.fieldLink RJ2 403 "java/lang/Integer" "DigitOnes" "[B" ∈ LW := lwm (tb3 _ (List.mem_of_getElem? (i := 15) rfl)) rfl
theorem fl_J2_407 : Cond.fieldLink RJ2 407 "java/lang/Integer" "DigitTens" "[B" ∈ LW := lwm (tb3 _ (List.mem_of_getElem? (i := 16) rfl)) rfl
theorem fl_J0_9 : Cond.fieldLink RJ0 9 "java/lang/String" "value" "[B" ∈ LW := lwm (tb3 _ (List.mem_of_getElem? (i := 143) rfl)) rfl
theorem fl_J0_15 : Cond.fieldLink RJ0 15 "java/lang/String" "coder" "B" ∈ LW := lwm (tb3 _ (List.mem_of_getElem? (i := 144) rfl)) rfl
theorem fl_X5_9 : Cond.fieldLink RX5 9 "DropMarket$PoolChoice" "price" "I" ∈ LW := lwm (tb4 _ (List.mem_of_getElem? (i := 50) rfl)) rfl
theorem fl_X9_165 : Cond.fieldLink RX9 165 "DropMarket$PoolChoice" "price" "I" ∈ LW := lwm (tb4 _ (List.mem_of_getElem? (i := 51) rfl)) rfl
theorem fl_X11_289 : Cond.fieldLink RX11 289 "DropMarket$PoolChoice" "price" "I" ∈ LW := lwm (tb4 _ (List.mem_of_getElem? (i := 52) rfl)) rfl
theorem fl_X5_15 : Cond.fieldLink RX5 15 "DropMarket$PoolChoice" "volume" "I" ∈ LW := lwm (tb4 _ (List.mem_of_getElem? (i := 53) rfl)) rfl
theorem fl_X9_170 : Cond.fieldLink RX9 170 "DropMarket$PoolChoice" "volume" "I" ∈ LW := lwm (tb4 _ (List.mem_of_getElem? (i := 54) rfl)) rfl
theorem fl_X5_18 : Cond.fieldLink RX5 18 "DropMarket$PoolChoice" "surplus" "I" ∈ LW := lwm (tb4 _ (List.mem_of_getElem? (i := 55) rfl)) rfl
theorem fl_X9_53 : Cond.fieldLink RX9 53 "DropMarket$Fault" "OUT_OF_RANGE" "LDropMarket$Fault;" ∈ LW := lwm (tb4 _ (List.mem_of_getElem? (i := 145) rfl)) rfl
theorem fl_X9_63 : Cond.fieldLink RX9 63 "DropMarket$Fault" "WRONG_STATE" "LDropMarket$Fault;" ∈ LW := lwm (tb4 _ (List.mem_of_getElem? (i := 151) rfl)) rfl
theorem fl_X9_66 : Cond.fieldLink RX9 66 "DropMarket$Fault" "NOTHING" "LDropMarket$Fault;" ∈ LW := lwm (tb4 _ (List.mem_of_getElem? (i := 153) rfl)) rfl
theorem fl_X11_374 : Cond.fieldLink RX11 374 "DropMarket$Fault" "NO_STALL" "LDropMarket$Fault;" ∈ LW := lwm (tb4 _ (List.mem_of_getElem? (i := 158) rfl)) rfl
theorem fl_X11_379 : Cond.fieldLink RX11 379 "DropMarket$Fault" "OUT_OF_RANGE" "LDropMarket$Fault;" ∈ LW := lwm (tb4 _ (List.mem_of_getElem? (i := 173) rfl)) rfl
theorem fl_X11_384 : Cond.fieldLink RX11 384 "DropMarket$Fault" "WRONG_STATE" "LDropMarket$Fault;" ∈ LW := lwm (tb4 _ (List.mem_of_getElem? (i := 177) rfl)) rfl
theorem fl_X11_389 : Cond.fieldLink RX11 389 "DropMarket$Fault" "NOT_ENOUGH" "LDropMarket$Fault;" ∈ LW := lwm (tb4 _ (List.mem_of_getElem? (i := 194) rfl)) rfl
theorem fl_X11_397 : Cond.fieldLink RX11 397 "DropMarket$Fault" "NO_ORDER" "LDropMarket$Fault;" ∈ LW := lwm (tb4 _ (List.mem_of_getElem? (i := 212) rfl)) rfl
theorem fl_X9_73 : Cond.fieldLink RX9 73 "DropMarket$Fault" "NO_STALL" "LDropMarket$Fault;" ∈ LW := lwm (tb5 _ (List.mem_of_getElem? (i := 35) rfl)) rfl
theorem fl_X9_83 : Cond.fieldLink RX9 83 "DropMarket$Fault" "NOT_ENOUGH" "LDropMarket$Fault;" ∈ LW := lwm (tb5 _ (List.mem_of_getElem? (i := 36) rfl)) rfl
theorem fl_X9_89 : Cond.fieldLink RX9 89 "DropMarket$Fault" "NO_ORDER" "LDropMarket$Fault;" ∈ LW := lwm (tb5 _ (List.mem_of_getElem? (i := 130) rfl)) rfl
theorem fl_X2_68 : Cond.fieldLink RX2 68 "DropMarket$CommandText" "VERBS" "[LDropMarket$Verb;" ∈ LW := lwm (tb7 _ (List.mem_of_getElem? (i := 18) rfl)) rfl
theorem fl_X11_422 : Cond.fieldLink RX11 422 "DropMarket$1" "$SwitchMap$DropMarket$Verb" "[I" ∈ LW := lwm (tb7 _ (List.mem_of_getElem? (i := 66) rfl)) rfl
theorem fl_X11_334 : Cond.fieldLink RX11 334 "DropMarket$Fault" "NOTHING" "LDropMarket$Fault;" ∈ LW := lwm (tb7 _ (List.mem_of_getElem? (i := 74) rfl)) rfl
theorem fl_X12_9 : Cond.fieldLink RX12 9 "DropMarketModel" "s" "[I" ∈ LW := lwm (tb7 _ (List.mem_of_getElem? (i := 127) rfl)) rfl
theorem fl_X12_13 : Cond.fieldLink RX12 13 "DropMarketModel" "before" "[I" ∈ LW := lwm (tb7 _ (List.mem_of_getElem? (i := 128) rfl)) rfl
theorem fl_X12_16 : Cond.fieldLink RX12 16 "DropMarketModel" "saved" "[I" ∈ LW := lwm (tb7 _ (List.mem_of_getElem? (i := 129) rfl)) rfl
theorem fl_X12_238 : Cond.fieldLink RX12 238 "DropMarketModel" "isSaved" "Z" ∈ LW := lwm (tb7 _ (List.mem_of_getElem? (i := 130) rfl)) rfl
theorem fl_X12_19 : Cond.fieldLink RX12 19 "DropMarketModel" "past" "[I" ∈ LW := lwm (tb7 _ (List.mem_of_getElem? (i := 131) rfl)) rfl
theorem fl_X12_48 : Cond.fieldLink RX12 48 "DropMarketModel" "pastMany" "I" ∈ LW := lwm (tb7 _ (List.mem_of_getElem? (i := 132) rfl)) rfl
theorem fl_X12_39 : Cond.fieldLink RX12 39 "DropMarketModel" "thrown" "I" ∈ LW := lwm (tb7 _ (List.mem_of_getElem? (i := 133) rfl)) rfl
theorem fl_X12_22 : Cond.fieldLink RX12 22 "DropMarketModel" "line" "[C" ∈ LW := lwm (tb7 _ (List.mem_of_getElem? (i := 134) rfl)) rfl
theorem fl_X12_165 : Cond.fieldLink RX12 165 "DropMarketModel" "lineMany" "I" ∈ LW := lwm (tb7 _ (List.mem_of_getElem? (i := 135) rfl)) rfl
theorem fl_X12_26 : Cond.fieldLink RX12 26 "DropMarketModel" "text" "[C" ∈ LW := lwm (tb7 _ (List.mem_of_getElem? (i := 136) rfl)) rfl
theorem fl_X12_182 : Cond.fieldLink RX12 182 "DropMarketModel" "length" "I" ∈ LW := lwm (tb7 _ (List.mem_of_getElem? (i := 137) rfl)) rfl
theorem fl_X12_185 : Cond.fieldLink RX12 185 "DropMarketModel" "at" "I" ∈ LW := lwm (tb7 _ (List.mem_of_getElem? (i := 138) rfl)) rfl
theorem fl_X12_192 : Cond.fieldLink RX12 192 "DropMarketModel" "isWrong" "Z" ∈ LW := lwm (tb7 _ (List.mem_of_getElem? (i := 139) rfl)) rfl
theorem fl_X12_29 : Cond.fieldLink RX12 29 "DropMarketModel" "errorAt" "I" ∈ LW := lwm (tb7 _ (List.mem_of_getElem? (i := 140) rfl)) rfl
theorem fl_X12_33 : Cond.fieldLink RX12 33 "DropMarketModel" "failedAt" "I" ∈ LW := lwm (tb7 _ (List.mem_of_getElem? (i := 141) rfl)) rfl
theorem fl_X12_36 : Cond.fieldLink RX12 36 "DropMarketModel" "commands" "[I" ∈ LW := lwm (tb7 _ (List.mem_of_getElem? (i := 142) rfl)) rfl
theorem fl_X12_213 : Cond.fieldLink RX12 213 "DropMarketModel" "commandMany" "I" ∈ LW := lwm (tb7 _ (List.mem_of_getElem? (i := 143) rfl)) rfl
theorem fl_X2_72 : Cond.fieldLink RX2 72 "DropMarket$Verb" "word" "Ljava/lang/String;" ∈ LW := lwm (tb9 _ (List.mem_of_getElem? (i := 129) rfl)) rfl
theorem fl_X2_97 : Cond.fieldLink RX2 97 "DropMarket$Verb" "digits" "I" ∈ LW := lwm (tb9 _ (List.mem_of_getElem? (i := 130) rfl)) rfl
theorem fl_X2_100 : Cond.fieldLink RX2 100 "DropMarket$Verb" "numbers" "I" ∈ LW := lwm (tb9 _ (List.mem_of_getElem? (i := 131) rfl)) rfl
theorem fl_Jx29ce0_7 : Cond.fieldLink RJx29ce0 7 "java/lang/Enum" "ordinal" "I" ∈ LW := lwm (tb9 _ (List.mem_of_getElem? (i := 132) rfl)) rfl
theorem cl_L_8 : Cond.classLink RL 8 RX11 ∈ LW := lwm (tb1 _ (List.mem_of_getElem? (i := 38) rfl)) rfl
theorem cl_X11_7 : Cond.classLink RX11 7 RX9 ∈ LW := lwm (tb1 _ (List.mem_of_getElem? (i := 46) rfl)) rfl
theorem cl_X9_9 : Cond.classLink RX9 9 RX8 ∈ LW := lwm (tb1 _ (List.mem_of_getElem? (i := 52) rfl)) rfl
theorem cl_X8_9 : Cond.classLink RX8 9 RX7 ∈ LW := lwm (tb1 _ (List.mem_of_getElem? (i := 58) rfl)) rfl
theorem cl_X9_18 : Cond.classLink RX9 18 RX1 ∈ LW := lwm (tb1 _ (List.mem_of_getElem? (i := 88) rfl)) rfl
theorem cl_X1_9 : Cond.classLink RX1 9 RX7 ∈ LW := lwm (tb1 _ (List.mem_of_getElem? (i := 94) rfl)) rfl
theorem cl_X11_22 : Cond.classLink RX11 22 RX4 ∈ LW := lwm (tb1 _ (List.mem_of_getElem? (i := 168) rfl)) rfl
theorem cl_X4_9 : Cond.classLink RX4 9 RX9 ∈ LW := lwm (tb1 _ (List.mem_of_getElem? (i := 174) rfl)) rfl
theorem cl_X11_29 : Cond.classLink RX11 29 RX6 ∈ LW := lwm (tb1 _ (List.mem_of_getElem? (i := 188) rfl)) rfl
theorem cl_X6_9 : Cond.classLink RX6 9 RX7 ∈ LW := lwm (tb1 _ (List.mem_of_getElem? (i := 194) rfl)) rfl
theorem cl_X11_36 : Cond.classLink RX11 36 RX2 ∈ LW := lwm (tb1 _ (List.mem_of_getElem? (i := 203) rfl)) rfl
theorem cl_X2_9 : Cond.classLink RX2 9 RJ4 ∈ LW := lwm (tb1 _ (List.mem_of_getElem? (i := 209) rfl)) rfl
theorem cl_X2_18 : Cond.classLink RX2 18 RX7 ∈ LW := lwm (tb2 _ (List.mem_of_getElem? (i := 2) rfl)) rfl
theorem cl_X11_43 : Cond.classLink RX11 43 RJ4 ∈ LW := lwm (tb2 _ (List.mem_of_getElem? (i := 22) rfl)) rfl
theorem cl_J5_129 : Cond.classLink RJ5 129 RJx7c733 ∈ LW := lwm (tb2 _ (List.mem_of_getElem? (i := 106) rfl)) rfl
theorem cl_Jx7c733_10 : Cond.classLink RJx7c733 10 RJ4 ∈ LW := lwm (tb2 _ (List.mem_of_getElem? (i := 111) rfl)) rfl
theorem cl_J7_311 : Cond.classLink RJ7 311 "[B" ∈ LW := lwm (tb2 _ (List.mem_of_getElem? (i := 151) rfl)) rfl
theorem cl_J4_18 : Cond.classLink RJ4 18 RJ0 ∈ LW := lwm (tb3 _ (List.mem_of_getElem? (i := 21) rfl)) rfl
theorem cl_J7_43 : Cond.classLink RJ7 43 "java/lang/IllegalArgumentException" ∈ LW := lwm (tb3 _ (List.mem_of_getElem? (i := 53) rfl)) rfl
theorem cl_J7_45 : Cond.classLink RJ7 45 RJ4 ∈ LW := lwm (tb3 _ (List.mem_of_getElem? (i := 99) rfl)) rfl
theorem cl_J7_68 : Cond.classLink RJ7 68 RJx00060 ∈ LW := lwm (tb3 _ (List.mem_of_getElem? (i := 177) rfl)) rfl
theorem cl_Jx00060_10 : Cond.classLink RJx00060 10 RJ4 ∈ LW := lwm (tb3 _ (List.mem_of_getElem? (i := 191) rfl)) rfl
theorem cl_X1_80 : Cond.classLink RX1 80 RX5 ∈ LW := lwm (tb4 _ (List.mem_of_getElem? (i := 44) rfl)) rfl
theorem cl_X6_50 : Cond.classLink RX6 50 RX5 ∈ LW := lwm (tb4 _ (List.mem_of_getElem? (i := 83) rfl)) rfl
theorem cl_L_13 : Cond.classLink RL 13 "java/lang/IllegalArgumentException" ∈ LW := lwm (tb4 _ (List.mem_of_getElem? (i := 132) rfl)) rfl
theorem cl_L_15 : Cond.classLink RL 15 "java/lang/IllegalStateException" ∈ LW := lwm (tb4 _ (List.mem_of_getElem? (i := 133) rfl)) rfl
theorem cl_X11_168 : Cond.classLink RX11 168 "java/lang/IndexOutOfBoundsException" ∈ LW := lwm (tb4 _ (List.mem_of_getElem? (i := 160) rfl)) rfl
theorem cl_X11_298 : Cond.classLink RX11 298 "java/lang/IllegalArgumentException" ∈ LW := lwm (tb4 _ (List.mem_of_getElem? (i := 174) rfl)) rfl
theorem cl_X11_194 : Cond.classLink RX11 194 "java/lang/IllegalStateException" ∈ LW := lwm (tb4 _ (List.mem_of_getElem? (i := 178) rfl)) rfl
theorem cl_X11_392 : Cond.classLink RX11 392 "java/lang/UnsupportedOperationException" ∈ LW := lwm (tb4 _ (List.mem_of_getElem? (i := 196) rfl)) rfl
theorem cl_X11_154 : Cond.classLink RX11 154 "java/util/NoSuchElementException" ∈ LW := lwm (tb4 _ (List.mem_of_getElem? (i := 214) rfl)) rfl
theorem cl_L_21 : Cond.classLink RL 21 "java/lang/IndexOutOfBoundsException" ∈ LW := lwm (tb5 _ (List.mem_of_getElem? (i := 11) rfl)) rfl
theorem cl_L_23 : Cond.classLink RL 23 "java/lang/UnsupportedOperationException" ∈ LW := lwm (tb5 _ (List.mem_of_getElem? (i := 14) rfl)) rfl
theorem cl_L_45 : Cond.classLink RL 45 "java/util/NoSuchElementException" ∈ LW := lwm (tb5 _ (List.mem_of_getElem? (i := 117) rfl)) rfl
theorem cl_L_116 : Cond.classLink RL 116 "java/lang/ArithmeticException" ∈ LW := lwm (tb6 _ (List.mem_of_getElem? (i := 120) rfl)) rfl
theorem cl_X11_238 : Cond.classLink RX11 238 "java/lang/ArithmeticException" ∈ LW := lwm (tb6 _ (List.mem_of_getElem? (i := 138) rfl)) rfl
theorem cl_L_158 : Cond.classLink RL 158 RX12 ∈ LW := lwm (tb7 _ (List.mem_of_getElem? (i := 121) rfl)) rfl
theorem ml_L_157 : Cond.methodLink RL 157 yX11_init ∈ LW := lwm (tb1 _ (List.mem_of_getElem? (i := 40) rfl)) rfl
theorem ml_X11_1 : Cond.methodLink RX11 1 ⟨"java/lang/Object", "<init>", "()V"⟩ ∈ LW := lwm (tb1 _ (List.mem_of_getElem? (i := 43) rfl)) rfl
theorem ml_X9_3 : Cond.methodLink RX9 3 ⟨"java/lang/Object", "<init>", "()V"⟩ ∈ LW := lwm (tb1 _ (List.mem_of_getElem? (i := 51) rfl)) rfl
theorem ml_X8_3 : Cond.methodLink RX8 3 ⟨"java/lang/Object", "<init>", "()V"⟩ ∈ LW := lwm (tb1 _ (List.mem_of_getElem? (i := 57) rfl)) rfl
theorem ml_X8_11 : Cond.methodLink RX8 11 yX7_init ∈ LW := lwm (tb1 _ (List.mem_of_getElem? (i := 60) rfl)) rfl
theorem ml_X7_1 : Cond.methodLink RX7 1 ⟨"java/lang/Object", "<init>", "()V"⟩ ∈ LW := lwm (tb1 _ (List.mem_of_getElem? (i := 63) rfl)) rfl
theorem ml_X7_7 : Cond.methodLink RX7 7 yJ9_max_7cf53 ∈ LW := lwm (tb1 _ (List.mem_of_getElem? (i := 64) rfl)) rfl
theorem ml_X1_3 : Cond.methodLink RX1 3 ⟨"java/lang/Object", "<init>", "()V"⟩ ∈ LW := lwm (tb1 _ (List.mem_of_getElem? (i := 93) rfl)) rfl
theorem ml_X1_11 : Cond.methodLink RX1 11 yX7_init ∈ LW := lwm (tb1 _ (List.mem_of_getElem? (i := 95) rfl)) rfl
theorem ml_X11_24 : Cond.methodLink RX11 24 yX4_init ∈ LW := lwm (tb1 _ (List.mem_of_getElem? (i := 170) rfl)) rfl
theorem ml_X4_3 : Cond.methodLink RX4 3 ⟨"java/lang/Object", "<init>", "()V"⟩ ∈ LW := lwm (tb1 _ (List.mem_of_getElem? (i := 173) rfl)) rfl
theorem ml_X6_3 : Cond.methodLink RX6 3 ⟨"java/lang/Object", "<init>", "()V"⟩ ∈ LW := lwm (tb1 _ (List.mem_of_getElem? (i := 193) rfl)) rfl
theorem ml_X6_11 : Cond.methodLink RX6 11 yX7_init ∈ LW := lwm (tb1 _ (List.mem_of_getElem? (i := 195) rfl)) rfl
theorem ml_X2_3 : Cond.methodLink RX2 3 ⟨"java/lang/Object", "<init>", "()V"⟩ ∈ LW := lwm (tb1 _ (List.mem_of_getElem? (i := 208) rfl)) rfl
theorem ml_X2_11 : Cond.methodLink RX2 11 yJ4_init_da8c8 ∈ LW := lwm (tb1 _ (List.mem_of_getElem? (i := 211) rfl)) rfl
theorem ml_J4_1 : Cond.methodLink RJ4 1 yJ5_init_d00df ∈ LW := lwm (tb1 _ (List.mem_of_getElem? (i := 214) rfl)) rfl
theorem ml_J5_3 : Cond.methodLink RJ5 3 ⟨"java/lang/Object", "<init>", "()V"⟩ ∈ LW := lwm (tb1 _ (List.mem_of_getElem? (i := 217) rfl)) rfl
theorem ml_J5_26 : Cond.methodLink RJ5 26 yJ2_newBytesFor_77867 ∈ LW := lwm (tb1 _ (List.mem_of_getElem? (i := 220) rfl)) rfl
theorem ml_J2_11 : Cond.methodLink RJ2 11 yJ2_newBytesLength_0f7a4 ∈ LW := lwm (tb1 _ (List.mem_of_getElem? (i := 223) rfl)) rfl
theorem ml_X2_20 : Cond.methodLink RX2 20 yX7_init ∈ LW := lwm (tb2 _ (List.mem_of_getElem? (i := 3) rfl)) rfl
theorem ml_X11_45 : Cond.methodLink RX11 45 yJ4_init_da8c8 ∈ LW := lwm (tb2 _ (List.mem_of_getElem? (i := 23) rfl)) rfl
theorem ml_L_204 : Cond.methodLink RL 204 yX11_stallCount ∈ LW := lwm (tb2 _ (List.mem_of_getElem? (i := 55) rfl)) rfl
theorem ml_L_220 : Cond.methodLink RL 220 yX11_totalMoney ∈ LW := lwm (tb2 _ (List.mem_of_getElem? (i := 59) rfl)) rfl
theorem ml_X11_148 : Cond.methodLink RX11 148 yX7_sum ∈ LW := lwm (tb2 _ (List.mem_of_getElem? (i := 63) rfl)) rfl
theorem ml_L_224 : Cond.methodLink RL 224 yX11_totalDrops ∈ LW := lwm (tb2 _ (List.mem_of_getElem? (i := 67) rfl)) rfl
theorem ml_L_231 : Cond.methodLink RL 231 yX11_orderCount ∈ LW := lwm (tb2 _ (List.mem_of_getElem? (i := 71) rfl)) rfl
theorem ml_L_274 : Cond.methodLink RL 274 yX11_tradeCount ∈ LW := lwm (tb2 _ (List.mem_of_getElem? (i := 75) rfl)) rfl
theorem ml_L_278 : Cond.methodLink RL 278 yX11_tradedQuantity ∈ LW := lwm (tb2 _ (List.mem_of_getElem? (i := 79) rfl)) rfl
theorem ml_L_282 : Cond.methodLink RL 282 yX11_turnover ∈ LW := lwm (tb2 _ (List.mem_of_getElem? (i := 83) rfl)) rfl
theorem ml_L_294 : Cond.methodLink RL 294 yX11_isPoolOpen ∈ LW := lwm (tb2 _ (List.mem_of_getElem? (i := 87) rfl)) rfl
theorem ml_L_308 : Cond.methodLink RL 308 yX11_time ∈ LW := lwm (tb2 _ (List.mem_of_getElem? (i := 91) rfl)) rfl
theorem ml_L_315 : Cond.methodLink RL 315 yX11_writeBook ∈ LW := lwm (tb2 _ (List.mem_of_getElem? (i := 95) rfl)) rfl
theorem ml_X11_266 : Cond.methodLink RX11 266 yJ4_setLength_d00df ∈ LW := lwm (tb2 _ (List.mem_of_getElem? (i := 99) rfl)) rfl
theorem ml_J4_333 : Cond.methodLink RJ4 333 yJ5_setLength_d00df ∈ LW := lwm (tb2 _ (List.mem_of_getElem? (i := 103) rfl)) rfl
theorem ml_J5_131 : Cond.methodLink RJ5 131 yJx7c733_init_d00df ∈ LW := lwm (tb2 _ (List.mem_of_getElem? (i := 108) rfl)) rfl
theorem ml_Jx7c733_12 : Cond.methodLink RJx7c733 12 yJ4_init_da8c8 ∈ LW := lwm (tb2 _ (List.mem_of_getElem? (i := 112) rfl)) rfl
theorem ml_Jx7c733_15 : Cond.methodLink RJx7c733 15 yJ4_append_15ec4 ∈ LW := lwm (tb2 _ (List.mem_of_getElem? (i := 114) rfl)) rfl
theorem ml_J4_29 : Cond.methodLink RJ4 29 yJ5_append_cf1ce ∈ LW := lwm (tb2 _ (List.mem_of_getElem? (i := 118) rfl)) rfl
theorem ml_J5_204 : Cond.methodLink RJ5 204 yJ5_appendNull_278bc ∈ LW := lwm (tb2 _ (List.mem_of_getElem? (i := 121) rfl)) rfl
theorem ml_J5_100 : Cond.methodLink RJ5 100 yJ5_ensureCapacityInternal_d00df ∈ LW := lwm (tb2 _ (List.mem_of_getElem? (i := 125) rfl)) rfl
theorem ml_J5_104 : Cond.methodLink RJ5 104 yJ5_newCapacity_0f7a4 ∈ LW := lwm (tb2 _ (List.mem_of_getElem? (i := 129) rfl)) rfl
theorem ml_J5_114 : Cond.methodLink RJ5 114 yJ8_newLength_cabcc ∈ LW := lwm (tb2 _ (List.mem_of_getElem? (i := 133) rfl)) rfl
theorem ml_J8_194 : Cond.methodLink RJ8 194 yJ9_max_7cf53 ∈ LW := lwm (tb2 _ (List.mem_of_getElem? (i := 136) rfl)) rfl
theorem ml_J8_201 : Cond.methodLink RJ8 201 yJ8_hugeLength_7cf53 ∈ LW := lwm (tb2 _ (List.mem_of_getElem? (i := 138) rfl)) rfl
theorem ml_J5_108 : Cond.methodLink RJ5 108 yJ7_copyOf_9075b ∈ LW := lwm (tb2 _ (List.mem_of_getElem? (i := 142) rfl)) rfl
theorem ml_J7_310 : Cond.methodLink RJ7 310 ⟨"[B", "clone", "()Ljava/lang/Object;"⟩ ∈ LW := lwm (tb2 _ (List.mem_of_getElem? (i := 145) rfl)) rfl
theorem ml_J7_304 : Cond.methodLink RJ7 304 yJ9_min_7cf53 ∈ LW := lwm (tb2 _ (List.mem_of_getElem? (i := 152) rfl)) rfl
theorem ml_J7_150 : Cond.methodLink RJ7 150 ⟨"java/lang/System", "arraycopy", "(Ljava/lang/Object;ILjava/lang/Object;II)V"⟩ ∈ LW := lwm (tb2 _ (List.mem_of_getElem? (i := 155) rfl)) rfl
theorem ml_J5_83 : Cond.methodLink RJ5 83 yJ5_isLatin1_aae02 ∈ LW := lwm (tb2 _ (List.mem_of_getElem? (i := 158) rfl)) rfl
theorem ml_J5_226 : Cond.methodLink RJ5 226 yJ2_putCharsAt_cd4e5 ∈ LW := lwm (tb2 _ (List.mem_of_getElem? (i := 163) rfl)) rfl
theorem ml_J2_96 : Cond.methodLink RJ2 96 yJ2_checkBoundsBeginEnd_d044e ∈ LW := lwm (tb2 _ (List.mem_of_getElem? (i := 166) rfl)) rfl
theorem ml_J2_48 : Cond.methodLink RJ2 48 yJ2_length_9d52b ∈ LW := lwm (tb2 _ (List.mem_of_getElem? (i := 169) rfl)) rfl
theorem ml_J2_241 : Cond.methodLink RJ2 241 yJ0_checkBoundsBeginEnd_23922 ∈ LW := lwm (tb2 _ (List.mem_of_getElem? (i := 172) rfl)) rfl
theorem ml_J0_1062 : Cond.methodLink RJ0 1062 yJ3_checkFromToIndex_8c36e ∈ LW := lwm (tb2 _ (List.mem_of_getElem? (i := 177) rfl)) rfl
theorem ml_J2_111 : Cond.methodLink RJ2 111 yJ2_putChar_b72d1 ∈ LW := lwm (tb2 _ (List.mem_of_getElem? (i := 180) rfl)) rfl
theorem ml_J5_32 : Cond.methodLink RJ5 32 yJ0_length_8abf5 ∈ LW := lwm (tb2 _ (List.mem_of_getElem? (i := 189) rfl)) rfl
theorem ml_J0_335 : Cond.methodLink RJ0 335 yJ0_coder_7d493 ∈ LW := lwm (tb2 _ (List.mem_of_getElem? (i := 193) rfl)) rfl
theorem ml_J5_208 : Cond.methodLink RJ5 208 yJ5_putStringAt_47b60 ∈ LW := lwm (tb2 _ (List.mem_of_getElem? (i := 198) rfl)) rfl
theorem ml_J5_397 : Cond.methodLink RJ5 397 yJ5_inflateIfNeededFor_a7421 ∈ LW := lwm (tb2 _ (List.mem_of_getElem? (i := 202) rfl)) rfl
theorem ml_J5_40 : Cond.methodLink RJ5 40 yJ0_coder_7d493 ∈ LW := lwm (tb2 _ (List.mem_of_getElem? (i := 206) rfl)) rfl
theorem ml_J5_195 : Cond.methodLink RJ5 195 yJ5_inflate_da8c8 ∈ LW := lwm (tb2 _ (List.mem_of_getElem? (i := 207) rfl)) rfl
theorem ml_J5_125 : Cond.methodLink RJ5 125 yJ1_inflate_0e8fd ∈ LW := lwm (tb2 _ (List.mem_of_getElem? (i := 211) rfl)) rfl
theorem ml_J1_240 : Cond.methodLink RJ1 240 yJ2_inflate_0e8fd ∈ LW := lwm (tb2 _ (List.mem_of_getElem? (i := 214) rfl)) rfl
theorem ml_J2_173 : Cond.methodLink RJ2 173 yJ2_checkBoundsOffCount_d044e ∈ LW := lwm (tb2 _ (List.mem_of_getElem? (i := 217) rfl)) rfl
theorem ml_J2_419 : Cond.methodLink RJ2 419 yJ0_checkBoundsOffCount_cabcc ∈ LW := lwm (tb2 _ (List.mem_of_getElem? (i := 220) rfl)) rfl
theorem ml_J0_1065 : Cond.methodLink RJ0 1065 yJ3_checkFromIndexSize_8c36e ∈ LW := lwm (tb2 _ (List.mem_of_getElem? (i := 223) rfl)) rfl
theorem ml_J5_399 : Cond.methodLink RJ5 399 yJ0_getBytes_840e7 ∈ LW := lwm (tb2 _ (List.mem_of_getElem? (i := 226) rfl)) rfl
theorem ml_J0_212 : Cond.methodLink RJ0 212 ⟨"java/lang/System", "arraycopy", "(Ljava/lang/Object;ILjava/lang/Object;II)V"⟩ ∈ LW := lwm (tb2 _ (List.mem_of_getElem? (i := 230) rfl)) rfl
theorem ml_J0_106 : Cond.methodLink RJ0 106 yJ1_inflate_0e8fd ∈ LW := lwm (tb2 _ (List.mem_of_getElem? (i := 231) rfl)) rfl
theorem ml_Jx7c733_19 : Cond.methodLink RJx7c733 19 yJ4_append_bf812 ∈ LW := lwm (tb2 _ (List.mem_of_getElem? (i := 232) rfl)) rfl
theorem ml_J4_53 : Cond.methodLink RJ4 53 yJ5_append_c97b9 ∈ LW := lwm (tb2 _ (List.mem_of_getElem? (i := 236) rfl)) rfl
theorem ml_J5_245 : Cond.methodLink RJ5 245 yJ6_stringSize_0f7a4 ∈ LW := lwm (tb2 _ (List.mem_of_getElem? (i := 239) rfl)) rfl
theorem ml_J5_248 : Cond.methodLink RJ5 248 yJ6_getChars_ba4f3 ∈ LW := lwm (tb3 _ (List.mem_of_getElem? (i := 2) rfl)) rfl
theorem ml_J5_251 : Cond.methodLink RJ5 251 yJ2_getChars_46870 ∈ LW := lwm (tb3 _ (List.mem_of_getElem? (i := 9) rfl)) rfl
theorem ml_J2_393 : Cond.methodLink RJ2 393 yJ2_getChars_ba4f3 ∈ LW := lwm (tb3 _ (List.mem_of_getElem? (i := 12) rfl)) rfl
theorem ml_Jx7c733_22 : Cond.methodLink RJx7c733 22 yJ4_toString_0e30d ∈ LW := lwm (tb3 _ (List.mem_of_getElem? (i := 17) rfl)) rfl
theorem ml_J4_137 : Cond.methodLink RJ4 137 yJ0_init_81219 ∈ LW := lwm (tb3 _ (List.mem_of_getElem? (i := 23) rfl)) rfl
theorem ml_J0_489 : Cond.methodLink RJ0 489 yJ0_init_db425 ∈ LW := lwm (tb3 _ (List.mem_of_getElem? (i := 26) rfl)) rfl
theorem ml_J0_1 : Cond.methodLink RJ0 1 ⟨"java/lang/Object", "<init>", "()V"⟩ ∈ LW := lwm (tb3 _ (List.mem_of_getElem? (i := 29) rfl)) rfl
theorem ml_J0_552 : Cond.methodLink RJ0 552 yJ5_getValue_6d5f1 ∈ LW := lwm (tb3 _ (List.mem_of_getElem? (i := 30) rfl)) rfl
theorem ml_J0_549 : Cond.methodLink RJ0 549 yJ5_length_8abf5 ∈ LW := lwm (tb3 _ (List.mem_of_getElem? (i := 35) rfl)) rfl
theorem ml_J4_343 : Cond.methodLink RJ4 343 yJ5_length_8abf5 ∈ LW := lwm (tb3 _ (List.mem_of_getElem? (i := 41) rfl)) rfl
theorem ml_J0_1047 : Cond.methodLink RJ0 1047 yJ5_isLatin1_aae02 ∈ LW := lwm (tb3 _ (List.mem_of_getElem? (i := 43) rfl)) rfl
theorem ml_J0_54 : Cond.methodLink RJ0 54 yJ7_copyOfRange_39247 ∈ LW := lwm (tb3 _ (List.mem_of_getElem? (i := 44) rfl)) rfl
theorem ml_J7_339 : Cond.methodLink RJ7 339 yJ7_copyOfRangeByte_39247 ∈ LW := lwm (tb3 _ (List.mem_of_getElem? (i := 47) rfl)) rfl
theorem ml_J7_343 : Cond.methodLink RJ7 343 yJ7_checkLength_df160 ∈ LW := lwm (tb3 _ (List.mem_of_getElem? (i := 50) rfl)) rfl
theorem ml_java_lang_Throwable_1 : Cond.methodLink "java/lang/Throwable" 1 ⟨"java/lang/Object", "<init>", "()V"⟩ ∈ LW := lwm (tb3 _ (List.mem_of_getElem? (i := 78) rfl)) rfl
theorem ml_java_lang_Throwable_27 : Cond.methodLink "java/lang/Throwable" 27 ⟨"java/lang/Throwable", "fillInStackTrace", "()Ljava/lang/Throwable;"⟩ ∈ LW := lwm (tb3 _ (List.mem_of_getElem? (i := 83) rfl)) rfl
theorem ml_java_lang_Throwable_202 : Cond.methodLink "java/lang/Throwable" 202 ⟨"java/lang/Throwable", "fillInStackTrace", "(I)Ljava/lang/Throwable;"⟩ ∈ LW := lwm (tb3 _ (List.mem_of_getElem? (i := 94) rfl)) rfl
theorem ml_J7_47 : Cond.methodLink RJ7 47 yJ4_init_da8c8 ∈ LW := lwm (tb3 _ (List.mem_of_getElem? (i := 100) rfl)) rfl
theorem ml_J7_54 : Cond.methodLink RJ7 54 yJ4_append_bf812 ∈ LW := lwm (tb3 _ (List.mem_of_getElem? (i := 101) rfl)) rfl
theorem ml_J7_50 : Cond.methodLink RJ7 50 yJ4_append_15ec4 ∈ LW := lwm (tb3 _ (List.mem_of_getElem? (i := 103) rfl)) rfl
theorem ml_J7_61 : Cond.methodLink RJ7 61 yJ4_toString_0e30d ∈ LW := lwm (tb3 _ (List.mem_of_getElem? (i := 104) rfl)) rfl
theorem ml_J7_65 : Cond.methodLink RJ7 65 ⟨"java/lang/IllegalArgumentException", "<init>", "(Ljava/lang/String;)V"⟩ ∈ LW := lwm (tb3 _ (List.mem_of_getElem? (i := 105) rfl)) rfl
theorem ml_java_lang_IllegalArgumentException_7 : Cond.methodLink "java/lang/IllegalArgumentException" 7 ⟨"java/lang/RuntimeException", "<init>", "(Ljava/lang/String;)V"⟩ ∈ LW := lwm (tb3 _ (List.mem_of_getElem? (i := 108) rfl)) rfl
theorem ml_java_lang_RuntimeException_7 : Cond.methodLink "java/lang/RuntimeException" 7 ⟨"java/lang/Exception", "<init>", "(Ljava/lang/String;)V"⟩ ∈ LW := lwm (tb3 _ (List.mem_of_getElem? (i := 111) rfl)) rfl
theorem ml_java_lang_Exception_7 : Cond.methodLink "java/lang/Exception" 7 ⟨"java/lang/Throwable", "<init>", "(Ljava/lang/String;)V"⟩ ∈ LW := lwm (tb3 _ (List.mem_of_getElem? (i := 114) rfl)) rfl
theorem ml_J0_1051 : Cond.methodLink RJ0 1051 yJ2_compress_39247 ∈ LW := lwm (tb3 _ (List.mem_of_getElem? (i := 130) rfl)) rfl
theorem ml_J2_123 : Cond.methodLink RJ2 123 yJ2_compress_5af95 ∈ LW := lwm (tb3 _ (List.mem_of_getElem? (i := 133) rfl)) rfl
theorem ml_J2_71 : Cond.methodLink RJ2 71 yJ2_getChar_3b067 ∈ LW := lwm (tb3 _ (List.mem_of_getElem? (i := 136) rfl)) rfl
theorem ml_J2_126 : Cond.methodLink RJ2 126 yJ7_copyOfRange_39247 ∈ LW := lwm (tb3 _ (List.mem_of_getElem? (i := 139) rfl)) rfl
theorem ml_J0_47 : Cond.methodLink RJ0 47 yJ2_coderFromArrayLen_85cad ∈ LW := lwm (tb3 _ (List.mem_of_getElem? (i := 140) rfl)) rfl
theorem ml_Jx7c733_7 : Cond.methodLink RJx7c733 7 ⟨"java/lang/IndexOutOfBoundsException", "<init>", "(Ljava/lang/String;)V"⟩ ∈ LW := lwm (tb3 _ (List.mem_of_getElem? (i := 154) rfl)) rfl
theorem ml_java_lang_IndexOutOfBoundsException_7 : Cond.methodLink "java/lang/IndexOutOfBoundsException" 7 ⟨"java/lang/RuntimeException", "<init>", "(Ljava/lang/String;)V"⟩ ∈ LW := lwm (tb3 _ (List.mem_of_getElem? (i := 157) rfl)) rfl
theorem ml_J5_133 : Cond.methodLink RJ5 133 yJ1_fillNull_b72d1 ∈ LW := lwm (tb3 _ (List.mem_of_getElem? (i := 165) rfl)) rfl
theorem ml_J1_236 : Cond.methodLink RJ1 236 yJ7_fill_eb02e ∈ LW := lwm (tb3 _ (List.mem_of_getElem? (i := 168) rfl)) rfl
theorem ml_J7_13 : Cond.methodLink RJ7 13 yJ7_rangeCheck_23922 ∈ LW := lwm (tb3 _ (List.mem_of_getElem? (i := 171) rfl)) rfl
theorem ml_J7_70 : Cond.methodLink RJ7 70 yJx00060_init_d00df ∈ LW := lwm (tb3 _ (List.mem_of_getElem? (i := 188) rfl)) rfl
theorem ml_Jx00060_12 : Cond.methodLink RJx00060 12 yJ4_init_da8c8 ∈ LW := lwm (tb3 _ (List.mem_of_getElem? (i := 192) rfl)) rfl
theorem ml_Jx00060_15 : Cond.methodLink RJx00060 15 yJ4_append_15ec4 ∈ LW := lwm (tb3 _ (List.mem_of_getElem? (i := 194) rfl)) rfl
theorem ml_Jx00060_19 : Cond.methodLink RJx00060 19 yJ4_append_bf812 ∈ LW := lwm (tb3 _ (List.mem_of_getElem? (i := 195) rfl)) rfl
theorem ml_Jx00060_22 : Cond.methodLink RJx00060 22 yJ4_toString_0e30d ∈ LW := lwm (tb3 _ (List.mem_of_getElem? (i := 196) rfl)) rfl
theorem ml_Jx00060_7 : Cond.methodLink RJx00060 7 ⟨"java/lang/IndexOutOfBoundsException", "<init>", "(Ljava/lang/String;)V"⟩ ∈ LW := lwm (tb3 _ (List.mem_of_getElem? (i := 197) rfl)) rfl
theorem ml_J5_137 : Cond.methodLink RJ5 137 yJ2_fillNull_b72d1 ∈ LW := lwm (tb3 _ (List.mem_of_getElem? (i := 200) rfl)) rfl
theorem ml_J2_380 : Cond.methodLink RJ2 380 yJ7_fill_eb02e ∈ LW := lwm (tb3 _ (List.mem_of_getElem? (i := 203) rfl)) rfl
theorem ml_X11_279 : Cond.methodLink RX11 279 yX11_appendBest ∈ LW := lwm (tb3 _ (List.mem_of_getElem? (i := 204) rfl)) rfl
theorem ml_X11_414 : Cond.methodLink RX11 414 yX1_bestSlot ∈ LW := lwm (tb3 _ (List.mem_of_getElem? (i := 208) rfl)) rfl
theorem ml_X1_56 : Cond.methodLink RX1 56 yX1_buys ∈ LW := lwm (tb3 _ (List.mem_of_getElem? (i := 212) rfl)) rfl
theorem ml_X1_39 : Cond.methodLink RX1 39 yX7_get ∈ LW := lwm (tb3 _ (List.mem_of_getElem? (i := 216) rfl)) rfl
theorem ml_X1_60 : Cond.methodLink RX1 60 yX1_isAhead ∈ LW := lwm (tb3 _ (List.mem_of_getElem? (i := 220) rfl)) rfl
theorem ml_X11_273 : Cond.methodLink RX11 273 yJ4_append_cf468 ∈ LW := lwm (tb3 _ (List.mem_of_getElem? (i := 224) rfl)) rfl
theorem ml_J4_50 : Cond.methodLink RJ4 50 yJ5_append_3fe6f ∈ LW := lwm (tb3 _ (List.mem_of_getElem? (i := 228) rfl)) rfl
theorem ml_J5_191 : Cond.methodLink RJ5 191 yJ1_canEncode_fc78d ∈ LW := lwm (tb3 _ (List.mem_of_getElem? (i := 231) rfl)) rfl
theorem ml_J5_197 : Cond.methodLink RJ5 197 yJ2_putCharSB_b72d1 ∈ LW := lwm (tb3 _ (List.mem_of_getElem? (i := 234) rfl)) rfl
theorem ml_J2_67 : Cond.methodLink RJ2 67 yJ2_checkIndex_2214a ∈ LW := lwm (tb3 _ (List.mem_of_getElem? (i := 237) rfl)) rfl
theorem ml_J2_414 : Cond.methodLink RJ2 414 yJ0_checkIndex_df160 ∈ LW := lwm (tb4 _ (List.mem_of_getElem? (i := 0) rfl)) rfl
theorem ml_J0_1059 : Cond.methodLink RJ0 1059 yJ3_checkIndex_8e157 ∈ LW := lwm (tb4 _ (List.mem_of_getElem? (i := 3) rfl)) rfl
theorem ml_X11_134 : Cond.methodLink RX11 134 yX7_get ∈ LW := lwm (tb4 _ (List.mem_of_getElem? (i := 6) rfl)) rfl
theorem ml_X11_219 : Cond.methodLink RX11 219 yX1_quantityAt ∈ LW := lwm (tb4 _ (List.mem_of_getElem? (i := 7) rfl)) rfl
theorem ml_X11_269 : Cond.methodLink RX11 269 yJ4_append_bf812 ∈ LW := lwm (tb4 _ (List.mem_of_getElem? (i := 11) rfl)) rfl
theorem ml_X11_276 : Cond.methodLink RX11 276 yJ4_length_8abf5 ∈ LW := lwm (tb4 _ (List.mem_of_getElem? (i := 12) rfl)) rfl
theorem ml_L_322 : Cond.methodLink RL 322 yX11_isConsistent ∈ LW := lwm (tb4 _ (List.mem_of_getElem? (i := 13) rfl)) rfl
theorem ml_X11_209 : Cond.methodLink RX11 209 yX6_gather ∈ LW := lwm (tb4 _ (List.mem_of_getElem? (i := 17) rfl)) rfl
theorem ml_X6_23 : Cond.methodLink RX6 23 yX7_clear ∈ LW := lwm (tb4 _ (List.mem_of_getElem? (i := 21) rfl)) rfl
theorem ml_X6_32 : Cond.methodLink RX6 32 yX1_buys ∈ LW := lwm (tb4 _ (List.mem_of_getElem? (i := 25) rfl)) rfl
theorem ml_X6_39 : Cond.methodLink RX6 39 yX7_get ∈ LW := lwm (tb4 _ (List.mem_of_getElem? (i := 26) rfl)) rfl
theorem ml_X6_46 : Cond.methodLink RX6 46 yX7_add ∈ LW := lwm (tb4 _ (List.mem_of_getElem? (i := 27) rfl)) rfl
theorem ml_X11_203 : Cond.methodLink RX11 203 yX1_spreadOfBest ∈ LW := lwm (tb4 _ (List.mem_of_getElem? (i := 31) rfl)) rfl
theorem ml_X1_64 : Cond.methodLink RX1 64 yX1_bestSlot ∈ LW := lwm (tb4 _ (List.mem_of_getElem? (i := 35) rfl)) rfl
theorem ml_X11_213 : Cond.methodLink RX11 213 yX6_spreadOfSums ∈ LW := lwm (tb4 _ (List.mem_of_getElem? (i := 36) rfl)) rfl
theorem ml_X11_249 : Cond.methodLink RX11 249 yX1_poolByTrying ∈ LW := lwm (tb4 _ (List.mem_of_getElem? (i := 40) rfl)) rfl
theorem ml_X5_3 : Cond.methodLink RX5 3 ⟨"java/lang/Object", "<init>", "()V"⟩ ∈ LW := lwm (tb4 _ (List.mem_of_getElem? (i := 49) rfl)) rfl
theorem ml_X1_68 : Cond.methodLink RX1 68 yX1_demand ∈ LW := lwm (tb4 _ (List.mem_of_getElem? (i := 63) rfl)) rfl
theorem ml_X1_71 : Cond.methodLink RX1 71 yX1_supply ∈ LW := lwm (tb4 _ (List.mem_of_getElem? (i := 67) rfl)) rfl
theorem ml_X1_83 : Cond.methodLink RX1 83 yX5_consider ∈ LW := lwm (tb4 _ (List.mem_of_getElem? (i := 71) rfl)) rfl
theorem ml_X5_21 : Cond.methodLink RX5 21 yJ9_min_7cf53 ∈ LW := lwm (tb4 _ (List.mem_of_getElem? (i := 75) rfl)) rfl
theorem ml_X5_27 : Cond.methodLink RX5 27 yJ9_abs_0f7a4 ∈ LW := lwm (tb4 _ (List.mem_of_getElem? (i := 76) rfl)) rfl
theorem ml_X11_257 : Cond.methodLink RX11 257 yX6_poolBySums ∈ LW := lwm (tb4 _ (List.mem_of_getElem? (i := 79) rfl)) rfl
theorem ml_X6_53 : Cond.methodLink RX6 53 yX7_sum ∈ LW := lwm (tb4 _ (List.mem_of_getElem? (i := 85) rfl)) rfl
theorem ml_X6_57 : Cond.methodLink RX6 57 yX5_consider ∈ LW := lwm (tb4 _ (List.mem_of_getElem? (i := 86) rfl)) rfl
theorem ml_X11_294 : Cond.methodLink RX11 294 yX9_isCovered ∈ LW := lwm (tb4 _ (List.mem_of_getElem? (i := 87) rfl)) rfl
theorem ml_X9_76 : Cond.methodLink RX9 76 yX9_freeMoney ∈ LW := lwm (tb4 _ (List.mem_of_getElem? (i := 91) rfl)) rfl
theorem ml_X9_96 : Cond.methodLink RX9 96 yX7_get ∈ LW := lwm (tb4 _ (List.mem_of_getElem? (i := 95) rfl)) rfl
theorem ml_X9_101 : Cond.methodLink RX9 101 yX1_boundMoney ∈ LW := lwm (tb4 _ (List.mem_of_getElem? (i := 96) rfl)) rfl
theorem ml_X9_80 : Cond.methodLink RX9 80 yX9_freeDrops ∈ LW := lwm (tb4 _ (List.mem_of_getElem? (i := 100) rfl)) rfl
theorem ml_X9_107 : Cond.methodLink RX9 107 yX1_boundDrops ∈ LW := lwm (tb4 _ (List.mem_of_getElem? (i := 104) rfl)) rfl
theorem ml_L_342 : Cond.methodLink RL 342 yX11_save ∈ LW := lwm (tb4 _ (List.mem_of_getElem? (i := 108) rfl)) rfl
theorem ml_X11_322 : Cond.methodLink RX11 322 yX9_copyFrom ∈ LW := lwm (tb4 _ (List.mem_of_getElem? (i := 112) rfl)) rfl
theorem ml_X9_182 : Cond.methodLink RX9 182 yX8_copyFrom ∈ LW := lwm (tb4 _ (List.mem_of_getElem? (i := 116) rfl)) rfl
theorem ml_X8_38 : Cond.methodLink RX8 38 yX7_copyFrom ∈ LW := lwm (tb4 _ (List.mem_of_getElem? (i := 120) rfl)) rfl
theorem ml_X9_186 : Cond.methodLink RX9 186 yX1_copyFrom ∈ LW := lwm (tb4 _ (List.mem_of_getElem? (i := 124) rfl)) rfl
theorem ml_X1_87 : Cond.methodLink RX1 87 yX7_copyFrom ∈ LW := lwm (tb4 _ (List.mem_of_getElem? (i := 128) rfl)) rfl
theorem ml_L_161 : Cond.methodLink RL 161 yL_addStall ∈ LW := lwm (tb4 _ (List.mem_of_getElem? (i := 129) rfl)) rfl
theorem ml_L_7 : Cond.methodLink RL 7 yX11_addStall ∈ LW := lwm (tb4 _ (List.mem_of_getElem? (i := 134) rfl)) rfl
theorem ml_X11_61 : Cond.methodLink RX11 61 yX9_stallFault ∈ LW := lwm (tb4 _ (List.mem_of_getElem? (i := 138) rfl)) rfl
theorem ml_X9_59 : Cond.methodLink RX9 59 yX8_isFull ∈ LW := lwm (tb4 _ (List.mem_of_getElem? (i := 147) rfl)) rfl
theorem ml_X11_65 : Cond.methodLink RX11 65 yX11_refuse ∈ LW := lwm (tb4 _ (List.mem_of_getElem? (i := 155) rfl)) rfl
theorem ml_X11_172 : Cond.methodLink RX11 172 ⟨"java/lang/IndexOutOfBoundsException", "<init>", "(Ljava/lang/String;)V"⟩ ∈ LW := lwm (tb4 _ (List.mem_of_getElem? (i := 170) rfl)) rfl
theorem ml_X11_302 : Cond.methodLink RX11 302 ⟨"java/lang/IllegalArgumentException", "<init>", "(Ljava/lang/String;)V"⟩ ∈ LW := lwm (tb4 _ (List.mem_of_getElem? (i := 176) rfl)) rfl
theorem ml_X11_198 : Cond.methodLink RX11 198 ⟨"java/lang/IllegalStateException", "<init>", "(Ljava/lang/String;)V"⟩ ∈ LW := lwm (tb4 _ (List.mem_of_getElem? (i := 188) rfl)) rfl
theorem ml_java_lang_IllegalStateException_7 : Cond.methodLink "java/lang/IllegalStateException" 7 ⟨"java/lang/RuntimeException", "<init>", "(Ljava/lang/String;)V"⟩ ∈ LW := lwm (tb4 _ (List.mem_of_getElem? (i := 191) rfl)) rfl
theorem ml_X11_396 : Cond.methodLink RX11 396 ⟨"java/lang/UnsupportedOperationException", "<init>", "(Ljava/lang/String;)V"⟩ ∈ LW := lwm (tb4 _ (List.mem_of_getElem? (i := 206) rfl)) rfl
theorem ml_java_lang_UnsupportedOperationException_7 : Cond.methodLink "java/lang/UnsupportedOperationException" 7 ⟨"java/lang/RuntimeException", "<init>", "(Ljava/lang/String;)V"⟩ ∈ LW := lwm (tb4 _ (List.mem_of_getElem? (i := 209) rfl)) rfl
theorem ml_X11_158 : Cond.methodLink RX11 158 ⟨"java/util/NoSuchElementException", "<init>", "(Ljava/lang/String;)V"⟩ ∈ LW := lwm (tb4 _ (List.mem_of_getElem? (i := 224) rfl)) rfl
theorem ml_java_util_NoSuchElementException_13 : Cond.methodLink "java/util/NoSuchElementException" 13 ⟨"java/lang/RuntimeException", "<init>", "(Ljava/lang/String;)V"⟩ ∈ LW := lwm (tb4 _ (List.mem_of_getElem? (i := 227) rfl)) rfl
theorem ml_X11_69 : Cond.methodLink RX11 69 yX4_push ∈ LW := lwm (tb4 _ (List.mem_of_getElem? (i := 230) rfl)) rfl
theorem ml_X4_25 : Cond.methodLink RX4 25 yJ9_min_7cf53 ∈ LW := lwm (tb4 _ (List.mem_of_getElem? (i := 234) rfl)) rfl
theorem ml_X4_31 : Cond.methodLink RX4 31 yX4_newestRow ∈ LW := lwm (tb4 _ (List.mem_of_getElem? (i := 235) rfl)) rfl
theorem ml_X4_35 : Cond.methodLink RX4 35 yX9_copyFrom ∈ LW := lwm (tb4 _ (List.mem_of_getElem? (i := 239) rfl)) rfl
theorem ml_X11_77 : Cond.methodLink RX11 77 yX8_open ∈ LW := lwm (tb5 _ (List.mem_of_getElem? (i := 0) rfl)) rfl
theorem ml_X8_27 : Cond.methodLink RX8 27 yX7_set ∈ LW := lwm (tb5 _ (List.mem_of_getElem? (i := 4) rfl)) rfl
theorem ml_L_170 : Cond.methodLink RL 170 yL_placeBuy ∈ LW := lwm (tb5 _ (List.mem_of_getElem? (i := 8) rfl)) rfl
theorem ml_L_17 : Cond.methodLink RL 17 yX11_placeBuy ∈ LW := lwm (tb5 _ (List.mem_of_getElem? (i := 15) rfl)) rfl
theorem ml_X11_83 : Cond.methodLink RX11 83 yX11_placeOrder ∈ LW := lwm (tb5 _ (List.mem_of_getElem? (i := 19) rfl)) rfl
theorem ml_X11_362 : Cond.methodLink RX11 362 yX1_isFull ∈ LW := lwm (tb5 _ (List.mem_of_getElem? (i := 23) rfl)) rfl
theorem ml_X11_363 : Cond.methodLink RX11 363 yX9_orderFault ∈ LW := lwm (tb5 _ (List.mem_of_getElem? (i := 27) rfl)) rfl
theorem ml_X9_69 : Cond.methodLink RX9 69 yX8_has ∈ LW := lwm (tb5 _ (List.mem_of_getElem? (i := 31) rfl)) rfl
theorem ml_X11_367 : Cond.methodLink RX11 367 yX9_place ∈ LW := lwm (tb5 _ (List.mem_of_getElem? (i := 37) rfl)) rfl
theorem ml_X9_113 : Cond.methodLink RX9 113 yX9_tradeNew ∈ LW := lwm (tb5 _ (List.mem_of_getElem? (i := 41) rfl)) rfl
theorem ml_X9_121 : Cond.methodLink RX9 121 yX1_bestSlot ∈ LW := lwm (tb5 _ (List.mem_of_getElem? (i := 45) rfl)) rfl
theorem ml_X9_131 : Cond.methodLink RX9 131 yJ9_min_7cf53 ∈ LW := lwm (tb5 _ (List.mem_of_getElem? (i := 46) rfl)) rfl
theorem ml_X9_139 : Cond.methodLink RX9 139 yX9_trade ∈ LW := lwm (tb5 _ (List.mem_of_getElem? (i := 47) rfl)) rfl
theorem ml_X9_147 : Cond.methodLink RX9 147 yX7_add ∈ LW := lwm (tb5 _ (List.mem_of_getElem? (i := 51) rfl)) rfl
theorem ml_X9_143 : Cond.methodLink RX9 143 yX1_reduce ∈ LW := lwm (tb5 _ (List.mem_of_getElem? (i := 52) rfl)) rfl
theorem ml_X1_50 : Cond.methodLink RX1 50 yX7_add ∈ LW := lwm (tb5 _ (List.mem_of_getElem? (i := 56) rfl)) rfl
theorem ml_X1_53 : Cond.methodLink RX1 53 yX1_remove ∈ LW := lwm (tb5 _ (List.mem_of_getElem? (i := 57) rfl)) rfl
theorem ml_X1_47 : Cond.methodLink RX1 47 yX7_closeGap ∈ LW := lwm (tb5 _ (List.mem_of_getElem? (i := 61) rfl)) rfl
theorem ml_X9_117 : Cond.methodLink RX9 117 yX1_enter ∈ LW := lwm (tb5 _ (List.mem_of_getElem? (i := 65) rfl)) rfl
theorem ml_X1_43 : Cond.methodLink RX1 43 yX7_set ∈ LW := lwm (tb5 _ (List.mem_of_getElem? (i := 69) rfl)) rfl
theorem ml_L_174 : Cond.methodLink RL 174 yL_placeSell ∈ LW := lwm (tb5 _ (List.mem_of_getElem? (i := 70) rfl)) rfl
theorem ml_L_25 : Cond.methodLink RL 25 yX11_placeSell ∈ LW := lwm (tb5 _ (List.mem_of_getElem? (i := 73) rfl)) rfl
theorem ml_L_177 : Cond.methodLink RL 177 yL_placeBuyFor ∈ LW := lwm (tb5 _ (List.mem_of_getElem? (i := 77) rfl)) rfl
theorem ml_L_28 : Cond.methodLink RL 28 yX11_placeBuyFor ∈ LW := lwm (tb5 _ (List.mem_of_getElem? (i := 80) rfl)) rfl
theorem ml_X11_87 : Cond.methodLink RX11 87 yX11_isWithin ∈ LW := lwm (tb5 _ (List.mem_of_getElem? (i := 84) rfl)) rfl
theorem ml_L_181 : Cond.methodLink RL 181 yL_placeSellFor ∈ LW := lwm (tb5 _ (List.mem_of_getElem? (i := 85) rfl)) rfl
theorem ml_L_32 : Cond.methodLink RL 32 yX11_placeSellFor ∈ LW := lwm (tb5 _ (List.mem_of_getElem? (i := 88) rfl)) rfl
theorem ml_L_184 : Cond.methodLink RL 184 yL_takeBuy ∈ LW := lwm (tb5 _ (List.mem_of_getElem? (i := 92) rfl)) rfl
theorem ml_L_35 : Cond.methodLink RL 35 yX11_takeBuy ∈ LW := lwm (tb5 _ (List.mem_of_getElem? (i := 95) rfl)) rfl
theorem ml_X11_91 : Cond.methodLink RX11 91 yX11_takeAtOnce ∈ LW := lwm (tb5 _ (List.mem_of_getElem? (i := 99) rfl)) rfl
theorem ml_X11_371 : Cond.methodLink RX11 371 yX9_take ∈ LW := lwm (tb5 _ (List.mem_of_getElem? (i := 103) rfl)) rfl
theorem ml_L_187 : Cond.methodLink RL 187 yL_takeSell ∈ LW := lwm (tb5 _ (List.mem_of_getElem? (i := 107) rfl)) rfl
theorem ml_L_38 : Cond.methodLink RL 38 yX11_takeSell ∈ LW := lwm (tb5 _ (List.mem_of_getElem? (i := 110) rfl)) rfl
theorem ml_L_190 : Cond.methodLink RL 190 yL_cancel ∈ LW := lwm (tb5 _ (List.mem_of_getElem? (i := 114) rfl)) rfl
theorem ml_L_41 : Cond.methodLink RL 41 yX11_cancel ∈ LW := lwm (tb5 _ (List.mem_of_getElem? (i := 118) rfl)) rfl
theorem ml_X11_95 : Cond.methodLink RX11 95 yX9_cancelFault ∈ LW := lwm (tb5 _ (List.mem_of_getElem? (i := 122) rfl)) rfl
theorem ml_X9_86 : Cond.methodLink RX9 86 yX1_slotOf ∈ LW := lwm (tb5 _ (List.mem_of_getElem? (i := 126) rfl)) rfl
theorem ml_X11_99 : Cond.methodLink RX11 99 yX9_withdraw ∈ LW := lwm (tb5 _ (List.mem_of_getElem? (i := 131) rfl)) rfl
theorem ml_X9_150 : Cond.methodLink RX9 150 yX1_remove ∈ LW := lwm (tb5 _ (List.mem_of_getElem? (i := 135) rfl)) rfl
theorem ml_L_194 : Cond.methodLink RL 194 yL_pass ∈ LW := lwm (tb5 _ (List.mem_of_getElem? (i := 136) rfl)) rfl
theorem ml_L_47 : Cond.methodLink RL 47 yX11_pass ∈ LW := lwm (tb5 _ (List.mem_of_getElem? (i := 139) rfl)) rfl
theorem ml_X11_103 : Cond.methodLink RX11 103 yX9_passFault ∈ LW := lwm (tb5 _ (List.mem_of_getElem? (i := 143) rfl)) rfl
theorem ml_X11_106 : Cond.methodLink RX11 106 yX9_letPass ∈ LW := lwm (tb5 _ (List.mem_of_getElem? (i := 147) rfl)) rfl
theorem ml_X9_158 : Cond.methodLink RX9 158 yX7_set ∈ LW := lwm (tb5 _ (List.mem_of_getElem? (i := 151) rfl)) rfl
theorem ml_L_197 : Cond.methodLink RL 197 yL_openPool ∈ LW := lwm (tb5 _ (List.mem_of_getElem? (i := 152) rfl)) rfl
theorem ml_L_50 : Cond.methodLink RL 50 yX11_openPool ∈ LW := lwm (tb5 _ (List.mem_of_getElem? (i := 155) rfl)) rfl
theorem ml_X11_109 : Cond.methodLink RX11 109 yX9_openFault ∈ LW := lwm (tb5 _ (List.mem_of_getElem? (i := 159) rfl)) rfl
theorem ml_X11_113 : Cond.methodLink RX11 113 yX9_startPool ∈ LW := lwm (tb5 _ (List.mem_of_getElem? (i := 163) rfl)) rfl
theorem ml_L_201 : Cond.methodLink RL 201 yL_closePool ∈ LW := lwm (tb5 _ (List.mem_of_getElem? (i := 167) rfl)) rfl
theorem ml_L_54 : Cond.methodLink RL 54 yX11_closePool ∈ LW := lwm (tb5 _ (List.mem_of_getElem? (i := 170) rfl)) rfl
theorem ml_X11_117 : Cond.methodLink RX11 117 yX9_closeFault ∈ LW := lwm (tb5 _ (List.mem_of_getElem? (i := 174) rfl)) rfl
theorem ml_X11_120 : Cond.methodLink RX11 120 yX9_endPool ∈ LW := lwm (tb5 _ (List.mem_of_getElem? (i := 178) rfl)) rfl
theorem ml_X9_161 : Cond.methodLink RX9 161 yX1_poolByTrying ∈ LW := lwm (tb5 _ (List.mem_of_getElem? (i := 182) rfl)) rfl
theorem ml_X9_173 : Cond.methodLink RX9 173 yX9_tradePool ∈ LW := lwm (tb5 _ (List.mem_of_getElem? (i := 183) rfl)) rfl
theorem ml_X9_179 : Cond.methodLink RX9 179 yJ9_max_7cf53 ∈ LW := lwm (tb5 _ (List.mem_of_getElem? (i := 187) rfl)) rfl
theorem ml_X9_176 : Cond.methodLink RX9 176 yX1_clear ∈ LW := lwm (tb5 _ (List.mem_of_getElem? (i := 188) rfl)) rfl
theorem ml_L_208 : Cond.methodLink RL 208 yL_moneyOf ∈ LW := lwm (tb5 _ (List.mem_of_getElem? (i := 192) rfl)) rfl
theorem ml_L_57 : Cond.methodLink RL 57 yX11_moneyOf ∈ LW := lwm (tb5 _ (List.mem_of_getElem? (i := 195) rfl)) rfl
theorem ml_X11_126 : Cond.methodLink RX11 126 yX11_requireStall ∈ LW := lwm (tb5 _ (List.mem_of_getElem? (i := 199) rfl)) rfl
theorem ml_X11_402 : Cond.methodLink RX11 402 yX8_has ∈ LW := lwm (tb5 _ (List.mem_of_getElem? (i := 203) rfl)) rfl
theorem ml_L_211 : Cond.methodLink RL 211 yL_dropsOf ∈ LW := lwm (tb5 _ (List.mem_of_getElem? (i := 204) rfl)) rfl
theorem ml_L_60 : Cond.methodLink RL 60 yX11_dropsOf ∈ LW := lwm (tb5 _ (List.mem_of_getElem? (i := 207) rfl)) rfl
theorem ml_L_214 : Cond.methodLink RL 214 yL_freeMoneyOf ∈ LW := lwm (tb5 _ (List.mem_of_getElem? (i := 211) rfl)) rfl
theorem ml_L_63 : Cond.methodLink RL 63 yX11_freeMoneyOf ∈ LW := lwm (tb5 _ (List.mem_of_getElem? (i := 214) rfl)) rfl
theorem ml_X11_142 : Cond.methodLink RX11 142 yX9_freeMoney ∈ LW := lwm (tb5 _ (List.mem_of_getElem? (i := 218) rfl)) rfl
theorem ml_L_217 : Cond.methodLink RL 217 yL_freeDropsOf ∈ LW := lwm (tb5 _ (List.mem_of_getElem? (i := 219) rfl)) rfl
theorem ml_L_66 : Cond.methodLink RL 66 yX11_freeDropsOf ∈ LW := lwm (tb5 _ (List.mem_of_getElem? (i := 222) rfl)) rfl
theorem ml_X11_145 : Cond.methodLink RX11 145 yX9_freeDrops ∈ LW := lwm (tb5 _ (List.mem_of_getElem? (i := 226) rfl)) rfl
theorem ml_L_228 : Cond.methodLink RL 228 yL_stallByMoney ∈ LW := lwm (tb5 _ (List.mem_of_getElem? (i := 227) rfl)) rfl
theorem ml_L_69 : Cond.methodLink RL 69 yX11_stallByMoney ∈ LW := lwm (tb5 _ (List.mem_of_getElem? (i := 230) rfl)) rfl
theorem ml_X11_151 : Cond.methodLink RX11 151 yX8_withRank ∈ LW := lwm (tb5 _ (List.mem_of_getElem? (i := 234) rfl)) rfl
theorem ml_X8_31 : Cond.methodLink RX8 31 yX8_rankOf ∈ LW := lwm (tb5 _ (List.mem_of_getElem? (i := 238) rfl)) rfl
theorem ml_X8_35 : Cond.methodLink RX8 35 yX7_get ∈ LW := lwm (tb6 _ (List.mem_of_getElem? (i := 2) rfl)) rfl
theorem ml_L_235 : Cond.methodLink RL 235 yL_orderAt ∈ LW := lwm (tb6 _ (List.mem_of_getElem? (i := 4) rfl)) rfl
theorem ml_L_72 : Cond.methodLink RL 72 yX11_orderAt ∈ LW := lwm (tb6 _ (List.mem_of_getElem? (i := 7) rfl)) rfl
theorem ml_L_238 : Cond.methodLink RL 238 yL_stallOf ∈ LW := lwm (tb6 _ (List.mem_of_getElem? (i := 12) rfl)) rfl
theorem ml_L_75 : Cond.methodLink RL 75 yX11_stallOf ∈ LW := lwm (tb6 _ (List.mem_of_getElem? (i := 15) rfl)) rfl
theorem ml_X11_178 : Cond.methodLink RX11 178 yX11_requireSlot ∈ LW := lwm (tb6 _ (List.mem_of_getElem? (i := 19) rfl)) rfl
theorem ml_X11_405 : Cond.methodLink RX11 405 yX1_slotOf ∈ LW := lwm (tb6 _ (List.mem_of_getElem? (i := 23) rfl)) rfl
theorem ml_L_241 : Cond.methodLink RL 241 yL_isBuying ∈ LW := lwm (tb6 _ (List.mem_of_getElem? (i := 24) rfl)) rfl
theorem ml_L_78 : Cond.methodLink RL 78 yX11_isBuying ∈ LW := lwm (tb6 _ (List.mem_of_getElem? (i := 27) rfl)) rfl
theorem ml_X11_181 : Cond.methodLink RX11 181 yX1_buys ∈ LW := lwm (tb6 _ (List.mem_of_getElem? (i := 31) rfl)) rfl
theorem ml_L_244 : Cond.methodLink RL 244 yL_priceOf ∈ LW := lwm (tb6 _ (List.mem_of_getElem? (i := 32) rfl)) rfl
theorem ml_L_82 : Cond.methodLink RL 82 yX11_priceOf ∈ LW := lwm (tb6 _ (List.mem_of_getElem? (i := 35) rfl)) rfl
theorem ml_L_247 : Cond.methodLink RL 247 yL_quantityOf ∈ LW := lwm (tb6 _ (List.mem_of_getElem? (i := 39) rfl)) rfl
theorem ml_L_85 : Cond.methodLink RL 85 yX11_quantityOf ∈ LW := lwm (tb6 _ (List.mem_of_getElem? (i := 42) rfl)) rfl
theorem ml_L_250 : Cond.methodLink RL 250 yL_minutesLeft ∈ LW := lwm (tb6 _ (List.mem_of_getElem? (i := 46) rfl)) rfl
theorem ml_L_88 : Cond.methodLink RL 88 yX11_minutesLeft ∈ LW := lwm (tb6 _ (List.mem_of_getElem? (i := 49) rfl)) rfl
theorem ml_L_253 : Cond.methodLink RL 253 yL_bestBuy ∈ LW := lwm (tb6 _ (List.mem_of_getElem? (i := 54) rfl)) rfl
theorem ml_L_91 : Cond.methodLink RL 91 yX11_bestBuy ∈ LW := lwm (tb6 _ (List.mem_of_getElem? (i := 57) rfl)) rfl
theorem ml_X11_199 : Cond.methodLink RX11 199 yX11_bestOrder ∈ LW := lwm (tb6 _ (List.mem_of_getElem? (i := 61) rfl)) rfl
theorem ml_L_256 : Cond.methodLink RL 256 yL_bestSell ∈ LW := lwm (tb6 _ (List.mem_of_getElem? (i := 66) rfl)) rfl
theorem ml_L_94 : Cond.methodLink RL 94 yX11_bestSell ∈ LW := lwm (tb6 _ (List.mem_of_getElem? (i := 69) rfl)) rfl
theorem ml_L_259 : Cond.methodLink RL 259 yL_spread ∈ LW := lwm (tb6 _ (List.mem_of_getElem? (i := 73) rfl)) rfl
theorem ml_L_97 : Cond.methodLink RL 97 yX11_spread ∈ LW := lwm (tb6 _ (List.mem_of_getElem? (i := 76) rfl)) rfl
theorem ml_X11_206 : Cond.methodLink RX11 206 yX11_requireSpread ∈ LW := lwm (tb6 _ (List.mem_of_getElem? (i := 80) rfl)) rfl
theorem ml_L_262 : Cond.methodLink RL 262 yL_spreadBySums ∈ LW := lwm (tb6 _ (List.mem_of_getElem? (i := 84) rfl)) rfl
theorem ml_L_100 : Cond.methodLink RL 100 yX11_spreadBySums ∈ LW := lwm (tb6 _ (List.mem_of_getElem? (i := 87) rfl)) rfl
theorem ml_L_265 : Cond.methodLink RL 265 yL_buyingAt ∈ LW := lwm (tb6 _ (List.mem_of_getElem? (i := 91) rfl)) rfl
theorem ml_L_103 : Cond.methodLink RL 103 yX11_buyingAt ∈ LW := lwm (tb6 _ (List.mem_of_getElem? (i := 94) rfl)) rfl
theorem ml_X11_216 : Cond.methodLink RX11 216 yX11_requirePrice ∈ LW := lwm (tb6 _ (List.mem_of_getElem? (i := 98) rfl)) rfl
theorem ml_L_268 : Cond.methodLink RL 268 yL_sellingAt ∈ LW := lwm (tb6 _ (List.mem_of_getElem? (i := 102) rfl)) rfl
theorem ml_L_106 : Cond.methodLink RL 106 yX11_sellingAt ∈ LW := lwm (tb6 _ (List.mem_of_getElem? (i := 105) rfl)) rfl
theorem ml_L_271 : Cond.methodLink RL 271 yL_lastPrice ∈ LW := lwm (tb6 _ (List.mem_of_getElem? (i := 109) rfl)) rfl
theorem ml_L_109 : Cond.methodLink RL 109 yX11_lastPrice ∈ LW := lwm (tb6 _ (List.mem_of_getElem? (i := 112) rfl)) rfl
theorem ml_L_287 : Cond.methodLink RL 287 yL_meanPrice ∈ LW := lwm (tb6 _ (List.mem_of_getElem? (i := 117) rfl)) rfl
theorem ml_java_lang_ArithmeticException_7 : Cond.methodLink "java/lang/ArithmeticException" 7 ⟨"java/lang/RuntimeException", "<init>", "(Ljava/lang/String;)V"⟩ ∈ LW := lwm (tb6 _ (List.mem_of_getElem? (i := 124) rfl)) rfl
theorem ml_L_112 : Cond.methodLink RL 112 yX11_meanPrice ∈ LW := lwm (tb6 _ (List.mem_of_getElem? (i := 134) rfl)) rfl
theorem ml_X11_240 : Cond.methodLink RX11 240 ⟨"java/lang/ArithmeticException", "<init>", "(Ljava/lang/String;)V"⟩ ∈ LW := lwm (tb6 _ (List.mem_of_getElem? (i := 139) rfl)) rfl
theorem ml_L_291 : Cond.methodLink RL 291 yL_buyingShare ∈ LW := lwm (tb6 _ (List.mem_of_getElem? (i := 140) rfl)) rfl
theorem ml_L_118 : Cond.methodLink RL 118 yX11_buyingShare ∈ LW := lwm (tb6 _ (List.mem_of_getElem? (i := 143) rfl)) rfl
theorem ml_X11_243 : Cond.methodLink RX11 243 yX1_buyingOrders ∈ LW := lwm (tb6 _ (List.mem_of_getElem? (i := 148) rfl)) rfl
theorem ml_L_299 : Cond.methodLink RL 299 yL_poolPrice ∈ LW := lwm (tb6 _ (List.mem_of_getElem? (i := 152) rfl)) rfl
theorem ml_L_122 : Cond.methodLink RL 122 yX11_poolPrice ∈ LW := lwm (tb6 _ (List.mem_of_getElem? (i := 155) rfl)) rfl
theorem ml_X11_253 : Cond.methodLink RX11 253 yX11_requirePoolPrice ∈ LW := lwm (tb6 _ (List.mem_of_getElem? (i := 159) rfl)) rfl
theorem ml_L_302 : Cond.methodLink RL 302 yL_poolPriceBySums ∈ LW := lwm (tb6 _ (List.mem_of_getElem? (i := 163) rfl)) rfl
theorem ml_L_125 : Cond.methodLink RL 125 yX11_poolPriceBySums ∈ LW := lwm (tb6 _ (List.mem_of_getElem? (i := 166) rfl)) rfl
theorem ml_L_305 : Cond.methodLink RL 305 yL_volumeAt ∈ LW := lwm (tb6 _ (List.mem_of_getElem? (i := 170) rfl)) rfl
theorem ml_L_128 : Cond.methodLink RL 128 yX11_volumeAt ∈ LW := lwm (tb6 _ (List.mem_of_getElem? (i := 173) rfl)) rfl
theorem ml_X11_260 : Cond.methodLink RX11 260 yX1_volume ∈ LW := lwm (tb6 _ (List.mem_of_getElem? (i := 177) rfl)) rfl
theorem ml_X1_74 : Cond.methodLink RX1 74 yJ9_min_7cf53 ∈ LW := lwm (tb6 _ (List.mem_of_getElem? (i := 181) rfl)) rfl
theorem ml_L_312 : Cond.methodLink RL 312 yL_writeOrder ∈ LW := lwm (tb6 _ (List.mem_of_getElem? (i := 182) rfl)) rfl
theorem ml_L_131 : Cond.methodLink RL 131 yX11_writeOrder ∈ LW := lwm (tb6 _ (List.mem_of_getElem? (i := 185) rfl)) rfl
theorem ml_L_319 : Cond.methodLink RL 319 yL_lineAt ∈ LW := lwm (tb6 _ (List.mem_of_getElem? (i := 189) rfl)) rfl
theorem ml_L_134 : Cond.methodLink RL 134 yX11_lineAt ∈ LW := lwm (tb6 _ (List.mem_of_getElem? (i := 192) rfl)) rfl
theorem ml_X11_285 : Cond.methodLink RX11 285 yJ4_charAt_5068e ∈ LW := lwm (tb6 _ (List.mem_of_getElem? (i := 197) rfl)) rfl
theorem ml_J4_329 : Cond.methodLink RJ4 329 yJ5_charAt_5068e ∈ LW := lwm (tb6 _ (List.mem_of_getElem? (i := 201) rfl)) rfl
theorem ml_J5_138 : Cond.methodLink RJ5 138 yJ9_min_7cf53 ∈ LW := lwm (tb6 _ (List.mem_of_getElem? (i := 204) rfl)) rfl
theorem ml_J5_144 : Cond.methodLink RJ5 144 yJ0_checkIndex_df160 ∈ LW := lwm (tb6 _ (List.mem_of_getElem? (i := 205) rfl)) rfl
theorem ml_J5_148 : Cond.methodLink RJ5 148 yJ2_getChar_3b067 ∈ LW := lwm (tb6 _ (List.mem_of_getElem? (i := 206) rfl)) rfl
theorem ml_L_326 : Cond.methodLink RL 326 yL_type ∈ LW := lwm (tb6 _ (List.mem_of_getElem? (i := 207) rfl)) rfl
theorem ml_L_138 : Cond.methodLink RL 138 yX11_type ∈ LW := lwm (tb6 _ (List.mem_of_getElem? (i := 210) rfl)) rfl
theorem ml_X11_303 : Cond.methodLink RX11 303 yX2_isFull ∈ LW := lwm (tb6 _ (List.mem_of_getElem? (i := 215) rfl)) rfl
theorem ml_X2_40 : Cond.methodLink RX2 40 yJ4_length_8abf5 ∈ LW := lwm (tb6 _ (List.mem_of_getElem? (i := 219) rfl)) rfl
theorem ml_X11_308 : Cond.methodLink RX11 308 yX2_append ∈ LW := lwm (tb6 _ (List.mem_of_getElem? (i := 221) rfl)) rfl
theorem ml_X2_44 : Cond.methodLink RX2 44 yJ4_append_cf468 ∈ LW := lwm (tb6 _ (List.mem_of_getElem? (i := 225) rfl)) rfl
theorem ml_L_330 : Cond.methodLink RL 330 yL_execute ∈ LW := lwm (tb6 _ (List.mem_of_getElem? (i := 226) rfl)) rfl
theorem ml_L_142 : Cond.methodLink RL 142 yX11_execute ∈ LW := lwm (tb6 _ (List.mem_of_getElem? (i := 229) rfl)) rfl
theorem ml_X11_311 : Cond.methodLink RX11 311 yX2_countCommands ∈ LW := lwm (tb6 _ (List.mem_of_getElem? (i := 233) rfl)) rfl
theorem ml_X2_51 : Cond.methodLink RX2 51 yX2_rewind ∈ LW := lwm (tb6 _ (List.mem_of_getElem? (i := 237) rfl)) rfl
theorem ml_X2_54 : Cond.methodLink RX2 54 yX2_readCommand ∈ LW := lwm (tb7 _ (List.mem_of_getElem? (i := 1) rfl)) rfl
theorem ml_X2_58 : Cond.methodLink RX2 58 yX2_readSign ∈ LW := lwm (tb7 _ (List.mem_of_getElem? (i := 5) rfl)) rfl
theorem ml_X2_93 : Cond.methodLink RX2 93 yX2_standsAt ∈ LW := lwm (tb7 _ (List.mem_of_getElem? (i := 9) rfl)) rfl
theorem ml_X2_115 : Cond.methodLink RX2 115 yJ4_charAt_5068e ∈ LW := lwm (tb7 _ (List.mem_of_getElem? (i := 13) rfl)) rfl
theorem ml_X2_62 : Cond.methodLink RX2 62 yX2_readVerb ∈ LW := lwm (tb7 _ (List.mem_of_getElem? (i := 14) rfl)) rfl
theorem ml_X2_76 : Cond.methodLink RX2 76 yX2_matchingLetters ∈ LW := lwm (tb7 _ (List.mem_of_getElem? (i := 20) rfl)) rfl
theorem ml_X2_80 : Cond.methodLink RX2 80 yJ0_length_8abf5 ∈ LW := lwm (tb7 _ (List.mem_of_getElem? (i := 24) rfl)) rfl
theorem ml_X2_89 : Cond.methodLink RX2 89 yJ0_charAt_5068e ∈ LW := lwm (tb7 _ (List.mem_of_getElem? (i := 25) rfl)) rfl
theorem ml_J0_492 : Cond.methodLink RJ0 492 yJ0_isLatin1_aae02 ∈ LW := lwm (tb7 _ (List.mem_of_getElem? (i := 29) rfl)) rfl
theorem ml_J0_495 : Cond.methodLink RJ0 495 yJ1_charAt_3b067 ∈ LW := lwm (tb7 _ (List.mem_of_getElem? (i := 33) rfl)) rfl
theorem ml_J1_9 : Cond.methodLink RJ1 9 yJ0_checkIndex_df160 ∈ LW := lwm (tb7 _ (List.mem_of_getElem? (i := 36) rfl)) rfl
theorem ml_J0_498 : Cond.methodLink RJ0 498 yJ2_charAt_3b067 ∈ LW := lwm (tb7 _ (List.mem_of_getElem? (i := 37) rfl)) rfl
theorem ml_X2_83 : Cond.methodLink RX2 83 yJ9_max_7cf53 ∈ LW := lwm (tb7 _ (List.mem_of_getElem? (i := 40) rfl)) rfl
theorem ml_X2_65 : Cond.methodLink RX2 65 yX2_readParameters ∈ LW := lwm (tb7 _ (List.mem_of_getElem? (i := 41) rfl)) rfl
theorem ml_X2_103 : Cond.methodLink RX2 103 yX2_readNumber ∈ LW := lwm (tb7 _ (List.mem_of_getElem? (i := 45) rfl)) rfl
theorem ml_X2_107 : Cond.methodLink RX2 107 yX2_digitAt ∈ LW := lwm (tb7 _ (List.mem_of_getElem? (i := 49) rfl)) rfl
theorem ml_X2_111 : Cond.methodLink RX2 111 yX7_set ∈ LW := lwm (tb7 _ (List.mem_of_getElem? (i := 53) rfl)) rfl
theorem ml_X11_317 : Cond.methodLink RX11 317 yX2_empty ∈ LW := lwm (tb7 _ (List.mem_of_getElem? (i := 54) rfl)) rfl
theorem ml_X2_48 : Cond.methodLink RX2 48 yJ4_setLength_d00df ∈ LW := lwm (tb7 _ (List.mem_of_getElem? (i := 58) rfl)) rfl
theorem ml_X11_325 : Cond.methodLink RX11 325 yX2_rewind ∈ LW := lwm (tb7 _ (List.mem_of_getElem? (i := 60) rfl)) rfl
theorem ml_X11_328 : Cond.methodLink RX11 328 yX2_readCommand ∈ LW := lwm (tb7 _ (List.mem_of_getElem? (i := 61) rfl)) rfl
theorem ml_X11_331 : Cond.methodLink RX11 331 yX11_commandFault ∈ LW := lwm (tb7 _ (List.mem_of_getElem? (i := 62) rfl)) rfl
theorem ml_X11_432 : Cond.methodLink RX11 432 ⟨"DropMarket$Verb", "ordinal", "()I"⟩ ∈ LW := lwm (tb7 _ (List.mem_of_getElem? (i := 68) rfl)) rfl
theorem ml_X11_340 : Cond.methodLink RX11 340 yX11_runCommand ∈ LW := lwm (tb7 _ (List.mem_of_getElem? (i := 75) rfl)) rfl
theorem ml_L_333 : Cond.methodLink RL 333 yL_errorPosition ∈ LW := lwm (tb7 _ (List.mem_of_getElem? (i := 80) rfl)) rfl
theorem ml_L_145 : Cond.methodLink RL 145 yX11_errorPosition ∈ LW := lwm (tb7 _ (List.mem_of_getElem? (i := 83) rfl)) rfl
theorem ml_L_336 : Cond.methodLink RL 336 yL_failedCommand ∈ LW := lwm (tb7 _ (List.mem_of_getElem? (i := 88) rfl)) rfl
theorem ml_L_148 : Cond.methodLink RL 148 yX11_failedCommand ∈ LW := lwm (tb7 _ (List.mem_of_getElem? (i := 91) rfl)) rfl
theorem ml_L_339 : Cond.methodLink RL 339 yL_undo ∈ LW := lwm (tb7 _ (List.mem_of_getElem? (i := 96) rfl)) rfl
theorem ml_L_151 : Cond.methodLink RL 151 yX11_undo ∈ LW := lwm (tb7 _ (List.mem_of_getElem? (i := 99) rfl)) rfl
theorem ml_X11_354 : Cond.methodLink RX11 354 yX4_popInto ∈ LW := lwm (tb7 _ (List.mem_of_getElem? (i := 104) rfl)) rfl
theorem ml_X4_39 : Cond.methodLink RX4 39 yJ9_max_7cf53 ∈ LW := lwm (tb7 _ (List.mem_of_getElem? (i := 108) rfl)) rfl
theorem ml_L_346 : Cond.methodLink RL 346 yL_restore ∈ LW := lwm (tb7 _ (List.mem_of_getElem? (i := 109) rfl)) rfl
theorem ml_L_154 : Cond.methodLink RL 154 yX11_restore ∈ LW := lwm (tb7 _ (List.mem_of_getElem? (i := 112) rfl)) rfl
theorem ml_X11_359 : Cond.methodLink RX11 359 yX4_forget ∈ LW := lwm (tb7 _ (List.mem_of_getElem? (i := 117) rfl)) rfl
theorem ml_L_160 : Cond.methodLink RL 160 yX12_init ∈ LW := lwm (tb7 _ (List.mem_of_getElem? (i := 123) rfl)) rfl
theorem ml_X12_3 : Cond.methodLink RX12 3 ⟨"java/lang/Object", "<init>", "()V"⟩ ∈ LW := lwm (tb7 _ (List.mem_of_getElem? (i := 126) rfl)) rfl
theorem ml_L_167 : Cond.methodLink RL 167 yX12_thrown ∈ LW := lwm (tb7 _ (List.mem_of_getElem? (i := 180) rfl)) rfl
theorem ml_L_166 : Cond.methodLink RL 166 yX12_addStall ∈ LW := lwm (tb7 _ (List.mem_of_getElem? (i := 184) rfl)) rfl
theorem ml_X12_101 : Cond.methodLink RX12 101 yX12_keep ∈ LW := lwm (tb7 _ (List.mem_of_getElem? (i := 188) rfl)) rfl
theorem ml_X12_42 : Cond.methodLink RX12 42 ⟨"java/lang/System", "arraycopy", "(Ljava/lang/Object;ILjava/lang/Object;II)V"⟩ ∈ LW := lwm (tb7 _ (List.mem_of_getElem? (i := 192) rfl)) rfl
theorem ml_X12_104 : Cond.methodLink RX12 104 yX12_doAddStall ∈ LW := lwm (tb7 _ (List.mem_of_getElem? (i := 193) rfl)) rfl
theorem ml_X12_51 : Cond.methodLink RX12 51 yX12_in ∈ LW := lwm (tb7 _ (List.mem_of_getElem? (i := 197) rfl)) rfl
theorem ml_X12_90 : Cond.methodLink RX12 90 yX12_fails ∈ LW := lwm (tb7 _ (List.mem_of_getElem? (i := 200) rfl)) rfl
theorem ml_X12_107 : Cond.methodLink RX12 107 yX12_ends ∈ LW := lwm (tb7 _ (List.mem_of_getElem? (i := 204) rfl)) rfl
theorem ml_L_173 : Cond.methodLink RL 173 yX12_placeBuy ∈ LW := lwm (tb7 _ (List.mem_of_getElem? (i := 208) rfl)) rfl
theorem ml_X12_110 : Cond.methodLink RX12 110 yX12_doPlace ∈ LW := lwm (tb7 _ (List.mem_of_getElem? (i := 212) rfl)) rfl
theorem ml_X12_87 : Cond.methodLink RX12 87 yX12_isStall ∈ LW := lwm (tb7 _ (List.mem_of_getElem? (i := 216) rfl)) rfl
theorem ml_X12_94 : Cond.methodLink RX12 94 yX12_free ∈ LW := lwm (tb7 _ (List.mem_of_getElem? (i := 220) rfl)) rfl
theorem ml_X12_59 : Cond.methodLink RX12 59 yX12_stall ∈ LW := lwm (tb7 _ (List.mem_of_getElem? (i := 224) rfl)) rfl
theorem ml_X12_55 : Cond.methodLink RX12 55 yX12_of ∈ LW := lwm (tb7 _ (List.mem_of_getElem? (i := 228) rfl)) rfl
theorem ml_X12_62 : Cond.methodLink RX12 62 yX12_buys ∈ LW := lwm (tb7 _ (List.mem_of_getElem? (i := 232) rfl)) rfl
theorem ml_X12_97 : Cond.methodLink RX12 97 yX12_trades ∈ LW := lwm (tb7 _ (List.mem_of_getElem? (i := 236) rfl)) rfl
theorem ml_X12_70 : Cond.methodLink RX12 70 yX12_best ∈ LW := lwm (tb8 _ (List.mem_of_getElem? (i := 0) rfl)) rfl
theorem ml_X12_74 : Cond.methodLink RX12 74 yJ9_min_7cf53 ∈ LW := lwm (tb8 _ (List.mem_of_getElem? (i := 4) rfl)) rfl
theorem ml_X12_79 : Cond.methodLink RX12 79 yX12_pays ∈ LW := lwm (tb8 _ (List.mem_of_getElem? (i := 5) rfl)) rfl
theorem ml_X12_83 : Cond.methodLink RX12 83 yX12_takes ∈ LW := lwm (tb8 _ (List.mem_of_getElem? (i := 9) rfl)) rfl
theorem ml_X12_66 : Cond.methodLink RX12 66 yX12_drops ∈ LW := lwm (tb8 _ (List.mem_of_getElem? (i := 13) rfl)) rfl
theorem ml_L_176 : Cond.methodLink RL 176 yX12_placeSell ∈ LW := lwm (tb8 _ (List.mem_of_getElem? (i := 17) rfl)) rfl
theorem ml_L_180 : Cond.methodLink RL 180 yX12_placeBuyFor ∈ LW := lwm (tb8 _ (List.mem_of_getElem? (i := 21) rfl)) rfl
theorem ml_X12_114 : Cond.methodLink RX12 114 yX12_minutesFor ∈ LW := lwm (tb8 _ (List.mem_of_getElem? (i := 25) rfl)) rfl
theorem ml_L_183 : Cond.methodLink RL 183 yX12_placeSellFor ∈ LW := lwm (tb8 _ (List.mem_of_getElem? (i := 28) rfl)) rfl
theorem ml_L_186 : Cond.methodLink RL 186 yX12_takeBuy ∈ LW := lwm (tb8 _ (List.mem_of_getElem? (i := 32) rfl)) rfl
theorem ml_L_189 : Cond.methodLink RL 189 yX12_takeSell ∈ LW := lwm (tb8 _ (List.mem_of_getElem? (i := 36) rfl)) rfl
theorem ml_L_193 : Cond.methodLink RL 193 yX12_cancel ∈ LW := lwm (tb8 _ (List.mem_of_getElem? (i := 40) rfl)) rfl
theorem ml_X12_120 : Cond.methodLink RX12 120 yX12_doCancel ∈ LW := lwm (tb8 _ (List.mem_of_getElem? (i := 44) rfl)) rfl
theorem ml_X12_117 : Cond.methodLink RX12 117 yX12_placeOf ∈ LW := lwm (tb8 _ (List.mem_of_getElem? (i := 48) rfl)) rfl
theorem ml_L_196 : Cond.methodLink RL 196 yX12_pass ∈ LW := lwm (tb8 _ (List.mem_of_getElem? (i := 52) rfl)) rfl
theorem ml_X12_123 : Cond.methodLink RX12 123 yX12_doPass ∈ LW := lwm (tb8 _ (List.mem_of_getElem? (i := 56) rfl)) rfl
theorem ml_L_200 : Cond.methodLink RL 200 yX12_openPool ∈ LW := lwm (tb8 _ (List.mem_of_getElem? (i := 60) rfl)) rfl
theorem ml_X12_126 : Cond.methodLink RX12 126 yX12_doOpen ∈ LW := lwm (tb8 _ (List.mem_of_getElem? (i := 64) rfl)) rfl
theorem ml_L_203 : Cond.methodLink RL 203 yX12_closePool ∈ LW := lwm (tb8 _ (List.mem_of_getElem? (i := 68) rfl)) rfl
theorem ml_X12_139 : Cond.methodLink RX12 139 yX12_doClose ∈ LW := lwm (tb8 _ (List.mem_of_getElem? (i := 72) rfl)) rfl
theorem ml_X12_130 : Cond.methodLink RX12 130 yX12_pool ∈ LW := lwm (tb8 _ (List.mem_of_getElem? (i := 76) rfl)) rfl
theorem ml_X12_158 : Cond.methodLink RX12 158 yX12_sum ∈ LW := lwm (tb8 _ (List.mem_of_getElem? (i := 80) rfl)) rfl
theorem ml_X12_136 : Cond.methodLink RX12 136 yJ9_max_7cf53 ∈ LW := lwm (tb8 _ (List.mem_of_getElem? (i := 84) rfl)) rfl
theorem ml_X12_133 : Cond.methodLink RX12 133 yX12_volume ∈ LW := lwm (tb8 _ (List.mem_of_getElem? (i := 85) rfl)) rfl
theorem ml_L_207 : Cond.methodLink RL 207 yX12_stallCount ∈ LW := lwm (tb8 _ (List.mem_of_getElem? (i := 89) rfl)) rfl
theorem ml_L_210 : Cond.methodLink RL 210 yX12_moneyOf ∈ LW := lwm (tb8 _ (List.mem_of_getElem? (i := 93) rfl)) rfl
theorem ml_X12_142 : Cond.methodLink RX12 142 yX12_isThere ∈ LW := lwm (tb8 _ (List.mem_of_getElem? (i := 97) rfl)) rfl
theorem ml_L_213 : Cond.methodLink RL 213 yX12_dropsOf ∈ LW := lwm (tb8 _ (List.mem_of_getElem? (i := 101) rfl)) rfl
theorem ml_L_216 : Cond.methodLink RL 216 yX12_freeMoneyOf ∈ LW := lwm (tb8 _ (List.mem_of_getElem? (i := 105) rfl)) rfl
theorem ml_L_219 : Cond.methodLink RL 219 yX12_freeDropsOf ∈ LW := lwm (tb8 _ (List.mem_of_getElem? (i := 109) rfl)) rfl
theorem ml_L_223 : Cond.methodLink RL 223 yX12_totalMoney ∈ LW := lwm (tb8 _ (List.mem_of_getElem? (i := 113) rfl)) rfl
theorem ml_X12_146 : Cond.methodLink RX12 146 yX12_total ∈ LW := lwm (tb8 _ (List.mem_of_getElem? (i := 117) rfl)) rfl
theorem ml_L_227 : Cond.methodLink RL 227 yX12_totalDrops ∈ LW := lwm (tb8 _ (List.mem_of_getElem? (i := 121) rfl)) rfl
theorem ml_L_230 : Cond.methodLink RL 230 yX12_stallByMoney ∈ LW := lwm (tb8 _ (List.mem_of_getElem? (i := 125) rfl)) rfl
theorem ml_L_234 : Cond.methodLink RL 234 yX12_orderCount ∈ LW := lwm (tb8 _ (List.mem_of_getElem? (i := 129) rfl)) rfl
theorem ml_L_237 : Cond.methodLink RL 237 yX12_orderAt ∈ LW := lwm (tb8 _ (List.mem_of_getElem? (i := 133) rfl)) rfl
theorem ml_L_240 : Cond.methodLink RL 240 yX12_stallOf ∈ LW := lwm (tb8 _ (List.mem_of_getElem? (i := 137) rfl)) rfl
theorem ml_X12_149 : Cond.methodLink RX12 149 yX12_tells ∈ LW := lwm (tb8 _ (List.mem_of_getElem? (i := 141) rfl)) rfl
theorem ml_L_243 : Cond.methodLink RL 243 yX12_isBuying ∈ LW := lwm (tb8 _ (List.mem_of_getElem? (i := 145) rfl)) rfl
theorem ml_L_246 : Cond.methodLink RL 246 yX12_priceOf ∈ LW := lwm (tb8 _ (List.mem_of_getElem? (i := 149) rfl)) rfl
theorem ml_L_249 : Cond.methodLink RL 249 yX12_quantityOf ∈ LW := lwm (tb8 _ (List.mem_of_getElem? (i := 153) rfl)) rfl
theorem ml_L_252 : Cond.methodLink RL 252 yX12_minutesLeft ∈ LW := lwm (tb8 _ (List.mem_of_getElem? (i := 157) rfl)) rfl
theorem ml_L_255 : Cond.methodLink RL 255 yX12_bestBuy ∈ LW := lwm (tb8 _ (List.mem_of_getElem? (i := 161) rfl)) rfl
theorem ml_X12_152 : Cond.methodLink RX12 152 yX12_asksBest ∈ LW := lwm (tb8 _ (List.mem_of_getElem? (i := 165) rfl)) rfl
theorem ml_L_258 : Cond.methodLink RL 258 yX12_bestSell ∈ LW := lwm (tb8 _ (List.mem_of_getElem? (i := 169) rfl)) rfl
theorem ml_L_261 : Cond.methodLink RL 261 yX12_spread ∈ LW := lwm (tb8 _ (List.mem_of_getElem? (i := 173) rfl)) rfl
theorem ml_L_264 : Cond.methodLink RL 264 yX12_spreadBySums ∈ LW := lwm (tb8 _ (List.mem_of_getElem? (i := 177) rfl)) rfl
theorem ml_X12_155 : Cond.methodLink RX12 155 yX12_spread ∈ LW := lwm (tb8 _ (List.mem_of_getElem? (i := 181) rfl)) rfl
theorem ml_L_267 : Cond.methodLink RL 267 yX12_buyingAt ∈ LW := lwm (tb8 _ (List.mem_of_getElem? (i := 182) rfl)) rfl
theorem ml_L_270 : Cond.methodLink RL 270 yX12_sellingAt ∈ LW := lwm (tb8 _ (List.mem_of_getElem? (i := 186) rfl)) rfl
theorem ml_L_273 : Cond.methodLink RL 273 yX12_lastPrice ∈ LW := lwm (tb8 _ (List.mem_of_getElem? (i := 190) rfl)) rfl
theorem ml_L_277 : Cond.methodLink RL 277 yX12_tradeCount ∈ LW := lwm (tb8 _ (List.mem_of_getElem? (i := 194) rfl)) rfl
theorem ml_L_281 : Cond.methodLink RL 281 yX12_tradedQuantity ∈ LW := lwm (tb8 _ (List.mem_of_getElem? (i := 198) rfl)) rfl
theorem ml_L_286 : Cond.methodLink RL 286 yX12_turnover ∈ LW := lwm (tb8 _ (List.mem_of_getElem? (i := 202) rfl)) rfl
theorem ml_L_290 : Cond.methodLink RL 290 yX12_meanPrice ∈ LW := lwm (tb8 _ (List.mem_of_getElem? (i := 206) rfl)) rfl
theorem ml_L_293 : Cond.methodLink RL 293 yX12_buyingShare ∈ LW := lwm (tb8 _ (List.mem_of_getElem? (i := 210) rfl)) rfl
theorem ml_L_298 : Cond.methodLink RL 298 yX12_isPoolOpen ∈ LW := lwm (tb8 _ (List.mem_of_getElem? (i := 214) rfl)) rfl
theorem ml_L_301 : Cond.methodLink RL 301 yX12_poolPrice ∈ LW := lwm (tb8 _ (List.mem_of_getElem? (i := 218) rfl)) rfl
theorem ml_L_304 : Cond.methodLink RL 304 yX12_poolPriceBySums ∈ LW := lwm (tb8 _ (List.mem_of_getElem? (i := 222) rfl)) rfl
theorem ml_X12_162 : Cond.methodLink RX12 162 yX12_poolPrice ∈ LW := lwm (tb8 _ (List.mem_of_getElem? (i := 226) rfl)) rfl
theorem ml_L_307 : Cond.methodLink RL 307 yX12_volumeAt ∈ LW := lwm (tb8 _ (List.mem_of_getElem? (i := 227) rfl)) rfl
theorem ml_L_311 : Cond.methodLink RL 311 yX12_time ∈ LW := lwm (tb8 _ (List.mem_of_getElem? (i := 231) rfl)) rfl
theorem ml_L_325 : Cond.methodLink RL 325 yX12_isConsistent ∈ LW := lwm (tb8 _ (List.mem_of_getElem? (i := 235) rfl)) rfl
theorem ml_L_314 : Cond.methodLink RL 314 yX12_writeOrder ∈ LW := lwm (tb8 _ (List.mem_of_getElem? (i := 239) rfl)) rfl
theorem ml_X12_168 : Cond.methodLink RX12 168 yX12_saysNumber ∈ LW := lwm (tb9 _ (List.mem_of_getElem? (i := 3) rfl)) rfl
theorem ml_X12_171 : Cond.methodLink RX12 171 yX12_says ∈ LW := lwm (tb9 _ (List.mem_of_getElem? (i := 7) rfl)) rfl
theorem ml_X12_175 : Cond.methodLink RX12 175 yX12_saysAmount ∈ LW := lwm (tb9 _ (List.mem_of_getElem? (i := 11) rfl)) rfl
theorem ml_L_318 : Cond.methodLink RL 318 yX12_writeBook ∈ LW := lwm (tb9 _ (List.mem_of_getElem? (i := 15) rfl)) rfl
theorem ml_X12_178 : Cond.methodLink RX12 178 yX12_saysBest ∈ LW := lwm (tb9 _ (List.mem_of_getElem? (i := 19) rfl)) rfl
theorem ml_L_321 : Cond.methodLink RL 321 yX12_lineAt ∈ LW := lwm (tb9 _ (List.mem_of_getElem? (i := 23) rfl)) rfl
theorem ml_L_329 : Cond.methodLink RL 329 yX12_type ∈ LW := lwm (tb9 _ (List.mem_of_getElem? (i := 27) rfl)) rfl
theorem ml_L_332 : Cond.methodLink RL 332 yX12_execute ∈ LW := lwm (tb9 _ (List.mem_of_getElem? (i := 31) rfl)) rfl
theorem ml_X12_232 : Cond.methodLink RX12 232 yX12_readCommand ∈ LW := lwm (tb9 _ (List.mem_of_getElem? (i := 35) rfl)) rfl
theorem ml_X12_196 : Cond.methodLink RX12 196 yX12_behind ∈ LW := lwm (tb9 _ (List.mem_of_getElem? (i := 39) rfl)) rfl
theorem ml_X12_205 : Cond.methodLink RX12 205 yX12_skip ∈ LW := lwm (tb9 _ (List.mem_of_getElem? (i := 44) rfl)) rfl
theorem ml_X12_188 : Cond.methodLink RX12 188 yJ0_length_8abf5 ∈ LW := lwm (tb9 _ (List.mem_of_getElem? (i := 48) rfl)) rfl
theorem ml_X12_199 : Cond.methodLink RX12 199 yJ0_charAt_5068e ∈ LW := lwm (tb9 _ (List.mem_of_getElem? (i := 49) rfl)) rfl
theorem ml_X12_217 : Cond.methodLink RX12 217 yX12_readNumber ∈ LW := lwm (tb9 _ (List.mem_of_getElem? (i := 50) rfl)) rfl
theorem ml_X12_209 : Cond.methodLink RX12 209 yX12_isDigit ∈ LW := lwm (tb9 _ (List.mem_of_getElem? (i := 55) rfl)) rfl
theorem ml_X12_235 : Cond.methodLink RX12 235 yX12_does ∈ LW := lwm (tb9 _ (List.mem_of_getElem? (i := 65) rfl)) rfl
theorem ml_L_335 : Cond.methodLink RL 335 yX12_errorPosition ∈ LW := lwm (tb9 _ (List.mem_of_getElem? (i := 69) rfl)) rfl
theorem ml_L_338 : Cond.methodLink RL 338 yX12_failedCommand ∈ LW := lwm (tb9 _ (List.mem_of_getElem? (i := 73) rfl)) rfl
theorem ml_L_341 : Cond.methodLink RL 341 yX12_undo ∈ LW := lwm (tb9 _ (List.mem_of_getElem? (i := 77) rfl)) rfl
theorem ml_L_345 : Cond.methodLink RL 345 yX12_save ∈ LW := lwm (tb9 _ (List.mem_of_getElem? (i := 81) rfl)) rfl
theorem ml_L_348 : Cond.methodLink RL 348 yX12_restore ∈ LW := lwm (tb9 _ (List.mem_of_getElem? (i := 85) rfl)) rfl
theorem obj_i1 : Cond.instanceMethod Lib.objectInit ∈ LW := lwm (tb1 _ (List.mem_of_getElem? (i := 44) rfl)) rfl
theorem obj_i2 : Cond.code Lib.objectInit ⟨#[0xb1]⟩ 1 none ∈ LW := lwm (tb1 _ (List.mem_of_getElem? (i := 45) rfl)) rfl
theorem mn_X11_9 : Cond.methodLinkNest RX11 9 yX9_init "DropMarket" ∈ lw_tbl := tb1 _ (List.mem_of_getElem? (i := 48) rfl)
theorem mn_X9_11 : Cond.methodLinkNest RX9 11 yX8_init "DropMarket" ∈ lw_tbl := tb1 _ (List.mem_of_getElem? (i := 54) rfl)
theorem mn_X9_20 : Cond.methodLinkNest RX9 20 yX1_init "DropMarket" ∈ lw_tbl := tb1 _ (List.mem_of_getElem? (i := 90) rfl)
theorem mn_X4_24 : Cond.methodLinkNest RX4 24 yX9_init "DropMarket" ∈ lw_tbl := tb1 _ (List.mem_of_getElem? (i := 176) rfl)
theorem mn_X11_31 : Cond.methodLinkNest RX11 31 yX6_init "DropMarket" ∈ lw_tbl := tb1 _ (List.mem_of_getElem? (i := 190) rfl)
theorem mn_X11_38 : Cond.methodLinkNest RX11 38 yX2_init "DropMarket" ∈ lw_tbl := tb1 _ (List.mem_of_getElem? (i := 205) rfl)
theorem mn_X1_82 : Cond.methodLinkNest RX1 82 yX5_init "DropMarket" ∈ lw_tbl := tb4 _ (List.mem_of_getElem? (i := 46) rfl)
theorem mn_X6_52 : Cond.methodLinkNest RX6 52 yX5_init "DropMarket" ∈ lw_tbl := tb4 _ (List.mem_of_getElem? (i := 84) rfl)
theorem mn_X9_49 : Cond.methodLinkNest RX9 49 yX11_isWithin "DropMarket" ∈ lw_tbl := tb4 _ (List.mem_of_getElem? (i := 142) rfl)
theorem acp_n : Cond.native arraycopyName ∈ LW := lwm (tb2 _ (List.mem_of_getElem? (i := 157) rfl)) rfl
theorem acp_s : Cond.static arraycopyName ∈ LW := lwm (tb2 _ (List.mem_of_getElem? (i := 156) rfl)) rfl
theorem ac_int : Cond.arrayClass .int ∈ LW := lwm (tb1 _ (List.mem_of_getElem? (i := 71) rfl)) rfl
theorem ac_byte : Cond.arrayClass .byte ∈ LW := lwm (tb2 _ (List.mem_of_getElem? (i := 1) rfl)) rfl
theorem ac_char : Cond.arrayClass .char ∈ LW := lwm (tb7 _ (List.mem_of_getElem? (i := 179) rfl)) rfl
theorem ac_long : Cond.arrayClass .long ∈ LW := lwm (tb9 _ (List.mem_of_getElem? (i := 89) rfl)) rfl
theorem ac_double : Cond.arrayClass .double ∈ LW := lwm (tb9 _ (List.mem_of_getElem? (i := 90) rfl)) rfl
-- the methods
theorem yf_X11_init : YfI yX11_init cX11_init 1 0 := ⟨⟨lwm (tb1 _ (List.mem_of_getElem? (i := 41) rfl)) rfl, lwm (tb1 _ (List.mem_of_getElem? (i := 1) rfl)) rfl, lwm (tb1 _ (List.mem_of_getElem? (i := 42) rfl)) rfl⟩, by decide +kernel⟩
theorem yf_X9_init : YfI yX9_init cX9_init 1 0 := ⟨⟨lwm (tb1 _ (List.mem_of_getElem? (i := 49) rfl)) rfl, lwm (tb1 _ (List.mem_of_getElem? (i := 2) rfl)) rfl, lwm (tb1 _ (List.mem_of_getElem? (i := 50) rfl)) rfl⟩, by decide +kernel⟩
theorem yf_X8_init : YfI yX8_init cX8_init 1 0 := ⟨⟨lwm (tb1 _ (List.mem_of_getElem? (i := 55) rfl)) rfl, lwm (tb1 _ (List.mem_of_getElem? (i := 3) rfl)) rfl, lwm (tb1 _ (List.mem_of_getElem? (i := 56) rfl)) rfl⟩, by decide +kernel⟩
theorem yf_X7_init : YfI yX7_init cX7_init 2 1 := ⟨⟨lwm (tb1 _ (List.mem_of_getElem? (i := 61) rfl)) rfl, lwm (tb1 _ (List.mem_of_getElem? (i := 4) rfl)) rfl, lwm (tb1 _ (List.mem_of_getElem? (i := 62) rfl)) rfl⟩, by decide +kernel⟩
theorem yf_J9_max_7cf53 : YfS yJ9_max_7cf53 cJ9_max_7cf53 2 (some .int) 2 := ⟨⟨lwm (tb1 _ (List.mem_of_getElem? (i := 65) rfl)) rfl, lwm (tb1 _ (List.mem_of_getElem? (i := 5) rfl)) rfl, lwm (tb1 _ (List.mem_of_getElem? (i := 66) rfl)) rfl⟩, by decide +kernel⟩
theorem yf_X1_init : YfI yX1_init cX1_init 1 0 := ⟨⟨lwm (tb1 _ (List.mem_of_getElem? (i := 91) rfl)) rfl, lwm (tb1 _ (List.mem_of_getElem? (i := 6) rfl)) rfl, lwm (tb1 _ (List.mem_of_getElem? (i := 92) rfl)) rfl⟩, by decide +kernel⟩
theorem yf_X4_init : YfI yX4_init cX4_init 2 0 := ⟨⟨lwm (tb1 _ (List.mem_of_getElem? (i := 171) rfl)) rfl, lwm (tb1 _ (List.mem_of_getElem? (i := 7) rfl)) rfl, lwm (tb1 _ (List.mem_of_getElem? (i := 172) rfl)) rfl⟩, by decide +kernel⟩
theorem yf_X6_init : YfI yX6_init cX6_init 1 0 := ⟨⟨lwm (tb1 _ (List.mem_of_getElem? (i := 191) rfl)) rfl, lwm (tb1 _ (List.mem_of_getElem? (i := 8) rfl)) rfl, lwm (tb1 _ (List.mem_of_getElem? (i := 192) rfl)) rfl⟩, by decide +kernel⟩
theorem yf_X2_init : YfI yX2_init cX2_init 1 0 := ⟨⟨lwm (tb1 _ (List.mem_of_getElem? (i := 206) rfl)) rfl, lwm (tb1 _ (List.mem_of_getElem? (i := 9) rfl)) rfl, lwm (tb1 _ (List.mem_of_getElem? (i := 207) rfl)) rfl⟩, by decide +kernel⟩
theorem yf_J4_init_da8c8 : YfI yJ4_init_da8c8 cJ4_init_da8c8 1 0 := ⟨⟨lwm (tb1 _ (List.mem_of_getElem? (i := 212) rfl)) rfl, lwm (tb1 _ (List.mem_of_getElem? (i := 11) rfl)) rfl, lwm (tb1 _ (List.mem_of_getElem? (i := 213) rfl)) rfl⟩, by decide +kernel⟩
theorem yf_J5_init_d00df : YfI yJ5_init_d00df cJ5_init_d00df 2 1 := ⟨⟨lwm (tb1 _ (List.mem_of_getElem? (i := 215) rfl)) rfl, lwm (tb1 _ (List.mem_of_getElem? (i := 10) rfl)) rfl, lwm (tb1 _ (List.mem_of_getElem? (i := 216) rfl)) rfl⟩, by decide +kernel⟩
theorem yf_J2_newBytesFor_77867 : YfS yJ2_newBytesFor_77867 cJ2_newBytesFor_77867 1 (some (.array .byte)) 1 := ⟨⟨lwm (tb1 _ (List.mem_of_getElem? (i := 221) rfl)) rfl, lwm (tb1 _ (List.mem_of_getElem? (i := 13) rfl)) rfl, lwm (tb1 _ (List.mem_of_getElem? (i := 222) rfl)) rfl⟩, by decide +kernel⟩
theorem yf_J2_newBytesLength_0f7a4 : YfS yJ2_newBytesLength_0f7a4 cJ2_newBytesLength_0f7a4 1 (some .int) 1 := ⟨⟨lwm (tb1 _ (List.mem_of_getElem? (i := 224) rfl)) rfl, lwm (tb1 _ (List.mem_of_getElem? (i := 13) rfl)) rfl, lwm (tb1 _ (List.mem_of_getElem? (i := 225) rfl)) rfl⟩, by decide +kernel⟩
theorem yf_X11_stallCount : YfV yX11_stallCount cX11_stallCount 1 (some .int) 0 := ⟨⟨lwm (tb2 _ (List.mem_of_getElem? (i := 56) rfl)) rfl, lwm (tb2 _ (List.mem_of_getElem? (i := 57) rfl)) rfl, lwm (tb1 _ (List.mem_of_getElem? (i := 1) rfl)) rfl, lwm (tb2 _ (List.mem_of_getElem? (i := 58) rfl)) rfl⟩, by decide +kernel⟩
theorem yf_X11_totalMoney : YfV yX11_totalMoney cX11_totalMoney 1 (some .int) 0 := ⟨⟨lwm (tb2 _ (List.mem_of_getElem? (i := 60) rfl)) rfl, lwm (tb2 _ (List.mem_of_getElem? (i := 61) rfl)) rfl, lwm (tb1 _ (List.mem_of_getElem? (i := 1) rfl)) rfl, lwm (tb2 _ (List.mem_of_getElem? (i := 62) rfl)) rfl⟩, by decide +kernel⟩
theorem yf_X7_sum : YfV yX7_sum cX7_sum 6 (some .int) 0 := ⟨⟨lwm (tb2 _ (List.mem_of_getElem? (i := 64) rfl)) rfl, lwm (tb2 _ (List.mem_of_getElem? (i := 65) rfl)) rfl, lwm (tb1 _ (List.mem_of_getElem? (i := 4) rfl)) rfl, lwm (tb2 _ (List.mem_of_getElem? (i := 66) rfl)) rfl⟩, by decide +kernel⟩
theorem yf_X11_totalDrops : YfV yX11_totalDrops cX11_totalDrops 1 (some .int) 0 := ⟨⟨lwm (tb2 _ (List.mem_of_getElem? (i := 68) rfl)) rfl, lwm (tb2 _ (List.mem_of_getElem? (i := 69) rfl)) rfl, lwm (tb1 _ (List.mem_of_getElem? (i := 1) rfl)) rfl, lwm (tb2 _ (List.mem_of_getElem? (i := 70) rfl)) rfl⟩, by decide +kernel⟩
theorem yf_X11_orderCount : YfV yX11_orderCount cX11_orderCount 1 (some .int) 0 := ⟨⟨lwm (tb2 _ (List.mem_of_getElem? (i := 72) rfl)) rfl, lwm (tb2 _ (List.mem_of_getElem? (i := 73) rfl)) rfl, lwm (tb1 _ (List.mem_of_getElem? (i := 1) rfl)) rfl, lwm (tb2 _ (List.mem_of_getElem? (i := 74) rfl)) rfl⟩, by decide +kernel⟩
theorem yf_X11_tradeCount : YfV yX11_tradeCount cX11_tradeCount 1 (some .int) 0 := ⟨⟨lwm (tb2 _ (List.mem_of_getElem? (i := 76) rfl)) rfl, lwm (tb2 _ (List.mem_of_getElem? (i := 77) rfl)) rfl, lwm (tb1 _ (List.mem_of_getElem? (i := 1) rfl)) rfl, lwm (tb2 _ (List.mem_of_getElem? (i := 78) rfl)) rfl⟩, by decide +kernel⟩
theorem yf_X11_tradedQuantity : YfV yX11_tradedQuantity cX11_tradedQuantity 1 (some .int) 0 := ⟨⟨lwm (tb2 _ (List.mem_of_getElem? (i := 80) rfl)) rfl, lwm (tb2 _ (List.mem_of_getElem? (i := 81) rfl)) rfl, lwm (tb1 _ (List.mem_of_getElem? (i := 1) rfl)) rfl, lwm (tb2 _ (List.mem_of_getElem? (i := 82) rfl)) rfl⟩, by decide +kernel⟩
theorem yf_X11_turnover : YfV yX11_turnover cX11_turnover 1 (some .long) 0 := ⟨⟨lwm (tb2 _ (List.mem_of_getElem? (i := 84) rfl)) rfl, lwm (tb2 _ (List.mem_of_getElem? (i := 85) rfl)) rfl, lwm (tb1 _ (List.mem_of_getElem? (i := 1) rfl)) rfl, lwm (tb2 _ (List.mem_of_getElem? (i := 86) rfl)) rfl⟩, by decide +kernel⟩
theorem yf_X11_isPoolOpen : YfV yX11_isPoolOpen cX11_isPoolOpen 1 (some .boolean) 0 := ⟨⟨lwm (tb2 _ (List.mem_of_getElem? (i := 88) rfl)) rfl, lwm (tb2 _ (List.mem_of_getElem? (i := 89) rfl)) rfl, lwm (tb1 _ (List.mem_of_getElem? (i := 1) rfl)) rfl, lwm (tb2 _ (List.mem_of_getElem? (i := 90) rfl)) rfl⟩, by decide +kernel⟩
theorem yf_X11_time : YfV yX11_time cX11_time 1 (some .int) 0 := ⟨⟨lwm (tb2 _ (List.mem_of_getElem? (i := 92) rfl)) rfl, lwm (tb2 _ (List.mem_of_getElem? (i := 93) rfl)) rfl, lwm (tb1 _ (List.mem_of_getElem? (i := 1) rfl)) rfl, lwm (tb2 _ (List.mem_of_getElem? (i := 94) rfl)) rfl⟩, by decide +kernel⟩
theorem yf_X11_writeBook : YfV yX11_writeBook cX11_writeBook 1 (some .int) 0 := ⟨⟨lwm (tb2 _ (List.mem_of_getElem? (i := 96) rfl)) rfl, lwm (tb2 _ (List.mem_of_getElem? (i := 97) rfl)) rfl, lwm (tb1 _ (List.mem_of_getElem? (i := 1) rfl)) rfl, lwm (tb2 _ (List.mem_of_getElem? (i := 98) rfl)) rfl⟩, by decide +kernel⟩
theorem yf_J4_setLength_d00df : YfV yJ4_setLength_d00df cJ4_setLength_d00df 2 none 1 := ⟨⟨lwm (tb2 _ (List.mem_of_getElem? (i := 100) rfl)) rfl, lwm (tb2 _ (List.mem_of_getElem? (i := 101) rfl)) rfl, lwm (tb1 _ (List.mem_of_getElem? (i := 11) rfl)) rfl, lwm (tb2 _ (List.mem_of_getElem? (i := 102) rfl)) rfl⟩, by decide +kernel⟩
theorem yf_Jx7c733_init_d00df : YfI yJx7c733_init_d00df cJx7c733_init_d00df 2 1 := ⟨⟨lwm (tb2 _ (List.mem_of_getElem? (i := 109) rfl)) rfl, lwm (tb1 _ (List.mem_of_getElem? (i := 30) rfl)) rfl, lwm (tb2 _ (List.mem_of_getElem? (i := 110) rfl)) rfl⟩, by decide +kernel⟩
theorem yf_J4_append_15ec4 : YfV yJ4_append_15ec4 cJ4_append_15ec4 2 (some (.object "java/lang/StringBuilder")) 1 := ⟨⟨lwm (tb2 _ (List.mem_of_getElem? (i := 115) rfl)) rfl, lwm (tb2 _ (List.mem_of_getElem? (i := 116) rfl)) rfl, lwm (tb1 _ (List.mem_of_getElem? (i := 11) rfl)) rfl, lwm (tb2 _ (List.mem_of_getElem? (i := 117) rfl)) rfl⟩, by decide +kernel⟩
theorem yf_J8_newLength_cabcc : YfS yJ8_newLength_cabcc cJ8_newLength_cabcc 4 (some .int) 3 := ⟨⟨lwm (tb2 _ (List.mem_of_getElem? (i := 134) rfl)) rfl, lwm (tb1 _ (List.mem_of_getElem? (i := 31) rfl)) rfl, lwm (tb2 _ (List.mem_of_getElem? (i := 135) rfl)) rfl⟩, by decide +kernel⟩
theorem yf_J8_hugeLength_7cf53 : YfS yJ8_hugeLength_7cf53 cJ8_hugeLength_7cf53 3 (some .int) 2 := ⟨⟨lwm (tb2 _ (List.mem_of_getElem? (i := 139) rfl)) rfl, lwm (tb1 _ (List.mem_of_getElem? (i := 31) rfl)) rfl, lwm (tb2 _ (List.mem_of_getElem? (i := 140) rfl)) rfl⟩, by decide +kernel⟩
theorem yf_J7_copyOf_9075b : YfS yJ7_copyOf_9075b cJ7_copyOf_9075b 3 (some (.array .byte)) 2 := ⟨⟨lwm (tb2 _ (List.mem_of_getElem? (i := 143) rfl)) rfl, lwm (tb1 _ (List.mem_of_getElem? (i := 32) rfl)) rfl, lwm (tb2 _ (List.mem_of_getElem? (i := 144) rfl)) rfl⟩, by decide +kernel⟩
theorem yf_J9_min_7cf53 : YfS yJ9_min_7cf53 cJ9_min_7cf53 2 (some .int) 2 := ⟨⟨lwm (tb2 _ (List.mem_of_getElem? (i := 153) rfl)) rfl, lwm (tb1 _ (List.mem_of_getElem? (i := 5) rfl)) rfl, lwm (tb2 _ (List.mem_of_getElem? (i := 154) rfl)) rfl⟩, by decide +kernel⟩
theorem yf_J2_putCharsAt_cd4e5 : YfS yJ2_putCharsAt_cd4e5 cJ2_putCharsAt_cd4e5 7 (some .int) 6 := ⟨⟨lwm (tb2 _ (List.mem_of_getElem? (i := 164) rfl)) rfl, lwm (tb1 _ (List.mem_of_getElem? (i := 13) rfl)) rfl, lwm (tb2 _ (List.mem_of_getElem? (i := 165) rfl)) rfl⟩, by decide +kernel⟩
theorem yf_J2_checkBoundsBeginEnd_d044e : YfS yJ2_checkBoundsBeginEnd_d044e cJ2_checkBoundsBeginEnd_d044e 3 none 3 := ⟨⟨lwm (tb2 _ (List.mem_of_getElem? (i := 167) rfl)) rfl, lwm (tb1 _ (List.mem_of_getElem? (i := 13) rfl)) rfl, lwm (tb2 _ (List.mem_of_getElem? (i := 168) rfl)) rfl⟩, by decide +kernel⟩
theorem yf_J2_length_9d52b : YfS yJ2_length_9d52b cJ2_length_9d52b 1 (some .int) 1 := ⟨⟨lwm (tb2 _ (List.mem_of_getElem? (i := 170) rfl)) rfl, lwm (tb1 _ (List.mem_of_getElem? (i := 13) rfl)) rfl, lwm (tb2 _ (List.mem_of_getElem? (i := 171) rfl)) rfl⟩, by decide +kernel⟩
theorem yf_J0_checkBoundsBeginEnd_23922 : YfS yJ0_checkBoundsBeginEnd_23922 cJ0_checkBoundsBeginEnd_23922 3 none 3 := ⟨⟨lwm (tb2 _ (List.mem_of_getElem? (i := 173) rfl)) rfl, lwm (tb1 _ (List.mem_of_getElem? (i := 12) rfl)) rfl, lwm (tb2 _ (List.mem_of_getElem? (i := 174) rfl)) rfl⟩, by decide +kernel⟩
theorem yf_J3_checkFromToIndex_8c36e : YfS yJ3_checkFromToIndex_8c36e cJ3_checkFromToIndex_8c36e 4 (some .int) 4 := ⟨⟨lwm (tb2 _ (List.mem_of_getElem? (i := 178) rfl)) rfl, lwm (tb1 _ (List.mem_of_getElem? (i := 33) rfl)) rfl, lwm (tb2 _ (List.mem_of_getElem? (i := 179) rfl)) rfl⟩, by decide +kernel⟩
theorem yf_J2_putChar_b72d1 : YfS yJ2_putChar_b72d1 cJ2_putChar_b72d1 3 none 3 := ⟨⟨lwm (tb2 _ (List.mem_of_getElem? (i := 181) rfl)) rfl, lwm (tb1 _ (List.mem_of_getElem? (i := 13) rfl)) rfl, lwm (tb2 _ (List.mem_of_getElem? (i := 182) rfl)) rfl⟩, by decide +kernel⟩
theorem yf_J0_length_8abf5 : YfV yJ0_length_8abf5 cJ0_length_8abf5 1 (some .int) 0 := ⟨⟨lwm (tb2 _ (List.mem_of_getElem? (i := 190) rfl)) rfl, lwm (tb2 _ (List.mem_of_getElem? (i := 191) rfl)) rfl, lwm (tb1 _ (List.mem_of_getElem? (i := 12) rfl)) rfl, lwm (tb2 _ (List.mem_of_getElem? (i := 192) rfl)) rfl⟩, by decide +kernel⟩
theorem yf_J0_coder_7d493 : YfV yJ0_coder_7d493 cJ0_coder_7d493 1 (some .byte) 0 := ⟨⟨lwm (tb2 _ (List.mem_of_getElem? (i := 194) rfl)) rfl, lwm (tb2 _ (List.mem_of_getElem? (i := 195) rfl)) rfl, lwm (tb1 _ (List.mem_of_getElem? (i := 12) rfl)) rfl, lwm (tb2 _ (List.mem_of_getElem? (i := 196) rfl)) rfl⟩, by decide +kernel⟩
theorem yf_J1_inflate_0e8fd : YfS yJ1_inflate_0e8fd cJ1_inflate_0e8fd 5 none 5 := ⟨⟨lwm (tb2 _ (List.mem_of_getElem? (i := 212) rfl)) rfl, lwm (tb1 _ (List.mem_of_getElem? (i := 34) rfl)) rfl, lwm (tb2 _ (List.mem_of_getElem? (i := 213) rfl)) rfl⟩, by decide +kernel⟩
theorem yf_J2_inflate_0e8fd : YfS yJ2_inflate_0e8fd cJ2_inflate_0e8fd 6 none 5 := ⟨⟨lwm (tb2 _ (List.mem_of_getElem? (i := 215) rfl)) rfl, lwm (tb1 _ (List.mem_of_getElem? (i := 13) rfl)) rfl, lwm (tb2 _ (List.mem_of_getElem? (i := 216) rfl)) rfl⟩, by decide +kernel⟩
theorem yf_J2_checkBoundsOffCount_d044e : YfS yJ2_checkBoundsOffCount_d044e cJ2_checkBoundsOffCount_d044e 3 none 3 := ⟨⟨lwm (tb2 _ (List.mem_of_getElem? (i := 218) rfl)) rfl, lwm (tb1 _ (List.mem_of_getElem? (i := 13) rfl)) rfl, lwm (tb2 _ (List.mem_of_getElem? (i := 219) rfl)) rfl⟩, by decide +kernel⟩
theorem yf_J0_checkBoundsOffCount_cabcc : YfS yJ0_checkBoundsOffCount_cabcc cJ0_checkBoundsOffCount_cabcc 3 (some .int) 3 := ⟨⟨lwm (tb2 _ (List.mem_of_getElem? (i := 221) rfl)) rfl, lwm (tb1 _ (List.mem_of_getElem? (i := 12) rfl)) rfl, lwm (tb2 _ (List.mem_of_getElem? (i := 222) rfl)) rfl⟩, by decide +kernel⟩
theorem yf_J3_checkFromIndexSize_8c36e : YfS yJ3_checkFromIndexSize_8c36e cJ3_checkFromIndexSize_8c36e 4 (some .int) 4 := ⟨⟨lwm (tb2 _ (List.mem_of_getElem? (i := 224) rfl)) rfl, lwm (tb1 _ (List.mem_of_getElem? (i := 33) rfl)) rfl, lwm (tb2 _ (List.mem_of_getElem? (i := 225) rfl)) rfl⟩, by decide +kernel⟩
theorem yf_J0_getBytes_840e7 : YfV yJ0_getBytes_840e7 cJ0_getBytes_840e7 4 none 3 := ⟨⟨lwm (tb2 _ (List.mem_of_getElem? (i := 227) rfl)) rfl, lwm (tb2 _ (List.mem_of_getElem? (i := 228) rfl)) rfl, lwm (tb1 _ (List.mem_of_getElem? (i := 12) rfl)) rfl, lwm (tb2 _ (List.mem_of_getElem? (i := 229) rfl)) rfl⟩, by decide +kernel⟩
theorem yf_J4_append_bf812 : YfV yJ4_append_bf812 cJ4_append_bf812 2 (some (.object "java/lang/StringBuilder")) 1 := ⟨⟨lwm (tb2 _ (List.mem_of_getElem? (i := 233) rfl)) rfl, lwm (tb2 _ (List.mem_of_getElem? (i := 234) rfl)) rfl, lwm (tb1 _ (List.mem_of_getElem? (i := 11) rfl)) rfl, lwm (tb2 _ (List.mem_of_getElem? (i := 235) rfl)) rfl⟩, by decide +kernel⟩
theorem yf_J6_stringSize_0f7a4 : YfS yJ6_stringSize_0f7a4 cJ6_stringSize_0f7a4 4 (some .int) 1 := ⟨⟨lwm (tb3 _ (List.mem_of_getElem? (i := 0) rfl)) rfl, lwm (tb1 _ (List.mem_of_getElem? (i := 36) rfl)) rfl, lwm (tb3 _ (List.mem_of_getElem? (i := 1) rfl)) rfl⟩, by decide +kernel⟩
theorem yf_J6_getChars_ba4f3 : YfS yJ6_getChars_ba4f3 cJ6_getChars_ba4f3 7 (some .int) 3 := ⟨⟨lwm (tb3 _ (List.mem_of_getElem? (i := 3) rfl)) rfl, lwm (tb1 _ (List.mem_of_getElem? (i := 36) rfl)) rfl, lwm (tb3 _ (List.mem_of_getElem? (i := 4) rfl)) rfl⟩, by decide +kernel⟩
theorem yf_J2_getChars_46870 : YfS yJ2_getChars_46870 cJ2_getChars_46870 5 (some .int) 4 := ⟨⟨lwm (tb3 _ (List.mem_of_getElem? (i := 10) rfl)) rfl, lwm (tb1 _ (List.mem_of_getElem? (i := 13) rfl)) rfl, lwm (tb3 _ (List.mem_of_getElem? (i := 11) rfl)) rfl⟩, by decide +kernel⟩
theorem yf_J2_getChars_ba4f3 : YfS yJ2_getChars_ba4f3 cJ2_getChars_ba4f3 7 (some .int) 3 := ⟨⟨lwm (tb3 _ (List.mem_of_getElem? (i := 13) rfl)) rfl, lwm (tb1 _ (List.mem_of_getElem? (i := 13) rfl)) rfl, lwm (tb3 _ (List.mem_of_getElem? (i := 14) rfl)) rfl⟩, by decide +kernel⟩
theorem yf_J4_toString_0e30d : YfV yJ4_toString_0e30d cJ4_toString_0e30d 1 (some (.object "java/lang/String")) 0 := ⟨⟨lwm (tb3 _ (List.mem_of_getElem? (i := 18) rfl)) rfl, lwm (tb3 _ (List.mem_of_getElem? (i := 19) rfl)) rfl, lwm (tb1 _ (List.mem_of_getElem? (i := 11) rfl)) rfl, lwm (tb3 _ (List.mem_of_getElem? (i := 20) rfl)) rfl⟩, by decide +kernel⟩
theorem yf_J0_init_81219 : YfI yJ0_init_81219 cJ0_init_81219 2 1 := ⟨⟨lwm (tb3 _ (List.mem_of_getElem? (i := 24) rfl)) rfl, lwm (tb1 _ (List.mem_of_getElem? (i := 12) rfl)) rfl, lwm (tb3 _ (List.mem_of_getElem? (i := 25) rfl)) rfl⟩, by decide +kernel⟩
theorem yf_J0_init_db425 : YfI yJ0_init_db425 cJ0_init_db425 5 2 := ⟨⟨lwm (tb3 _ (List.mem_of_getElem? (i := 27) rfl)) rfl, lwm (tb1 _ (List.mem_of_getElem? (i := 12) rfl)) rfl, lwm (tb3 _ (List.mem_of_getElem? (i := 28) rfl)) rfl⟩, by decide +kernel⟩
theorem yf_J4_length_8abf5 : YfV yJ4_length_8abf5 cJ4_length_8abf5 1 (some .int) 0 := ⟨⟨lwm (tb3 _ (List.mem_of_getElem? (i := 39) rfl)) rfl, lwm (tb9 _ (List.mem_of_getElem? (i := 102) rfl)) rfl, lwm (tb1 _ (List.mem_of_getElem? (i := 11) rfl)) rfl, lwm (tb3 _ (List.mem_of_getElem? (i := 40) rfl)) rfl⟩, by decide +kernel⟩
theorem yf_J7_copyOfRange_39247 : YfS yJ7_copyOfRange_39247 cJ7_copyOfRange_39247 3 (some (.array .byte)) 3 := ⟨⟨lwm (tb3 _ (List.mem_of_getElem? (i := 45) rfl)) rfl, lwm (tb1 _ (List.mem_of_getElem? (i := 32) rfl)) rfl, lwm (tb3 _ (List.mem_of_getElem? (i := 46) rfl)) rfl⟩, by decide +kernel⟩
theorem yf_J7_copyOfRangeByte_39247 : YfS yJ7_copyOfRangeByte_39247 cJ7_copyOfRangeByte_39247 5 (some (.array .byte)) 3 := ⟨⟨lwm (tb3 _ (List.mem_of_getElem? (i := 48) rfl)) rfl, lwm (tb1 _ (List.mem_of_getElem? (i := 32) rfl)) rfl, lwm (tb3 _ (List.mem_of_getElem? (i := 49) rfl)) rfl⟩, by decide +kernel⟩
theorem yf_J7_checkLength_df160 : YfS yJ7_checkLength_df160 cJ7_checkLength_df160 2 none 2 := ⟨⟨lwm (tb3 _ (List.mem_of_getElem? (i := 51) rfl)) rfl, lwm (tb1 _ (List.mem_of_getElem? (i := 32) rfl)) rfl, lwm (tb3 _ (List.mem_of_getElem? (i := 52) rfl)) rfl⟩, by decide +kernel⟩
theorem yf_J2_compress_39247 : YfS yJ2_compress_39247 cJ2_compress_39247 6 (some (.array .byte)) 3 := ⟨⟨lwm (tb3 _ (List.mem_of_getElem? (i := 131) rfl)) rfl, lwm (tb1 _ (List.mem_of_getElem? (i := 13) rfl)) rfl, lwm (tb3 _ (List.mem_of_getElem? (i := 132) rfl)) rfl⟩, by decide +kernel⟩
theorem yf_J2_compress_5af95 : YfS yJ2_compress_5af95 cJ2_compress_5af95 7 (some .int) 5 := ⟨⟨lwm (tb3 _ (List.mem_of_getElem? (i := 134) rfl)) rfl, lwm (tb1 _ (List.mem_of_getElem? (i := 13) rfl)) rfl, lwm (tb3 _ (List.mem_of_getElem? (i := 135) rfl)) rfl⟩, by decide +kernel⟩
theorem yf_J2_getChar_3b067 : YfS yJ2_getChar_3b067 cJ2_getChar_3b067 2 (some .char) 2 := ⟨⟨lwm (tb3 _ (List.mem_of_getElem? (i := 137) rfl)) rfl, lwm (tb1 _ (List.mem_of_getElem? (i := 13) rfl)) rfl, lwm (tb3 _ (List.mem_of_getElem? (i := 138) rfl)) rfl⟩, by decide +kernel⟩
theorem yf_J2_coderFromArrayLen_85cad : YfS yJ2_coderFromArrayLen_85cad cJ2_coderFromArrayLen_85cad 2 (some .byte) 2 := ⟨⟨lwm (tb3 _ (List.mem_of_getElem? (i := 141) rfl)) rfl, lwm (tb1 _ (List.mem_of_getElem? (i := 13) rfl)) rfl, lwm (tb3 _ (List.mem_of_getElem? (i := 142) rfl)) rfl⟩, by decide +kernel⟩
theorem yf_J1_fillNull_b72d1 : YfS yJ1_fillNull_b72d1 cJ1_fillNull_b72d1 3 none 3 := ⟨⟨lwm (tb3 _ (List.mem_of_getElem? (i := 166) rfl)) rfl, lwm (tb1 _ (List.mem_of_getElem? (i := 34) rfl)) rfl, lwm (tb3 _ (List.mem_of_getElem? (i := 167) rfl)) rfl⟩, by decide +kernel⟩
theorem yf_J7_fill_eb02e : YfS yJ7_fill_eb02e cJ7_fill_eb02e 5 none 4 := ⟨⟨lwm (tb3 _ (List.mem_of_getElem? (i := 169) rfl)) rfl, lwm (tb1 _ (List.mem_of_getElem? (i := 32) rfl)) rfl, lwm (tb3 _ (List.mem_of_getElem? (i := 170) rfl)) rfl⟩, by decide +kernel⟩
theorem yf_J7_rangeCheck_23922 : YfS yJ7_rangeCheck_23922 cJ7_rangeCheck_23922 3 none 3 := ⟨⟨lwm (tb3 _ (List.mem_of_getElem? (i := 172) rfl)) rfl, lwm (tb1 _ (List.mem_of_getElem? (i := 32) rfl)) rfl, lwm (tb3 _ (List.mem_of_getElem? (i := 173) rfl)) rfl⟩, by decide +kernel⟩
theorem yf_Jx00060_init_d00df : YfI yJx00060_init_d00df cJx00060_init_d00df 2 1 := ⟨⟨lwm (tb3 _ (List.mem_of_getElem? (i := 189) rfl)) rfl, lwm (tb1 _ (List.mem_of_getElem? (i := 27) rfl)) rfl, lwm (tb3 _ (List.mem_of_getElem? (i := 190) rfl)) rfl⟩, by decide +kernel⟩
theorem yf_J2_fillNull_b72d1 : YfS yJ2_fillNull_b72d1 cJ2_fillNull_b72d1 3 none 3 := ⟨⟨lwm (tb3 _ (List.mem_of_getElem? (i := 201) rfl)) rfl, lwm (tb1 _ (List.mem_of_getElem? (i := 13) rfl)) rfl, lwm (tb3 _ (List.mem_of_getElem? (i := 202) rfl)) rfl⟩, by decide +kernel⟩
theorem yf_X11_appendBest : YfV yX11_appendBest cX11_appendBest 4 none 1 := ⟨⟨lwm (tb3 _ (List.mem_of_getElem? (i := 206) rfl)) rfl, lwm (List.mem_append_left _ (List.mem_of_getElem? (i := 1) rfl)) rfl, lwm (tb1 _ (List.mem_of_getElem? (i := 1) rfl)) rfl, lwm (tb3 _ (List.mem_of_getElem? (i := 207) rfl)) rfl⟩, by decide +kernel⟩
theorem yf_X1_bestSlot : YfV yX1_bestSlot cX1_bestSlot 4 (some .int) 1 := ⟨⟨lwm (tb3 _ (List.mem_of_getElem? (i := 209) rfl)) rfl, lwm (tb3 _ (List.mem_of_getElem? (i := 210) rfl)) rfl, lwm (tb1 _ (List.mem_of_getElem? (i := 6) rfl)) rfl, lwm (tb3 _ (List.mem_of_getElem? (i := 211) rfl)) rfl⟩, by decide +kernel⟩
theorem yf_X1_buys : YfV yX1_buys cX1_buys 2 (some .boolean) 1 := ⟨⟨lwm (tb3 _ (List.mem_of_getElem? (i := 213) rfl)) rfl, lwm (tb3 _ (List.mem_of_getElem? (i := 214) rfl)) rfl, lwm (tb1 _ (List.mem_of_getElem? (i := 6) rfl)) rfl, lwm (tb3 _ (List.mem_of_getElem? (i := 215) rfl)) rfl⟩, by decide +kernel⟩
theorem yf_X7_get : YfV yX7_get cX7_get 2 (some .int) 1 := ⟨⟨lwm (tb3 _ (List.mem_of_getElem? (i := 217) rfl)) rfl, lwm (tb3 _ (List.mem_of_getElem? (i := 218) rfl)) rfl, lwm (tb1 _ (List.mem_of_getElem? (i := 4) rfl)) rfl, lwm (tb3 _ (List.mem_of_getElem? (i := 219) rfl)) rfl⟩, by decide +kernel⟩
theorem yf_X1_isAhead : YfV yX1_isAhead cX1_isAhead 5 (some .boolean) 3 := ⟨⟨lwm (tb3 _ (List.mem_of_getElem? (i := 222) rfl)) rfl, lwm (List.mem_append_left _ (List.mem_of_getElem? (i := 2) rfl)) rfl, lwm (tb1 _ (List.mem_of_getElem? (i := 6) rfl)) rfl, lwm (tb3 _ (List.mem_of_getElem? (i := 223) rfl)) rfl⟩, by decide +kernel⟩
theorem yf_J4_append_cf468 : YfV yJ4_append_cf468 cJ4_append_cf468 2 (some (.object "java/lang/StringBuilder")) 1 := ⟨⟨lwm (tb3 _ (List.mem_of_getElem? (i := 225) rfl)) rfl, lwm (tb3 _ (List.mem_of_getElem? (i := 226) rfl)) rfl, lwm (tb1 _ (List.mem_of_getElem? (i := 11) rfl)) rfl, lwm (tb3 _ (List.mem_of_getElem? (i := 227) rfl)) rfl⟩, by decide +kernel⟩
theorem yf_J1_canEncode_fc78d : YfS yJ1_canEncode_fc78d cJ1_canEncode_fc78d 1 (some .boolean) 1 := ⟨⟨lwm (tb3 _ (List.mem_of_getElem? (i := 232) rfl)) rfl, lwm (tb1 _ (List.mem_of_getElem? (i := 34) rfl)) rfl, lwm (tb3 _ (List.mem_of_getElem? (i := 233) rfl)) rfl⟩, by decide +kernel⟩
theorem yf_J2_putCharSB_b72d1 : YfS yJ2_putCharSB_b72d1 cJ2_putCharSB_b72d1 3 none 3 := ⟨⟨lwm (tb3 _ (List.mem_of_getElem? (i := 235) rfl)) rfl, lwm (tb1 _ (List.mem_of_getElem? (i := 13) rfl)) rfl, lwm (tb3 _ (List.mem_of_getElem? (i := 236) rfl)) rfl⟩, by decide +kernel⟩
theorem yf_J2_checkIndex_2214a : YfS yJ2_checkIndex_2214a cJ2_checkIndex_2214a 2 none 2 := ⟨⟨lwm (tb3 _ (List.mem_of_getElem? (i := 238) rfl)) rfl, lwm (tb1 _ (List.mem_of_getElem? (i := 13) rfl)) rfl, lwm (tb3 _ (List.mem_of_getElem? (i := 239) rfl)) rfl⟩, by decide +kernel⟩
theorem yf_J0_checkIndex_df160 : YfS yJ0_checkIndex_df160 cJ0_checkIndex_df160 2 none 2 := ⟨⟨lwm (tb4 _ (List.mem_of_getElem? (i := 1) rfl)) rfl, lwm (tb1 _ (List.mem_of_getElem? (i := 12) rfl)) rfl, lwm (tb4 _ (List.mem_of_getElem? (i := 2) rfl)) rfl⟩, by decide +kernel⟩
theorem yf_J3_checkIndex_8e157 : YfS yJ3_checkIndex_8e157 cJ3_checkIndex_8e157 3 (some .int) 3 := ⟨⟨lwm (tb4 _ (List.mem_of_getElem? (i := 4) rfl)) rfl, lwm (tb1 _ (List.mem_of_getElem? (i := 33) rfl)) rfl, lwm (tb4 _ (List.mem_of_getElem? (i := 5) rfl)) rfl⟩, by decide +kernel⟩
theorem yf_X1_quantityAt : YfV yX1_quantityAt cX1_quantityAt 5 (some .int) 2 := ⟨⟨lwm (tb4 _ (List.mem_of_getElem? (i := 8) rfl)) rfl, lwm (tb4 _ (List.mem_of_getElem? (i := 9) rfl)) rfl, lwm (tb1 _ (List.mem_of_getElem? (i := 6) rfl)) rfl, lwm (tb4 _ (List.mem_of_getElem? (i := 10) rfl)) rfl⟩, by decide +kernel⟩
theorem yf_X11_isConsistent : YfV yX11_isConsistent cX11_isConsistent 1 (some .boolean) 0 := ⟨⟨lwm (tb4 _ (List.mem_of_getElem? (i := 14) rfl)) rfl, lwm (tb4 _ (List.mem_of_getElem? (i := 15) rfl)) rfl, lwm (tb1 _ (List.mem_of_getElem? (i := 1) rfl)) rfl, lwm (tb4 _ (List.mem_of_getElem? (i := 16) rfl)) rfl⟩, by decide +kernel⟩
theorem yf_X6_gather : YfV yX6_gather cX6_gather 4 none 1 := ⟨⟨lwm (tb4 _ (List.mem_of_getElem? (i := 18) rfl)) rfl, lwm (tb4 _ (List.mem_of_getElem? (i := 19) rfl)) rfl, lwm (tb1 _ (List.mem_of_getElem? (i := 8) rfl)) rfl, lwm (tb4 _ (List.mem_of_getElem? (i := 20) rfl)) rfl⟩, by decide +kernel⟩
theorem yf_X7_clear : YfV yX7_clear cX7_clear 2 none 0 := ⟨⟨lwm (tb4 _ (List.mem_of_getElem? (i := 22) rfl)) rfl, lwm (tb4 _ (List.mem_of_getElem? (i := 23) rfl)) rfl, lwm (tb1 _ (List.mem_of_getElem? (i := 4) rfl)) rfl, lwm (tb4 _ (List.mem_of_getElem? (i := 24) rfl)) rfl⟩, by decide +kernel⟩
theorem yf_X7_add : YfV yX7_add cX7_add 3 none 2 := ⟨⟨lwm (tb4 _ (List.mem_of_getElem? (i := 28) rfl)) rfl, lwm (tb4 _ (List.mem_of_getElem? (i := 29) rfl)) rfl, lwm (tb1 _ (List.mem_of_getElem? (i := 4) rfl)) rfl, lwm (tb4 _ (List.mem_of_getElem? (i := 30) rfl)) rfl⟩, by decide +kernel⟩
theorem yf_X1_spreadOfBest : YfV yX1_spreadOfBest cX1_spreadOfBest 3 (some .int) 0 := ⟨⟨lwm (tb4 _ (List.mem_of_getElem? (i := 32) rfl)) rfl, lwm (tb4 _ (List.mem_of_getElem? (i := 33) rfl)) rfl, lwm (tb1 _ (List.mem_of_getElem? (i := 6) rfl)) rfl, lwm (tb4 _ (List.mem_of_getElem? (i := 34) rfl)) rfl⟩, by decide +kernel⟩
theorem yf_X6_spreadOfSums : YfV yX6_spreadOfSums cX6_spreadOfSums 4 (some .int) 0 := ⟨⟨lwm (tb4 _ (List.mem_of_getElem? (i := 37) rfl)) rfl, lwm (tb4 _ (List.mem_of_getElem? (i := 38) rfl)) rfl, lwm (tb1 _ (List.mem_of_getElem? (i := 8) rfl)) rfl, lwm (tb4 _ (List.mem_of_getElem? (i := 39) rfl)) rfl⟩, by decide +kernel⟩
theorem yf_X1_poolByTrying : YfV yX1_poolByTrying cX1_poolByTrying 3 (some (.object "DropMarket$PoolChoice")) 0 := ⟨⟨lwm (tb4 _ (List.mem_of_getElem? (i := 41) rfl)) rfl, lwm (tb4 _ (List.mem_of_getElem? (i := 42) rfl)) rfl, lwm (tb1 _ (List.mem_of_getElem? (i := 6) rfl)) rfl, lwm (tb4 _ (List.mem_of_getElem? (i := 43) rfl)) rfl⟩, by decide +kernel⟩
theorem yf_X5_init : YfI yX5_init cX5_init 1 0 := ⟨⟨lwm (tb4 _ (List.mem_of_getElem? (i := 47) rfl)) rfl, lwm (tb1 _ (List.mem_of_getElem? (i := 28) rfl)) rfl, lwm (tb4 _ (List.mem_of_getElem? (i := 48) rfl)) rfl⟩, by decide +kernel⟩
theorem yf_X1_demand : YfV yX1_demand cX1_demand 4 (some .int) 1 := ⟨⟨lwm (tb4 _ (List.mem_of_getElem? (i := 64) rfl)) rfl, lwm (tb4 _ (List.mem_of_getElem? (i := 65) rfl)) rfl, lwm (tb1 _ (List.mem_of_getElem? (i := 6) rfl)) rfl, lwm (tb4 _ (List.mem_of_getElem? (i := 66) rfl)) rfl⟩, by decide +kernel⟩
theorem yf_X1_supply : YfV yX1_supply cX1_supply 4 (some .int) 1 := ⟨⟨lwm (tb4 _ (List.mem_of_getElem? (i := 68) rfl)) rfl, lwm (tb4 _ (List.mem_of_getElem? (i := 69) rfl)) rfl, lwm (tb1 _ (List.mem_of_getElem? (i := 6) rfl)) rfl, lwm (tb4 _ (List.mem_of_getElem? (i := 70) rfl)) rfl⟩, by decide +kernel⟩
theorem yf_X5_consider : YfV yX5_consider cX5_consider 6 none 3 := ⟨⟨lwm (tb4 _ (List.mem_of_getElem? (i := 72) rfl)) rfl, lwm (tb4 _ (List.mem_of_getElem? (i := 73) rfl)) rfl, lwm (tb1 _ (List.mem_of_getElem? (i := 28) rfl)) rfl, lwm (tb4 _ (List.mem_of_getElem? (i := 74) rfl)) rfl⟩, by decide +kernel⟩
theorem yf_J9_abs_0f7a4 : YfS yJ9_abs_0f7a4 cJ9_abs_0f7a4 1 (some .int) 1 := ⟨⟨lwm (tb4 _ (List.mem_of_getElem? (i := 77) rfl)) rfl, lwm (tb1 _ (List.mem_of_getElem? (i := 5) rfl)) rfl, lwm (tb4 _ (List.mem_of_getElem? (i := 78) rfl)) rfl⟩, by decide +kernel⟩
theorem yf_X6_poolBySums : YfV yX6_poolBySums cX6_poolBySums 5 (some (.object "DropMarket$PoolChoice")) 0 := ⟨⟨lwm (tb4 _ (List.mem_of_getElem? (i := 80) rfl)) rfl, lwm (tb4 _ (List.mem_of_getElem? (i := 81) rfl)) rfl, lwm (tb1 _ (List.mem_of_getElem? (i := 8) rfl)) rfl, lwm (tb4 _ (List.mem_of_getElem? (i := 82) rfl)) rfl⟩, by decide +kernel⟩
theorem yf_X9_isCovered : YfV yX9_isCovered cX9_isCovered 2 (some .boolean) 0 := ⟨⟨lwm (tb4 _ (List.mem_of_getElem? (i := 88) rfl)) rfl, lwm (tb4 _ (List.mem_of_getElem? (i := 89) rfl)) rfl, lwm (tb1 _ (List.mem_of_getElem? (i := 2) rfl)) rfl, lwm (tb4 _ (List.mem_of_getElem? (i := 90) rfl)) rfl⟩, by decide +kernel⟩
theorem yf_X9_freeMoney : YfV yX9_freeMoney cX9_freeMoney 2 (some .int) 1 := ⟨⟨lwm (tb4 _ (List.mem_of_getElem? (i := 92) rfl)) rfl, lwm (tb4 _ (List.mem_of_getElem? (i := 93) rfl)) rfl, lwm (tb1 _ (List.mem_of_getElem? (i := 2) rfl)) rfl, lwm (tb4 _ (List.mem_of_getElem? (i := 94) rfl)) rfl⟩, by decide +kernel⟩
theorem yf_X1_boundMoney : YfV yX1_boundMoney cX1_boundMoney 4 (some .int) 1 := ⟨⟨lwm (tb4 _ (List.mem_of_getElem? (i := 97) rfl)) rfl, lwm (tb4 _ (List.mem_of_getElem? (i := 98) rfl)) rfl, lwm (tb1 _ (List.mem_of_getElem? (i := 6) rfl)) rfl, lwm (tb4 _ (List.mem_of_getElem? (i := 99) rfl)) rfl⟩, by decide +kernel⟩
theorem yf_X9_freeDrops : YfV yX9_freeDrops cX9_freeDrops 2 (some .int) 1 := ⟨⟨lwm (tb4 _ (List.mem_of_getElem? (i := 101) rfl)) rfl, lwm (tb4 _ (List.mem_of_getElem? (i := 102) rfl)) rfl, lwm (tb1 _ (List.mem_of_getElem? (i := 2) rfl)) rfl, lwm (tb4 _ (List.mem_of_getElem? (i := 103) rfl)) rfl⟩, by decide +kernel⟩
theorem yf_X1_boundDrops : YfV yX1_boundDrops cX1_boundDrops 4 (some .int) 1 := ⟨⟨lwm (tb4 _ (List.mem_of_getElem? (i := 105) rfl)) rfl, lwm (tb4 _ (List.mem_of_getElem? (i := 106) rfl)) rfl, lwm (tb1 _ (List.mem_of_getElem? (i := 6) rfl)) rfl, lwm (tb4 _ (List.mem_of_getElem? (i := 107) rfl)) rfl⟩, by decide +kernel⟩
theorem yf_X11_save : YfV yX11_save cX11_save 1 (some .int) 0 := ⟨⟨lwm (tb4 _ (List.mem_of_getElem? (i := 109) rfl)) rfl, lwm (tb4 _ (List.mem_of_getElem? (i := 110) rfl)) rfl, lwm (tb1 _ (List.mem_of_getElem? (i := 1) rfl)) rfl, lwm (tb4 _ (List.mem_of_getElem? (i := 111) rfl)) rfl⟩, by decide +kernel⟩
theorem yf_X9_copyFrom : YfV yX9_copyFrom cX9_copyFrom 2 none 1 := ⟨⟨lwm (tb4 _ (List.mem_of_getElem? (i := 113) rfl)) rfl, lwm (tb4 _ (List.mem_of_getElem? (i := 114) rfl)) rfl, lwm (tb1 _ (List.mem_of_getElem? (i := 2) rfl)) rfl, lwm (tb4 _ (List.mem_of_getElem? (i := 115) rfl)) rfl⟩, by decide +kernel⟩
theorem yf_X8_copyFrom : YfV yX8_copyFrom cX8_copyFrom 2 none 1 := ⟨⟨lwm (tb4 _ (List.mem_of_getElem? (i := 117) rfl)) rfl, lwm (tb4 _ (List.mem_of_getElem? (i := 118) rfl)) rfl, lwm (tb1 _ (List.mem_of_getElem? (i := 3) rfl)) rfl, lwm (tb4 _ (List.mem_of_getElem? (i := 119) rfl)) rfl⟩, by decide +kernel⟩
theorem yf_X7_copyFrom : YfV yX7_copyFrom cX7_copyFrom 3 none 1 := ⟨⟨lwm (tb4 _ (List.mem_of_getElem? (i := 121) rfl)) rfl, lwm (tb4 _ (List.mem_of_getElem? (i := 122) rfl)) rfl, lwm (tb1 _ (List.mem_of_getElem? (i := 4) rfl)) rfl, lwm (tb4 _ (List.mem_of_getElem? (i := 123) rfl)) rfl⟩, by decide +kernel⟩
theorem yf_X1_copyFrom : YfV yX1_copyFrom cX1_copyFrom 2 none 1 := ⟨⟨lwm (tb4 _ (List.mem_of_getElem? (i := 125) rfl)) rfl, lwm (tb4 _ (List.mem_of_getElem? (i := 126) rfl)) rfl, lwm (tb1 _ (List.mem_of_getElem? (i := 6) rfl)) rfl, lwm (tb4 _ (List.mem_of_getElem? (i := 127) rfl)) rfl⟩, by decide +kernel⟩
theorem yf_X11_addStall : YfV yX11_addStall cX11_addStall 3 (some .int) 2 := ⟨⟨lwm (tb4 _ (List.mem_of_getElem? (i := 135) rfl)) rfl, lwm (tb4 _ (List.mem_of_getElem? (i := 136) rfl)) rfl, lwm (tb1 _ (List.mem_of_getElem? (i := 1) rfl)) rfl, lwm (tb4 _ (List.mem_of_getElem? (i := 137) rfl)) rfl⟩, by decide +kernel⟩
theorem yf_X9_stallFault : YfV yX9_stallFault cX9_stallFault 3 (some (.object "DropMarket$Fault")) 2 := ⟨⟨lwm (tb4 _ (List.mem_of_getElem? (i := 139) rfl)) rfl, lwm (tb4 _ (List.mem_of_getElem? (i := 140) rfl)) rfl, lwm (tb1 _ (List.mem_of_getElem? (i := 2) rfl)) rfl, lwm (tb4 _ (List.mem_of_getElem? (i := 141) rfl)) rfl⟩, by decide +kernel⟩
theorem yf_X11_isWithin : YfS yX11_isWithin cX11_isWithin 3 (some .boolean) 3 := ⟨⟨lwm (tb4 _ (List.mem_of_getElem? (i := 143) rfl)) rfl, lwm (tb1 _ (List.mem_of_getElem? (i := 1) rfl)) rfl, lwm (tb4 _ (List.mem_of_getElem? (i := 144) rfl)) rfl⟩, by decide +kernel⟩
theorem yf_X8_isFull : YfV yX8_isFull cX8_isFull 1 (some .boolean) 0 := ⟨⟨lwm (tb4 _ (List.mem_of_getElem? (i := 148) rfl)) rfl, lwm (tb4 _ (List.mem_of_getElem? (i := 149) rfl)) rfl, lwm (tb1 _ (List.mem_of_getElem? (i := 3) rfl)) rfl, lwm (tb4 _ (List.mem_of_getElem? (i := 150) rfl)) rfl⟩, by decide +kernel⟩
theorem yf_X11_refuse : YfS yX11_refuse cX11_refuse 1 none 1 := ⟨⟨lwm (tb4 _ (List.mem_of_getElem? (i := 156) rfl)) rfl, lwm (tb1 _ (List.mem_of_getElem? (i := 1) rfl)) rfl, lwm (tb4 _ (List.mem_of_getElem? (i := 157) rfl)) rfl⟩, by decide +kernel⟩
theorem yf_X4_push : YfV yX4_push cX4_push 3 none 1 := ⟨⟨lwm (tb4 _ (List.mem_of_getElem? (i := 231) rfl)) rfl, lwm (tb4 _ (List.mem_of_getElem? (i := 232) rfl)) rfl, lwm (tb1 _ (List.mem_of_getElem? (i := 7) rfl)) rfl, lwm (tb4 _ (List.mem_of_getElem? (i := 233) rfl)) rfl⟩, by decide +kernel⟩
theorem yf_X4_newestRow : YfV yX4_newestRow cX4_newestRow 1 (some (.object "DropMarket$State")) 0 := ⟨⟨lwm (tb4 _ (List.mem_of_getElem? (i := 237) rfl)) rfl, lwm (List.mem_append_left _ (List.mem_of_getElem? (i := 3) rfl)) rfl, lwm (tb1 _ (List.mem_of_getElem? (i := 7) rfl)) rfl, lwm (tb4 _ (List.mem_of_getElem? (i := 238) rfl)) rfl⟩, by decide +kernel⟩
theorem yf_X8_open : YfV yX8_open cX8_open 4 (some .int) 2 := ⟨⟨lwm (tb5 _ (List.mem_of_getElem? (i := 1) rfl)) rfl, lwm (tb5 _ (List.mem_of_getElem? (i := 2) rfl)) rfl, lwm (tb1 _ (List.mem_of_getElem? (i := 3) rfl)) rfl, lwm (tb5 _ (List.mem_of_getElem? (i := 3) rfl)) rfl⟩, by decide +kernel⟩
theorem yf_X7_set : YfV yX7_set cX7_set 3 none 2 := ⟨⟨lwm (tb5 _ (List.mem_of_getElem? (i := 5) rfl)) rfl, lwm (tb5 _ (List.mem_of_getElem? (i := 6) rfl)) rfl, lwm (tb1 _ (List.mem_of_getElem? (i := 4) rfl)) rfl, lwm (tb5 _ (List.mem_of_getElem? (i := 7) rfl)) rfl⟩, by decide +kernel⟩
theorem yf_Jx00060_init_a7421 : YfI yJx00060_init_a7421 cJx00060_init_a7421 2 1 := ⟨⟨lwm (tb5 _ (List.mem_of_getElem? (i := 12) rfl)) rfl, lwm (tb1 _ (List.mem_of_getElem? (i := 27) rfl)) rfl, lwm (tb5 _ (List.mem_of_getElem? (i := 13) rfl)) rfl⟩, by decide +kernel⟩
theorem yf_X11_placeBuy : YfV yX11_placeBuy cX11_placeBuy 4 (some .int) 3 := ⟨⟨lwm (tb5 _ (List.mem_of_getElem? (i := 16) rfl)) rfl, lwm (tb5 _ (List.mem_of_getElem? (i := 17) rfl)) rfl, lwm (tb1 _ (List.mem_of_getElem? (i := 1) rfl)) rfl, lwm (tb5 _ (List.mem_of_getElem? (i := 18) rfl)) rfl⟩, by decide +kernel⟩
theorem yf_X11_placeOrder : YfV yX11_placeOrder cX11_placeOrder 7 (some .int) 6 := ⟨⟨lwm (tb5 _ (List.mem_of_getElem? (i := 21) rfl)) rfl, lwm (List.mem_append_left _ (List.mem_of_getElem? (i := 4) rfl)) rfl, lwm (tb1 _ (List.mem_of_getElem? (i := 1) rfl)) rfl, lwm (tb5 _ (List.mem_of_getElem? (i := 22) rfl)) rfl⟩, by decide +kernel⟩
theorem yf_X1_isFull : YfV yX1_isFull cX1_isFull 1 (some .boolean) 0 := ⟨⟨lwm (tb5 _ (List.mem_of_getElem? (i := 24) rfl)) rfl, lwm (tb5 _ (List.mem_of_getElem? (i := 25) rfl)) rfl, lwm (tb1 _ (List.mem_of_getElem? (i := 6) rfl)) rfl, lwm (tb5 _ (List.mem_of_getElem? (i := 26) rfl)) rfl⟩, by decide +kernel⟩
theorem yf_X9_orderFault : YfV yX9_orderFault cX9_orderFault 8 (some (.object "DropMarket$Fault")) 6 := ⟨⟨lwm (tb5 _ (List.mem_of_getElem? (i := 28) rfl)) rfl, lwm (tb5 _ (List.mem_of_getElem? (i := 29) rfl)) rfl, lwm (tb1 _ (List.mem_of_getElem? (i := 2) rfl)) rfl, lwm (tb5 _ (List.mem_of_getElem? (i := 30) rfl)) rfl⟩, by decide +kernel⟩
theorem yf_X8_has : YfV yX8_has cX8_has 2 (some .boolean) 1 := ⟨⟨lwm (tb5 _ (List.mem_of_getElem? (i := 32) rfl)) rfl, lwm (tb5 _ (List.mem_of_getElem? (i := 33) rfl)) rfl, lwm (tb1 _ (List.mem_of_getElem? (i := 3) rfl)) rfl, lwm (tb5 _ (List.mem_of_getElem? (i := 34) rfl)) rfl⟩, by decide +kernel⟩
theorem yf_X9_place : YfV yX9_place cX9_place 8 (some .int) 5 := ⟨⟨lwm (tb5 _ (List.mem_of_getElem? (i := 38) rfl)) rfl, lwm (tb5 _ (List.mem_of_getElem? (i := 39) rfl)) rfl, lwm (tb1 _ (List.mem_of_getElem? (i := 2) rfl)) rfl, lwm (tb5 _ (List.mem_of_getElem? (i := 40) rfl)) rfl⟩, by decide +kernel⟩
theorem yf_X9_tradeNew : YfV yX9_tradeNew cX9_tradeNew 11 (some .int) 4 := ⟨⟨lwm (tb5 _ (List.mem_of_getElem? (i := 43) rfl)) rfl, lwm (List.mem_append_left _ (List.mem_of_getElem? (i := 5) rfl)) rfl, lwm (tb1 _ (List.mem_of_getElem? (i := 2) rfl)) rfl, lwm (tb5 _ (List.mem_of_getElem? (i := 44) rfl)) rfl⟩, by decide +kernel⟩
theorem yf_X9_trade : YfV yX9_trade cX9_trade 6 none 4 := ⟨⟨lwm (tb5 _ (List.mem_of_getElem? (i := 49) rfl)) rfl, lwm (List.mem_append_left _ (List.mem_of_getElem? (i := 6) rfl)) rfl, lwm (tb1 _ (List.mem_of_getElem? (i := 2) rfl)) rfl, lwm (tb5 _ (List.mem_of_getElem? (i := 50) rfl)) rfl⟩, by decide +kernel⟩
theorem yf_X1_reduce : YfV yX1_reduce cX1_reduce 3 none 2 := ⟨⟨lwm (tb5 _ (List.mem_of_getElem? (i := 53) rfl)) rfl, lwm (tb5 _ (List.mem_of_getElem? (i := 54) rfl)) rfl, lwm (tb1 _ (List.mem_of_getElem? (i := 6) rfl)) rfl, lwm (tb5 _ (List.mem_of_getElem? (i := 55) rfl)) rfl⟩, by decide +kernel⟩
theorem yf_X1_remove : YfV yX1_remove cX1_remove 2 none 1 := ⟨⟨lwm (tb5 _ (List.mem_of_getElem? (i := 58) rfl)) rfl, lwm (tb5 _ (List.mem_of_getElem? (i := 59) rfl)) rfl, lwm (tb1 _ (List.mem_of_getElem? (i := 6) rfl)) rfl, lwm (tb5 _ (List.mem_of_getElem? (i := 60) rfl)) rfl⟩, by decide +kernel⟩
theorem yf_X7_closeGap : YfV yX7_closeGap cX7_closeGap 3 none 1 := ⟨⟨lwm (tb5 _ (List.mem_of_getElem? (i := 62) rfl)) rfl, lwm (tb5 _ (List.mem_of_getElem? (i := 63) rfl)) rfl, lwm (tb1 _ (List.mem_of_getElem? (i := 4) rfl)) rfl, lwm (tb5 _ (List.mem_of_getElem? (i := 64) rfl)) rfl⟩, by decide +kernel⟩
theorem yf_X1_enter : YfV yX1_enter cX1_enter 7 none 6 := ⟨⟨lwm (tb5 _ (List.mem_of_getElem? (i := 66) rfl)) rfl, lwm (tb5 _ (List.mem_of_getElem? (i := 67) rfl)) rfl, lwm (tb1 _ (List.mem_of_getElem? (i := 6) rfl)) rfl, lwm (tb5 _ (List.mem_of_getElem? (i := 68) rfl)) rfl⟩, by decide +kernel⟩
theorem yf_X11_placeSell : YfV yX11_placeSell cX11_placeSell 4 (some .int) 3 := ⟨⟨lwm (tb5 _ (List.mem_of_getElem? (i := 74) rfl)) rfl, lwm (tb5 _ (List.mem_of_getElem? (i := 75) rfl)) rfl, lwm (tb1 _ (List.mem_of_getElem? (i := 1) rfl)) rfl, lwm (tb5 _ (List.mem_of_getElem? (i := 76) rfl)) rfl⟩, by decide +kernel⟩
theorem yf_X11_placeBuyFor : YfV yX11_placeBuyFor cX11_placeBuyFor 5 (some .int) 4 := ⟨⟨lwm (tb5 _ (List.mem_of_getElem? (i := 81) rfl)) rfl, lwm (tb5 _ (List.mem_of_getElem? (i := 82) rfl)) rfl, lwm (tb1 _ (List.mem_of_getElem? (i := 1) rfl)) rfl, lwm (tb5 _ (List.mem_of_getElem? (i := 83) rfl)) rfl⟩, by decide +kernel⟩
theorem yf_X11_placeSellFor : YfV yX11_placeSellFor cX11_placeSellFor 5 (some .int) 4 := ⟨⟨lwm (tb5 _ (List.mem_of_getElem? (i := 89) rfl)) rfl, lwm (tb5 _ (List.mem_of_getElem? (i := 90) rfl)) rfl, lwm (tb1 _ (List.mem_of_getElem? (i := 1) rfl)) rfl, lwm (tb5 _ (List.mem_of_getElem? (i := 91) rfl)) rfl⟩, by decide +kernel⟩
theorem yf_X11_takeBuy : YfV yX11_takeBuy cX11_takeBuy 4 (some .int) 3 := ⟨⟨lwm (tb5 _ (List.mem_of_getElem? (i := 96) rfl)) rfl, lwm (tb5 _ (List.mem_of_getElem? (i := 97) rfl)) rfl, lwm (tb1 _ (List.mem_of_getElem? (i := 1) rfl)) rfl, lwm (tb5 _ (List.mem_of_getElem? (i := 98) rfl)) rfl⟩, by decide +kernel⟩
theorem yf_X11_takeAtOnce : YfV yX11_takeAtOnce cX11_takeAtOnce 5 (some .int) 4 := ⟨⟨lwm (tb5 _ (List.mem_of_getElem? (i := 101) rfl)) rfl, lwm (List.mem_append_left _ (List.mem_of_getElem? (i := 7) rfl)) rfl, lwm (tb1 _ (List.mem_of_getElem? (i := 1) rfl)) rfl, lwm (tb5 _ (List.mem_of_getElem? (i := 102) rfl)) rfl⟩, by decide +kernel⟩
theorem yf_X9_take : YfV yX9_take cX9_take 5 (some .int) 4 := ⟨⟨lwm (tb5 _ (List.mem_of_getElem? (i := 104) rfl)) rfl, lwm (tb5 _ (List.mem_of_getElem? (i := 105) rfl)) rfl, lwm (tb1 _ (List.mem_of_getElem? (i := 2) rfl)) rfl, lwm (tb5 _ (List.mem_of_getElem? (i := 106) rfl)) rfl⟩, by decide +kernel⟩
theorem yf_X11_takeSell : YfV yX11_takeSell cX11_takeSell 4 (some .int) 3 := ⟨⟨lwm (tb5 _ (List.mem_of_getElem? (i := 111) rfl)) rfl, lwm (tb5 _ (List.mem_of_getElem? (i := 112) rfl)) rfl, lwm (tb1 _ (List.mem_of_getElem? (i := 1) rfl)) rfl, lwm (tb5 _ (List.mem_of_getElem? (i := 113) rfl)) rfl⟩, by decide +kernel⟩
theorem yf_X11_cancel : YfV yX11_cancel cX11_cancel 2 (some .int) 1 := ⟨⟨lwm (tb5 _ (List.mem_of_getElem? (i := 119) rfl)) rfl, lwm (tb5 _ (List.mem_of_getElem? (i := 120) rfl)) rfl, lwm (tb1 _ (List.mem_of_getElem? (i := 1) rfl)) rfl, lwm (tb5 _ (List.mem_of_getElem? (i := 121) rfl)) rfl⟩, by decide +kernel⟩
theorem yf_X9_cancelFault : YfV yX9_cancelFault cX9_cancelFault 2 (some (.object "DropMarket$Fault")) 1 := ⟨⟨lwm (tb5 _ (List.mem_of_getElem? (i := 123) rfl)) rfl, lwm (tb5 _ (List.mem_of_getElem? (i := 124) rfl)) rfl, lwm (tb1 _ (List.mem_of_getElem? (i := 2) rfl)) rfl, lwm (tb5 _ (List.mem_of_getElem? (i := 125) rfl)) rfl⟩, by decide +kernel⟩
theorem yf_X1_slotOf : YfV yX1_slotOf cX1_slotOf 3 (some .int) 1 := ⟨⟨lwm (tb5 _ (List.mem_of_getElem? (i := 127) rfl)) rfl, lwm (tb5 _ (List.mem_of_getElem? (i := 128) rfl)) rfl, lwm (tb1 _ (List.mem_of_getElem? (i := 6) rfl)) rfl, lwm (tb5 _ (List.mem_of_getElem? (i := 129) rfl)) rfl⟩, by decide +kernel⟩
theorem yf_X9_withdraw : YfV yX9_withdraw cX9_withdraw 4 (some .int) 1 := ⟨⟨lwm (tb5 _ (List.mem_of_getElem? (i := 132) rfl)) rfl, lwm (tb5 _ (List.mem_of_getElem? (i := 133) rfl)) rfl, lwm (tb1 _ (List.mem_of_getElem? (i := 2) rfl)) rfl, lwm (tb5 _ (List.mem_of_getElem? (i := 134) rfl)) rfl⟩, by decide +kernel⟩
theorem yf_X11_pass : YfV yX11_pass cX11_pass 2 (some .int) 1 := ⟨⟨lwm (tb5 _ (List.mem_of_getElem? (i := 140) rfl)) rfl, lwm (tb5 _ (List.mem_of_getElem? (i := 141) rfl)) rfl, lwm (tb1 _ (List.mem_of_getElem? (i := 1) rfl)) rfl, lwm (tb5 _ (List.mem_of_getElem? (i := 142) rfl)) rfl⟩, by decide +kernel⟩
theorem yf_X9_passFault : YfV yX9_passFault cX9_passFault 2 (some (.object "DropMarket$Fault")) 1 := ⟨⟨lwm (tb5 _ (List.mem_of_getElem? (i := 144) rfl)) rfl, lwm (tb5 _ (List.mem_of_getElem? (i := 145) rfl)) rfl, lwm (tb1 _ (List.mem_of_getElem? (i := 2) rfl)) rfl, lwm (tb5 _ (List.mem_of_getElem? (i := 146) rfl)) rfl⟩, by decide +kernel⟩
theorem yf_X9_letPass : YfV yX9_letPass cX9_letPass 5 (some .int) 1 := ⟨⟨lwm (tb5 _ (List.mem_of_getElem? (i := 148) rfl)) rfl, lwm (tb5 _ (List.mem_of_getElem? (i := 149) rfl)) rfl, lwm (tb1 _ (List.mem_of_getElem? (i := 2) rfl)) rfl, lwm (tb5 _ (List.mem_of_getElem? (i := 150) rfl)) rfl⟩, by decide +kernel⟩
theorem yf_X11_openPool : YfV yX11_openPool cX11_openPool 1 (some .int) 0 := ⟨⟨lwm (tb5 _ (List.mem_of_getElem? (i := 156) rfl)) rfl, lwm (tb5 _ (List.mem_of_getElem? (i := 157) rfl)) rfl, lwm (tb1 _ (List.mem_of_getElem? (i := 1) rfl)) rfl, lwm (tb5 _ (List.mem_of_getElem? (i := 158) rfl)) rfl⟩, by decide +kernel⟩
theorem yf_X9_openFault : YfV yX9_openFault cX9_openFault 1 (some (.object "DropMarket$Fault")) 0 := ⟨⟨lwm (tb5 _ (List.mem_of_getElem? (i := 160) rfl)) rfl, lwm (tb5 _ (List.mem_of_getElem? (i := 161) rfl)) rfl, lwm (tb1 _ (List.mem_of_getElem? (i := 2) rfl)) rfl, lwm (tb5 _ (List.mem_of_getElem? (i := 162) rfl)) rfl⟩, by decide +kernel⟩
theorem yf_X9_startPool : YfV yX9_startPool cX9_startPool 1 (some .int) 0 := ⟨⟨lwm (tb5 _ (List.mem_of_getElem? (i := 164) rfl)) rfl, lwm (tb5 _ (List.mem_of_getElem? (i := 165) rfl)) rfl, lwm (tb1 _ (List.mem_of_getElem? (i := 2) rfl)) rfl, lwm (tb5 _ (List.mem_of_getElem? (i := 166) rfl)) rfl⟩, by decide +kernel⟩
theorem yf_X11_closePool : YfV yX11_closePool cX11_closePool 1 (some .int) 0 := ⟨⟨lwm (tb5 _ (List.mem_of_getElem? (i := 171) rfl)) rfl, lwm (tb5 _ (List.mem_of_getElem? (i := 172) rfl)) rfl, lwm (tb1 _ (List.mem_of_getElem? (i := 1) rfl)) rfl, lwm (tb5 _ (List.mem_of_getElem? (i := 173) rfl)) rfl⟩, by decide +kernel⟩
theorem yf_X9_closeFault : YfV yX9_closeFault cX9_closeFault 1 (some (.object "DropMarket$Fault")) 0 := ⟨⟨lwm (tb5 _ (List.mem_of_getElem? (i := 175) rfl)) rfl, lwm (tb5 _ (List.mem_of_getElem? (i := 176) rfl)) rfl, lwm (tb1 _ (List.mem_of_getElem? (i := 2) rfl)) rfl, lwm (tb5 _ (List.mem_of_getElem? (i := 177) rfl)) rfl⟩, by decide +kernel⟩
theorem yf_X9_endPool : YfV yX9_endPool cX9_endPool 2 (some .int) 0 := ⟨⟨lwm (tb5 _ (List.mem_of_getElem? (i := 179) rfl)) rfl, lwm (tb5 _ (List.mem_of_getElem? (i := 180) rfl)) rfl, lwm (tb1 _ (List.mem_of_getElem? (i := 2) rfl)) rfl, lwm (tb5 _ (List.mem_of_getElem? (i := 181) rfl)) rfl⟩, by decide +kernel⟩
theorem yf_X9_tradePool : YfV yX9_tradePool cX9_tradePool 9 none 2 := ⟨⟨lwm (tb5 _ (List.mem_of_getElem? (i := 185) rfl)) rfl, lwm (List.mem_append_left _ (List.mem_of_getElem? (i := 8) rfl)) rfl, lwm (tb1 _ (List.mem_of_getElem? (i := 2) rfl)) rfl, lwm (tb5 _ (List.mem_of_getElem? (i := 186) rfl)) rfl⟩, by decide +kernel⟩
theorem yf_X1_clear : YfV yX1_clear cX1_clear 1 none 0 := ⟨⟨lwm (tb5 _ (List.mem_of_getElem? (i := 189) rfl)) rfl, lwm (tb5 _ (List.mem_of_getElem? (i := 190) rfl)) rfl, lwm (tb1 _ (List.mem_of_getElem? (i := 6) rfl)) rfl, lwm (tb5 _ (List.mem_of_getElem? (i := 191) rfl)) rfl⟩, by decide +kernel⟩
theorem yf_X11_moneyOf : YfV yX11_moneyOf cX11_moneyOf 2 (some .int) 1 := ⟨⟨lwm (tb5 _ (List.mem_of_getElem? (i := 196) rfl)) rfl, lwm (tb5 _ (List.mem_of_getElem? (i := 197) rfl)) rfl, lwm (tb1 _ (List.mem_of_getElem? (i := 1) rfl)) rfl, lwm (tb5 _ (List.mem_of_getElem? (i := 198) rfl)) rfl⟩, by decide +kernel⟩
theorem yf_X11_requireStall : YfV yX11_requireStall cX11_requireStall 2 none 1 := ⟨⟨lwm (tb5 _ (List.mem_of_getElem? (i := 201) rfl)) rfl, lwm (List.mem_append_left _ (List.mem_of_getElem? (i := 9) rfl)) rfl, lwm (tb1 _ (List.mem_of_getElem? (i := 1) rfl)) rfl, lwm (tb5 _ (List.mem_of_getElem? (i := 202) rfl)) rfl⟩, by decide +kernel⟩
theorem yf_X11_dropsOf : YfV yX11_dropsOf cX11_dropsOf 2 (some .int) 1 := ⟨⟨lwm (tb5 _ (List.mem_of_getElem? (i := 208) rfl)) rfl, lwm (tb5 _ (List.mem_of_getElem? (i := 209) rfl)) rfl, lwm (tb1 _ (List.mem_of_getElem? (i := 1) rfl)) rfl, lwm (tb5 _ (List.mem_of_getElem? (i := 210) rfl)) rfl⟩, by decide +kernel⟩
theorem yf_X11_freeMoneyOf : YfV yX11_freeMoneyOf cX11_freeMoneyOf 2 (some .int) 1 := ⟨⟨lwm (tb5 _ (List.mem_of_getElem? (i := 215) rfl)) rfl, lwm (tb5 _ (List.mem_of_getElem? (i := 216) rfl)) rfl, lwm (tb1 _ (List.mem_of_getElem? (i := 1) rfl)) rfl, lwm (tb5 _ (List.mem_of_getElem? (i := 217) rfl)) rfl⟩, by decide +kernel⟩
theorem yf_X11_freeDropsOf : YfV yX11_freeDropsOf cX11_freeDropsOf 2 (some .int) 1 := ⟨⟨lwm (tb5 _ (List.mem_of_getElem? (i := 223) rfl)) rfl, lwm (tb5 _ (List.mem_of_getElem? (i := 224) rfl)) rfl, lwm (tb1 _ (List.mem_of_getElem? (i := 1) rfl)) rfl, lwm (tb5 _ (List.mem_of_getElem? (i := 225) rfl)) rfl⟩, by decide +kernel⟩
theorem yf_X11_stallByMoney : YfV yX11_stallByMoney cX11_stallByMoney 3 (some .int) 1 := ⟨⟨lwm (tb5 _ (List.mem_of_getElem? (i := 231) rfl)) rfl, lwm (tb5 _ (List.mem_of_getElem? (i := 232) rfl)) rfl, lwm (tb1 _ (List.mem_of_getElem? (i := 1) rfl)) rfl, lwm (tb5 _ (List.mem_of_getElem? (i := 233) rfl)) rfl⟩, by decide +kernel⟩
theorem yf_X8_withRank : YfV yX8_withRank cX8_withRank 3 (some .int) 1 := ⟨⟨lwm (tb5 _ (List.mem_of_getElem? (i := 235) rfl)) rfl, lwm (tb5 _ (List.mem_of_getElem? (i := 236) rfl)) rfl, lwm (tb1 _ (List.mem_of_getElem? (i := 3) rfl)) rfl, lwm (tb5 _ (List.mem_of_getElem? (i := 237) rfl)) rfl⟩, by decide +kernel⟩
theorem yf_X8_rankOf : YfV yX8_rankOf cX8_rankOf 5 (some .int) 1 := ⟨⟨lwm (tb6 _ (List.mem_of_getElem? (i := 0) rfl)) rfl, lwm (List.mem_append_left _ (List.mem_of_getElem? (i := 10) rfl)) rfl, lwm (tb1 _ (List.mem_of_getElem? (i := 3) rfl)) rfl, lwm (tb6 _ (List.mem_of_getElem? (i := 1) rfl)) rfl⟩, by decide +kernel⟩
theorem yf_X11_orderAt : YfV yX11_orderAt cX11_orderAt 2 (some .int) 1 := ⟨⟨lwm (tb6 _ (List.mem_of_getElem? (i := 8) rfl)) rfl, lwm (tb6 _ (List.mem_of_getElem? (i := 9) rfl)) rfl, lwm (tb1 _ (List.mem_of_getElem? (i := 1) rfl)) rfl, lwm (tb6 _ (List.mem_of_getElem? (i := 10) rfl)) rfl⟩, by decide +kernel⟩
theorem yf_X11_stallOf : YfV yX11_stallOf cX11_stallOf 2 (some .int) 1 := ⟨⟨lwm (tb6 _ (List.mem_of_getElem? (i := 16) rfl)) rfl, lwm (tb6 _ (List.mem_of_getElem? (i := 17) rfl)) rfl, lwm (tb1 _ (List.mem_of_getElem? (i := 1) rfl)) rfl, lwm (tb6 _ (List.mem_of_getElem? (i := 18) rfl)) rfl⟩, by decide +kernel⟩
theorem yf_X11_requireSlot : YfV yX11_requireSlot cX11_requireSlot 3 (some .int) 1 := ⟨⟨lwm (tb6 _ (List.mem_of_getElem? (i := 21) rfl)) rfl, lwm (List.mem_append_left _ (List.mem_of_getElem? (i := 11) rfl)) rfl, lwm (tb1 _ (List.mem_of_getElem? (i := 1) rfl)) rfl, lwm (tb6 _ (List.mem_of_getElem? (i := 22) rfl)) rfl⟩, by decide +kernel⟩
theorem yf_X11_isBuying : YfV yX11_isBuying cX11_isBuying 2 (some .boolean) 1 := ⟨⟨lwm (tb6 _ (List.mem_of_getElem? (i := 28) rfl)) rfl, lwm (tb6 _ (List.mem_of_getElem? (i := 29) rfl)) rfl, lwm (tb1 _ (List.mem_of_getElem? (i := 1) rfl)) rfl, lwm (tb6 _ (List.mem_of_getElem? (i := 30) rfl)) rfl⟩, by decide +kernel⟩
theorem yf_X11_priceOf : YfV yX11_priceOf cX11_priceOf 2 (some .int) 1 := ⟨⟨lwm (tb6 _ (List.mem_of_getElem? (i := 36) rfl)) rfl, lwm (tb6 _ (List.mem_of_getElem? (i := 37) rfl)) rfl, lwm (tb1 _ (List.mem_of_getElem? (i := 1) rfl)) rfl, lwm (tb6 _ (List.mem_of_getElem? (i := 38) rfl)) rfl⟩, by decide +kernel⟩
theorem yf_X11_quantityOf : YfV yX11_quantityOf cX11_quantityOf 2 (some .int) 1 := ⟨⟨lwm (tb6 _ (List.mem_of_getElem? (i := 43) rfl)) rfl, lwm (tb6 _ (List.mem_of_getElem? (i := 44) rfl)) rfl, lwm (tb1 _ (List.mem_of_getElem? (i := 1) rfl)) rfl, lwm (tb6 _ (List.mem_of_getElem? (i := 45) rfl)) rfl⟩, by decide +kernel⟩
theorem yf_X11_minutesLeft : YfV yX11_minutesLeft cX11_minutesLeft 3 (some .int) 1 := ⟨⟨lwm (tb6 _ (List.mem_of_getElem? (i := 50) rfl)) rfl, lwm (tb6 _ (List.mem_of_getElem? (i := 51) rfl)) rfl, lwm (tb1 _ (List.mem_of_getElem? (i := 1) rfl)) rfl, lwm (tb6 _ (List.mem_of_getElem? (i := 52) rfl)) rfl⟩, by decide +kernel⟩
theorem yf_X11_bestBuy : YfV yX11_bestBuy cX11_bestBuy 1 (some .int) 0 := ⟨⟨lwm (tb6 _ (List.mem_of_getElem? (i := 58) rfl)) rfl, lwm (tb6 _ (List.mem_of_getElem? (i := 59) rfl)) rfl, lwm (tb1 _ (List.mem_of_getElem? (i := 1) rfl)) rfl, lwm (tb6 _ (List.mem_of_getElem? (i := 60) rfl)) rfl⟩, by decide +kernel⟩
theorem yf_X11_bestOrder : YfV yX11_bestOrder cX11_bestOrder 3 (some .int) 1 := ⟨⟨lwm (tb6 _ (List.mem_of_getElem? (i := 63) rfl)) rfl, lwm (List.mem_append_left _ (List.mem_of_getElem? (i := 12) rfl)) rfl, lwm (tb1 _ (List.mem_of_getElem? (i := 1) rfl)) rfl, lwm (tb6 _ (List.mem_of_getElem? (i := 64) rfl)) rfl⟩, by decide +kernel⟩
theorem yf_X11_bestSell : YfV yX11_bestSell cX11_bestSell 1 (some .int) 0 := ⟨⟨lwm (tb6 _ (List.mem_of_getElem? (i := 70) rfl)) rfl, lwm (tb6 _ (List.mem_of_getElem? (i := 71) rfl)) rfl, lwm (tb1 _ (List.mem_of_getElem? (i := 1) rfl)) rfl, lwm (tb6 _ (List.mem_of_getElem? (i := 72) rfl)) rfl⟩, by decide +kernel⟩
theorem yf_X11_spread : YfV yX11_spread cX11_spread 1 (some .int) 0 := ⟨⟨lwm (tb6 _ (List.mem_of_getElem? (i := 77) rfl)) rfl, lwm (tb6 _ (List.mem_of_getElem? (i := 78) rfl)) rfl, lwm (tb1 _ (List.mem_of_getElem? (i := 1) rfl)) rfl, lwm (tb6 _ (List.mem_of_getElem? (i := 79) rfl)) rfl⟩, by decide +kernel⟩
theorem yf_X11_requireSpread : YfS yX11_requireSpread cX11_requireSpread 1 (some .int) 1 := ⟨⟨lwm (tb6 _ (List.mem_of_getElem? (i := 81) rfl)) rfl, lwm (tb1 _ (List.mem_of_getElem? (i := 1) rfl)) rfl, lwm (tb6 _ (List.mem_of_getElem? (i := 82) rfl)) rfl⟩, by decide +kernel⟩
theorem yf_X11_spreadBySums : YfV yX11_spreadBySums cX11_spreadBySums 1 (some .int) 0 := ⟨⟨lwm (tb6 _ (List.mem_of_getElem? (i := 88) rfl)) rfl, lwm (tb6 _ (List.mem_of_getElem? (i := 89) rfl)) rfl, lwm (tb1 _ (List.mem_of_getElem? (i := 1) rfl)) rfl, lwm (tb6 _ (List.mem_of_getElem? (i := 90) rfl)) rfl⟩, by decide +kernel⟩
theorem yf_X11_buyingAt : YfV yX11_buyingAt cX11_buyingAt 2 (some .int) 1 := ⟨⟨lwm (tb6 _ (List.mem_of_getElem? (i := 95) rfl)) rfl, lwm (tb6 _ (List.mem_of_getElem? (i := 96) rfl)) rfl, lwm (tb1 _ (List.mem_of_getElem? (i := 1) rfl)) rfl, lwm (tb6 _ (List.mem_of_getElem? (i := 97) rfl)) rfl⟩, by decide +kernel⟩
theorem yf_X11_requirePrice : YfS yX11_requirePrice cX11_requirePrice 1 none 1 := ⟨⟨lwm (tb6 _ (List.mem_of_getElem? (i := 99) rfl)) rfl, lwm (tb1 _ (List.mem_of_getElem? (i := 1) rfl)) rfl, lwm (tb6 _ (List.mem_of_getElem? (i := 100) rfl)) rfl⟩, by decide +kernel⟩
theorem yf_X11_sellingAt : YfV yX11_sellingAt cX11_sellingAt 2 (some .int) 1 := ⟨⟨lwm (tb6 _ (List.mem_of_getElem? (i := 106) rfl)) rfl, lwm (tb6 _ (List.mem_of_getElem? (i := 107) rfl)) rfl, lwm (tb1 _ (List.mem_of_getElem? (i := 1) rfl)) rfl, lwm (tb6 _ (List.mem_of_getElem? (i := 108) rfl)) rfl⟩, by decide +kernel⟩
theorem yf_X11_lastPrice : YfV yX11_lastPrice cX11_lastPrice 1 (some .int) 0 := ⟨⟨lwm (tb6 _ (List.mem_of_getElem? (i := 113) rfl)) rfl, lwm (tb6 _ (List.mem_of_getElem? (i := 114) rfl)) rfl, lwm (tb1 _ (List.mem_of_getElem? (i := 1) rfl)) rfl, lwm (tb6 _ (List.mem_of_getElem? (i := 115) rfl)) rfl⟩, by decide +kernel⟩
theorem yf_X11_meanPrice : YfV yX11_meanPrice cX11_meanPrice 1 (some .double) 0 := ⟨⟨lwm (tb6 _ (List.mem_of_getElem? (i := 135) rfl)) rfl, lwm (tb6 _ (List.mem_of_getElem? (i := 136) rfl)) rfl, lwm (tb1 _ (List.mem_of_getElem? (i := 1) rfl)) rfl, lwm (tb6 _ (List.mem_of_getElem? (i := 137) rfl)) rfl⟩, by decide +kernel⟩
theorem yf_X11_buyingShare : YfV yX11_buyingShare cX11_buyingShare 1 (some .float) 0 := ⟨⟨lwm (tb6 _ (List.mem_of_getElem? (i := 144) rfl)) rfl, lwm (tb6 _ (List.mem_of_getElem? (i := 145) rfl)) rfl, lwm (tb1 _ (List.mem_of_getElem? (i := 1) rfl)) rfl, lwm (tb6 _ (List.mem_of_getElem? (i := 146) rfl)) rfl⟩, by decide +kernel⟩
theorem yf_X1_buyingOrders : YfV yX1_buyingOrders cX1_buyingOrders 3 (some .int) 0 := ⟨⟨lwm (tb6 _ (List.mem_of_getElem? (i := 149) rfl)) rfl, lwm (tb6 _ (List.mem_of_getElem? (i := 150) rfl)) rfl, lwm (tb1 _ (List.mem_of_getElem? (i := 6) rfl)) rfl, lwm (tb6 _ (List.mem_of_getElem? (i := 151) rfl)) rfl⟩, by decide +kernel⟩
theorem yf_X11_poolPrice : YfV yX11_poolPrice cX11_poolPrice 1 (some .int) 0 := ⟨⟨lwm (tb6 _ (List.mem_of_getElem? (i := 156) rfl)) rfl, lwm (tb6 _ (List.mem_of_getElem? (i := 157) rfl)) rfl, lwm (tb1 _ (List.mem_of_getElem? (i := 1) rfl)) rfl, lwm (tb6 _ (List.mem_of_getElem? (i := 158) rfl)) rfl⟩, by decide +kernel⟩
theorem yf_X11_requirePoolPrice : YfS yX11_requirePoolPrice cX11_requirePoolPrice 1 (some .int) 1 := ⟨⟨lwm (tb6 _ (List.mem_of_getElem? (i := 160) rfl)) rfl, lwm (tb1 _ (List.mem_of_getElem? (i := 1) rfl)) rfl, lwm (tb6 _ (List.mem_of_getElem? (i := 161) rfl)) rfl⟩, by decide +kernel⟩
theorem yf_X11_poolPriceBySums : YfV yX11_poolPriceBySums cX11_poolPriceBySums 1 (some .int) 0 := ⟨⟨lwm (tb6 _ (List.mem_of_getElem? (i := 167) rfl)) rfl, lwm (tb6 _ (List.mem_of_getElem? (i := 168) rfl)) rfl, lwm (tb1 _ (List.mem_of_getElem? (i := 1) rfl)) rfl, lwm (tb6 _ (List.mem_of_getElem? (i := 169) rfl)) rfl⟩, by decide +kernel⟩
theorem yf_X11_volumeAt : YfV yX11_volumeAt cX11_volumeAt 2 (some .int) 1 := ⟨⟨lwm (tb6 _ (List.mem_of_getElem? (i := 174) rfl)) rfl, lwm (tb6 _ (List.mem_of_getElem? (i := 175) rfl)) rfl, lwm (tb1 _ (List.mem_of_getElem? (i := 1) rfl)) rfl, lwm (tb6 _ (List.mem_of_getElem? (i := 176) rfl)) rfl⟩, by decide +kernel⟩
theorem yf_X1_volume : YfV yX1_volume cX1_volume 2 (some .int) 1 := ⟨⟨lwm (tb6 _ (List.mem_of_getElem? (i := 178) rfl)) rfl, lwm (tb6 _ (List.mem_of_getElem? (i := 179) rfl)) rfl, lwm (tb1 _ (List.mem_of_getElem? (i := 6) rfl)) rfl, lwm (tb6 _ (List.mem_of_getElem? (i := 180) rfl)) rfl⟩, by decide +kernel⟩
theorem yf_X11_writeOrder : YfV yX11_writeOrder cX11_writeOrder 3 (some .int) 1 := ⟨⟨lwm (tb6 _ (List.mem_of_getElem? (i := 186) rfl)) rfl, lwm (tb6 _ (List.mem_of_getElem? (i := 187) rfl)) rfl, lwm (tb1 _ (List.mem_of_getElem? (i := 1) rfl)) rfl, lwm (tb6 _ (List.mem_of_getElem? (i := 188) rfl)) rfl⟩, by decide +kernel⟩
theorem yf_X11_lineAt : YfV yX11_lineAt cX11_lineAt 2 (some .char) 1 := ⟨⟨lwm (tb6 _ (List.mem_of_getElem? (i := 193) rfl)) rfl, lwm (tb6 _ (List.mem_of_getElem? (i := 194) rfl)) rfl, lwm (tb1 _ (List.mem_of_getElem? (i := 1) rfl)) rfl, lwm (tb6 _ (List.mem_of_getElem? (i := 195) rfl)) rfl⟩, by decide +kernel⟩
theorem yf_J4_charAt_5068e : YfV yJ4_charAt_5068e cJ4_charAt_5068e 2 (some .char) 1 := ⟨⟨lwm (tb6 _ (List.mem_of_getElem? (i := 198) rfl)) rfl, lwm (tb6 _ (List.mem_of_getElem? (i := 199) rfl)) rfl, lwm (tb1 _ (List.mem_of_getElem? (i := 11) rfl)) rfl, lwm (tb6 _ (List.mem_of_getElem? (i := 200) rfl)) rfl⟩, by decide +kernel⟩
theorem yf_X11_type : YfV yX11_type cX11_type 2 (some .int) 1 := ⟨⟨lwm (tb6 _ (List.mem_of_getElem? (i := 211) rfl)) rfl, lwm (tb6 _ (List.mem_of_getElem? (i := 212) rfl)) rfl, lwm (tb1 _ (List.mem_of_getElem? (i := 1) rfl)) rfl, lwm (tb6 _ (List.mem_of_getElem? (i := 213) rfl)) rfl⟩, by decide +kernel⟩
theorem yf_X2_isFull : YfV yX2_isFull cX2_isFull 1 (some .boolean) 0 := ⟨⟨lwm (tb6 _ (List.mem_of_getElem? (i := 216) rfl)) rfl, lwm (tb6 _ (List.mem_of_getElem? (i := 217) rfl)) rfl, lwm (tb1 _ (List.mem_of_getElem? (i := 9) rfl)) rfl, lwm (tb6 _ (List.mem_of_getElem? (i := 218) rfl)) rfl⟩, by decide +kernel⟩
theorem yf_X2_append : YfV yX2_append cX2_append 2 (some .int) 1 := ⟨⟨lwm (tb6 _ (List.mem_of_getElem? (i := 222) rfl)) rfl, lwm (tb6 _ (List.mem_of_getElem? (i := 223) rfl)) rfl, lwm (tb1 _ (List.mem_of_getElem? (i := 9) rfl)) rfl, lwm (tb6 _ (List.mem_of_getElem? (i := 224) rfl)) rfl⟩, by decide +kernel⟩
theorem yf_X11_execute : YfV yX11_execute cX11_execute 3 (some .int) 0 := ⟨⟨lwm (tb6 _ (List.mem_of_getElem? (i := 230) rfl)) rfl, lwm (tb6 _ (List.mem_of_getElem? (i := 231) rfl)) rfl, lwm (tb1 _ (List.mem_of_getElem? (i := 1) rfl)) rfl, lwm (tb6 _ (List.mem_of_getElem? (i := 232) rfl)) rfl⟩, by decide +kernel⟩
theorem yf_X2_countCommands : YfV yX2_countCommands cX2_countCommands 2 (some .int) 0 := ⟨⟨lwm (tb6 _ (List.mem_of_getElem? (i := 234) rfl)) rfl, lwm (tb6 _ (List.mem_of_getElem? (i := 235) rfl)) rfl, lwm (tb1 _ (List.mem_of_getElem? (i := 9) rfl)) rfl, lwm (tb6 _ (List.mem_of_getElem? (i := 236) rfl)) rfl⟩, by decide +kernel⟩
theorem yf_X2_rewind : YfV yX2_rewind cX2_rewind 1 none 0 := ⟨⟨lwm (tb6 _ (List.mem_of_getElem? (i := 238) rfl)) rfl, lwm (tb6 _ (List.mem_of_getElem? (i := 239) rfl)) rfl, lwm (tb1 _ (List.mem_of_getElem? (i := 9) rfl)) rfl, lwm (tb7 _ (List.mem_of_getElem? (i := 0) rfl)) rfl⟩, by decide +kernel⟩
theorem yf_X2_readCommand : YfV yX2_readCommand cX2_readCommand 1 (some .boolean) 0 := ⟨⟨lwm (tb7 _ (List.mem_of_getElem? (i := 2) rfl)) rfl, lwm (tb7 _ (List.mem_of_getElem? (i := 3) rfl)) rfl, lwm (tb1 _ (List.mem_of_getElem? (i := 9) rfl)) rfl, lwm (tb7 _ (List.mem_of_getElem? (i := 4) rfl)) rfl⟩, by decide +kernel⟩
theorem yf_X2_readSign : YfV yX2_readSign cX2_readSign 2 (some .boolean) 1 := ⟨⟨lwm (tb7 _ (List.mem_of_getElem? (i := 7) rfl)) rfl, lwm (List.mem_append_left _ (List.mem_of_getElem? (i := 13) rfl)) rfl, lwm (tb1 _ (List.mem_of_getElem? (i := 9) rfl)) rfl, lwm (tb7 _ (List.mem_of_getElem? (i := 8) rfl)) rfl⟩, by decide +kernel⟩
theorem yf_X2_standsAt : YfV yX2_standsAt cX2_standsAt 3 (some .boolean) 2 := ⟨⟨lwm (tb7 _ (List.mem_of_getElem? (i := 11) rfl)) rfl, lwm (List.mem_append_left _ (List.mem_of_getElem? (i := 14) rfl)) rfl, lwm (tb1 _ (List.mem_of_getElem? (i := 9) rfl)) rfl, lwm (tb7 _ (List.mem_of_getElem? (i := 12) rfl)) rfl⟩, by decide +kernel⟩
theorem yf_X2_readVerb : YfV yX2_readVerb cX2_readVerb 7 (some .boolean) 0 := ⟨⟨lwm (tb7 _ (List.mem_of_getElem? (i := 16) rfl)) rfl, lwm (List.mem_append_left _ (List.mem_of_getElem? (i := 15) rfl)) rfl, lwm (tb1 _ (List.mem_of_getElem? (i := 9) rfl)) rfl, lwm (tb7 _ (List.mem_of_getElem? (i := 17) rfl)) rfl⟩, by decide +kernel⟩
theorem yf_X2_matchingLetters : YfV yX2_matchingLetters cX2_matchingLetters 3 (some .int) 1 := ⟨⟨lwm (tb7 _ (List.mem_of_getElem? (i := 22) rfl)) rfl, lwm (List.mem_append_left _ (List.mem_of_getElem? (i := 16) rfl)) rfl, lwm (tb1 _ (List.mem_of_getElem? (i := 9) rfl)) rfl, lwm (tb7 _ (List.mem_of_getElem? (i := 23) rfl)) rfl⟩, by decide +kernel⟩
theorem yf_J0_charAt_5068e : YfV yJ0_charAt_5068e cJ0_charAt_5068e 2 (some .char) 1 := ⟨⟨lwm (tb7 _ (List.mem_of_getElem? (i := 26) rfl)) rfl, lwm (tb7 _ (List.mem_of_getElem? (i := 27) rfl)) rfl, lwm (tb1 _ (List.mem_of_getElem? (i := 12) rfl)) rfl, lwm (tb7 _ (List.mem_of_getElem? (i := 28) rfl)) rfl⟩, by decide +kernel⟩
theorem yf_J0_isLatin1_aae02 : YfV yJ0_isLatin1_aae02 cJ0_isLatin1_aae02 1 (some .boolean) 0 := ⟨⟨lwm (tb7 _ (List.mem_of_getElem? (i := 30) rfl)) rfl, lwm (tb7 _ (List.mem_of_getElem? (i := 31) rfl)) rfl, lwm (tb1 _ (List.mem_of_getElem? (i := 12) rfl)) rfl, lwm (tb7 _ (List.mem_of_getElem? (i := 32) rfl)) rfl⟩, by decide +kernel⟩
theorem yf_J1_charAt_3b067 : YfS yJ1_charAt_3b067 cJ1_charAt_3b067 2 (some .char) 2 := ⟨⟨lwm (tb7 _ (List.mem_of_getElem? (i := 34) rfl)) rfl, lwm (tb1 _ (List.mem_of_getElem? (i := 34) rfl)) rfl, lwm (tb7 _ (List.mem_of_getElem? (i := 35) rfl)) rfl⟩, by decide +kernel⟩
theorem yf_J2_charAt_3b067 : YfS yJ2_charAt_3b067 cJ2_charAt_3b067 2 (some .char) 2 := ⟨⟨lwm (tb7 _ (List.mem_of_getElem? (i := 38) rfl)) rfl, lwm (tb1 _ (List.mem_of_getElem? (i := 13) rfl)) rfl, lwm (tb7 _ (List.mem_of_getElem? (i := 39) rfl)) rfl⟩, by decide +kernel⟩
theorem yf_X2_readParameters : YfV yX2_readParameters cX2_readParameters 2 (some .boolean) 0 := ⟨⟨lwm (tb7 _ (List.mem_of_getElem? (i := 43) rfl)) rfl, lwm (List.mem_append_left _ (List.mem_of_getElem? (i := 17) rfl)) rfl, lwm (tb1 _ (List.mem_of_getElem? (i := 9) rfl)) rfl, lwm (tb7 _ (List.mem_of_getElem? (i := 44) rfl)) rfl⟩, by decide +kernel⟩
theorem yf_X2_readNumber : YfV yX2_readNumber cX2_readNumber 5 (some .boolean) 2 := ⟨⟨lwm (tb7 _ (List.mem_of_getElem? (i := 47) rfl)) rfl, lwm (List.mem_append_left _ (List.mem_of_getElem? (i := 18) rfl)) rfl, lwm (tb1 _ (List.mem_of_getElem? (i := 9) rfl)) rfl, lwm (tb7 _ (List.mem_of_getElem? (i := 48) rfl)) rfl⟩, by decide +kernel⟩
theorem yf_X2_digitAt : YfV yX2_digitAt cX2_digitAt 3 (some .int) 1 := ⟨⟨lwm (tb7 _ (List.mem_of_getElem? (i := 51) rfl)) rfl, lwm (List.mem_append_left _ (List.mem_of_getElem? (i := 19) rfl)) rfl, lwm (tb1 _ (List.mem_of_getElem? (i := 9) rfl)) rfl, lwm (tb7 _ (List.mem_of_getElem? (i := 52) rfl)) rfl⟩, by decide +kernel⟩
theorem yf_X2_empty : YfV yX2_empty cX2_empty 1 none 0 := ⟨⟨lwm (tb7 _ (List.mem_of_getElem? (i := 55) rfl)) rfl, lwm (tb7 _ (List.mem_of_getElem? (i := 56) rfl)) rfl, lwm (tb1 _ (List.mem_of_getElem? (i := 9) rfl)) rfl, lwm (tb7 _ (List.mem_of_getElem? (i := 57) rfl)) rfl⟩, by decide +kernel⟩
theorem yf_X11_commandFault : YfV yX11_commandFault cX11_commandFault 4 (some (.object "DropMarket$Fault")) 0 := ⟨⟨lwm (tb7 _ (List.mem_of_getElem? (i := 64) rfl)) rfl, lwm (List.mem_append_left _ (List.mem_of_getElem? (i := 20) rfl)) rfl, lwm (tb1 _ (List.mem_of_getElem? (i := 1) rfl)) rfl, lwm (tb7 _ (List.mem_of_getElem? (i := 65) rfl)) rfl⟩, by decide +kernel⟩
theorem yf_X11_runCommand : YfV yX11_runCommand cX11_runCommand 4 none 0 := ⟨⟨lwm (tb7 _ (List.mem_of_getElem? (i := 77) rfl)) rfl, lwm (List.mem_append_left _ (List.mem_of_getElem? (i := 21) rfl)) rfl, lwm (tb1 _ (List.mem_of_getElem? (i := 1) rfl)) rfl, lwm (tb7 _ (List.mem_of_getElem? (i := 78) rfl)) rfl⟩, by decide +kernel⟩
theorem yf_X11_errorPosition : YfV yX11_errorPosition cX11_errorPosition 1 (some .int) 0 := ⟨⟨lwm (tb7 _ (List.mem_of_getElem? (i := 84) rfl)) rfl, lwm (tb7 _ (List.mem_of_getElem? (i := 85) rfl)) rfl, lwm (tb1 _ (List.mem_of_getElem? (i := 1) rfl)) rfl, lwm (tb7 _ (List.mem_of_getElem? (i := 86) rfl)) rfl⟩, by decide +kernel⟩
theorem yf_X11_failedCommand : YfV yX11_failedCommand cX11_failedCommand 1 (some .int) 0 := ⟨⟨lwm (tb7 _ (List.mem_of_getElem? (i := 92) rfl)) rfl, lwm (tb7 _ (List.mem_of_getElem? (i := 93) rfl)) rfl, lwm (tb1 _ (List.mem_of_getElem? (i := 1) rfl)) rfl, lwm (tb7 _ (List.mem_of_getElem? (i := 94) rfl)) rfl⟩, by decide +kernel⟩
theorem yf_X11_undo : YfV yX11_undo cX11_undo 1 (some .int) 0 := ⟨⟨lwm (tb7 _ (List.mem_of_getElem? (i := 100) rfl)) rfl, lwm (tb7 _ (List.mem_of_getElem? (i := 101) rfl)) rfl, lwm (tb1 _ (List.mem_of_getElem? (i := 1) rfl)) rfl, lwm (tb7 _ (List.mem_of_getElem? (i := 102) rfl)) rfl⟩, by decide +kernel⟩
theorem yf_X4_popInto : YfV yX4_popInto cX4_popInto 3 none 1 := ⟨⟨lwm (tb7 _ (List.mem_of_getElem? (i := 105) rfl)) rfl, lwm (tb7 _ (List.mem_of_getElem? (i := 106) rfl)) rfl, lwm (tb1 _ (List.mem_of_getElem? (i := 7) rfl)) rfl, lwm (tb7 _ (List.mem_of_getElem? (i := 107) rfl)) rfl⟩, by decide +kernel⟩
theorem yf_X11_restore : YfV yX11_restore cX11_restore 1 (some .int) 0 := ⟨⟨lwm (tb7 _ (List.mem_of_getElem? (i := 113) rfl)) rfl, lwm (tb7 _ (List.mem_of_getElem? (i := 114) rfl)) rfl, lwm (tb1 _ (List.mem_of_getElem? (i := 1) rfl)) rfl, lwm (tb7 _ (List.mem_of_getElem? (i := 115) rfl)) rfl⟩, by decide +kernel⟩
theorem yf_X4_forget : YfV yX4_forget cX4_forget 1 none 0 := ⟨⟨lwm (tb7 _ (List.mem_of_getElem? (i := 118) rfl)) rfl, lwm (tb7 _ (List.mem_of_getElem? (i := 119) rfl)) rfl, lwm (tb1 _ (List.mem_of_getElem? (i := 7) rfl)) rfl, lwm (tb7 _ (List.mem_of_getElem? (i := 120) rfl)) rfl⟩, by decide +kernel⟩
theorem yf_X12_init : YfI yX12_init cX12_init 1 0 := ⟨⟨lwm (tb7 _ (List.mem_of_getElem? (i := 124) rfl)) rfl, lwm (tb1 _ (List.mem_of_getElem? (i := 16) rfl)) rfl, lwm (tb7 _ (List.mem_of_getElem? (i := 125) rfl)) rfl⟩, by decide +kernel⟩
theorem yf_X12_thrown : YfV yX12_thrown cX12_thrown 1 (some .int) 0 := ⟨⟨lwm (tb7 _ (List.mem_of_getElem? (i := 181) rfl)) rfl, lwm (tb7 _ (List.mem_of_getElem? (i := 182) rfl)) rfl, lwm (tb1 _ (List.mem_of_getElem? (i := 16) rfl)) rfl, lwm (tb7 _ (List.mem_of_getElem? (i := 183) rfl)) rfl⟩, by decide +kernel⟩
theorem yf_X12_addStall : YfV yX12_addStall cX12_addStall 3 (some .int) 2 := ⟨⟨lwm (tb7 _ (List.mem_of_getElem? (i := 185) rfl)) rfl, lwm (tb7 _ (List.mem_of_getElem? (i := 186) rfl)) rfl, lwm (tb1 _ (List.mem_of_getElem? (i := 16) rfl)) rfl, lwm (tb7 _ (List.mem_of_getElem? (i := 187) rfl)) rfl⟩, by decide +kernel⟩
theorem yf_X12_keep : YfV yX12_keep cX12_keep 1 none 0 := ⟨⟨lwm (tb7 _ (List.mem_of_getElem? (i := 190) rfl)) rfl, lwm (List.mem_append_left _ (List.mem_of_getElem? (i := 22) rfl)) rfl, lwm (tb1 _ (List.mem_of_getElem? (i := 16) rfl)) rfl, lwm (tb7 _ (List.mem_of_getElem? (i := 191) rfl)) rfl⟩, by decide +kernel⟩
theorem yf_X12_doAddStall : YfV yX12_doAddStall cX12_doAddStall 4 (some .int) 2 := ⟨⟨lwm (tb7 _ (List.mem_of_getElem? (i := 195) rfl)) rfl, lwm (List.mem_append_left _ (List.mem_of_getElem? (i := 23) rfl)) rfl, lwm (tb1 _ (List.mem_of_getElem? (i := 16) rfl)) rfl, lwm (tb7 _ (List.mem_of_getElem? (i := 196) rfl)) rfl⟩, by decide +kernel⟩
theorem yf_X12_in : YfS yX12_in cX12_in 3 (some .boolean) 3 := ⟨⟨lwm (tb7 _ (List.mem_of_getElem? (i := 198) rfl)) rfl, lwm (tb1 _ (List.mem_of_getElem? (i := 16) rfl)) rfl, lwm (tb7 _ (List.mem_of_getElem? (i := 199) rfl)) rfl⟩, by decide +kernel⟩
theorem yf_X12_fails : YfV yX12_fails cX12_fails 2 (some .int) 1 := ⟨⟨lwm (tb7 _ (List.mem_of_getElem? (i := 202) rfl)) rfl, lwm (List.mem_append_left _ (List.mem_of_getElem? (i := 24) rfl)) rfl, lwm (tb1 _ (List.mem_of_getElem? (i := 16) rfl)) rfl, lwm (tb7 _ (List.mem_of_getElem? (i := 203) rfl)) rfl⟩, by decide +kernel⟩
theorem yf_X12_ends : YfV yX12_ends cX12_ends 2 (some .int) 1 := ⟨⟨lwm (tb7 _ (List.mem_of_getElem? (i := 206) rfl)) rfl, lwm (List.mem_append_left _ (List.mem_of_getElem? (i := 25) rfl)) rfl, lwm (tb1 _ (List.mem_of_getElem? (i := 16) rfl)) rfl, lwm (tb7 _ (List.mem_of_getElem? (i := 207) rfl)) rfl⟩, by decide +kernel⟩
theorem yf_X12_placeBuy : YfV yX12_placeBuy cX12_placeBuy 4 (some .int) 3 := ⟨⟨lwm (tb7 _ (List.mem_of_getElem? (i := 209) rfl)) rfl, lwm (tb7 _ (List.mem_of_getElem? (i := 210) rfl)) rfl, lwm (tb1 _ (List.mem_of_getElem? (i := 16) rfl)) rfl, lwm (tb7 _ (List.mem_of_getElem? (i := 211) rfl)) rfl⟩, by decide +kernel⟩
theorem yf_X12_doPlace : YfV yX12_doPlace cX12_doPlace 9 (some .int) 5 := ⟨⟨lwm (tb7 _ (List.mem_of_getElem? (i := 214) rfl)) rfl, lwm (List.mem_append_left _ (List.mem_of_getElem? (i := 26) rfl)) rfl, lwm (tb1 _ (List.mem_of_getElem? (i := 16) rfl)) rfl, lwm (tb7 _ (List.mem_of_getElem? (i := 215) rfl)) rfl⟩, by decide +kernel⟩
theorem yf_X12_isStall : YfV yX12_isStall cX12_isStall 2 (some .boolean) 1 := ⟨⟨lwm (tb7 _ (List.mem_of_getElem? (i := 218) rfl)) rfl, lwm (List.mem_append_left _ (List.mem_of_getElem? (i := 27) rfl)) rfl, lwm (tb1 _ (List.mem_of_getElem? (i := 16) rfl)) rfl, lwm (tb7 _ (List.mem_of_getElem? (i := 219) rfl)) rfl⟩, by decide +kernel⟩
theorem yf_X12_free : YfV yX12_free cX12_free 6 (some .int) 2 := ⟨⟨lwm (tb7 _ (List.mem_of_getElem? (i := 222) rfl)) rfl, lwm (List.mem_append_left _ (List.mem_of_getElem? (i := 28) rfl)) rfl, lwm (tb1 _ (List.mem_of_getElem? (i := 16) rfl)) rfl, lwm (tb7 _ (List.mem_of_getElem? (i := 223) rfl)) rfl⟩, by decide +kernel⟩
theorem yf_X12_stall : YfV yX12_stall cX12_stall 3 (some .int) 2 := ⟨⟨lwm (tb7 _ (List.mem_of_getElem? (i := 226) rfl)) rfl, lwm (List.mem_append_left _ (List.mem_of_getElem? (i := 29) rfl)) rfl, lwm (tb1 _ (List.mem_of_getElem? (i := 16) rfl)) rfl, lwm (tb7 _ (List.mem_of_getElem? (i := 227) rfl)) rfl⟩, by decide +kernel⟩
theorem yf_X12_of : YfV yX12_of cX12_of 3 (some .int) 2 := ⟨⟨lwm (tb7 _ (List.mem_of_getElem? (i := 230) rfl)) rfl, lwm (List.mem_append_left _ (List.mem_of_getElem? (i := 30) rfl)) rfl, lwm (tb1 _ (List.mem_of_getElem? (i := 16) rfl)) rfl, lwm (tb7 _ (List.mem_of_getElem? (i := 231) rfl)) rfl⟩, by decide +kernel⟩
theorem yf_X12_buys : YfV yX12_buys cX12_buys 2 (some .boolean) 1 := ⟨⟨lwm (tb7 _ (List.mem_of_getElem? (i := 234) rfl)) rfl, lwm (List.mem_append_left _ (List.mem_of_getElem? (i := 31) rfl)) rfl, lwm (tb1 _ (List.mem_of_getElem? (i := 16) rfl)) rfl, lwm (tb7 _ (List.mem_of_getElem? (i := 235) rfl)) rfl⟩, by decide +kernel⟩
theorem yf_X12_trades : YfV yX12_trades cX12_trades 9 (some .int) 4 := ⟨⟨lwm (tb7 _ (List.mem_of_getElem? (i := 238) rfl)) rfl, lwm (List.mem_append_left _ (List.mem_of_getElem? (i := 32) rfl)) rfl, lwm (tb1 _ (List.mem_of_getElem? (i := 16) rfl)) rfl, lwm (tb7 _ (List.mem_of_getElem? (i := 239) rfl)) rfl⟩, by decide +kernel⟩
theorem yf_X12_best : YfV yX12_best cX12_best 5 (some .int) 1 := ⟨⟨lwm (tb8 _ (List.mem_of_getElem? (i := 2) rfl)) rfl, lwm (List.mem_append_left _ (List.mem_of_getElem? (i := 33) rfl)) rfl, lwm (tb1 _ (List.mem_of_getElem? (i := 16) rfl)) rfl, lwm (tb8 _ (List.mem_of_getElem? (i := 3) rfl)) rfl⟩, by decide +kernel⟩
theorem yf_X12_pays : YfV yX12_pays cX12_pays 5 none 4 := ⟨⟨lwm (tb8 _ (List.mem_of_getElem? (i := 7) rfl)) rfl, lwm (List.mem_append_left _ (List.mem_of_getElem? (i := 34) rfl)) rfl, lwm (tb1 _ (List.mem_of_getElem? (i := 16) rfl)) rfl, lwm (tb8 _ (List.mem_of_getElem? (i := 8) rfl)) rfl⟩, by decide +kernel⟩
theorem yf_X12_takes : YfV yX12_takes cX12_takes 3 none 2 := ⟨⟨lwm (tb8 _ (List.mem_of_getElem? (i := 11) rfl)) rfl, lwm (List.mem_append_left _ (List.mem_of_getElem? (i := 35) rfl)) rfl, lwm (tb1 _ (List.mem_of_getElem? (i := 16) rfl)) rfl, lwm (tb8 _ (List.mem_of_getElem? (i := 12) rfl)) rfl⟩, by decide +kernel⟩
theorem yf_X12_drops : YfV yX12_drops cX12_drops 3 none 1 := ⟨⟨lwm (tb8 _ (List.mem_of_getElem? (i := 15) rfl)) rfl, lwm (List.mem_append_left _ (List.mem_of_getElem? (i := 36) rfl)) rfl, lwm (tb1 _ (List.mem_of_getElem? (i := 16) rfl)) rfl, lwm (tb8 _ (List.mem_of_getElem? (i := 16) rfl)) rfl⟩, by decide +kernel⟩
theorem yf_X12_placeSell : YfV yX12_placeSell cX12_placeSell 4 (some .int) 3 := ⟨⟨lwm (tb8 _ (List.mem_of_getElem? (i := 18) rfl)) rfl, lwm (tb8 _ (List.mem_of_getElem? (i := 19) rfl)) rfl, lwm (tb1 _ (List.mem_of_getElem? (i := 16) rfl)) rfl, lwm (tb8 _ (List.mem_of_getElem? (i := 20) rfl)) rfl⟩, by decide +kernel⟩
theorem yf_X12_placeBuyFor : YfV yX12_placeBuyFor cX12_placeBuyFor 5 (some .int) 4 := ⟨⟨lwm (tb8 _ (List.mem_of_getElem? (i := 22) rfl)) rfl, lwm (tb8 _ (List.mem_of_getElem? (i := 23) rfl)) rfl, lwm (tb1 _ (List.mem_of_getElem? (i := 16) rfl)) rfl, lwm (tb8 _ (List.mem_of_getElem? (i := 24) rfl)) rfl⟩, by decide +kernel⟩
theorem yf_X12_minutesFor : YfS yX12_minutesFor cX12_minutesFor 1 (some .int) 1 := ⟨⟨lwm (tb8 _ (List.mem_of_getElem? (i := 26) rfl)) rfl, lwm (tb1 _ (List.mem_of_getElem? (i := 16) rfl)) rfl, lwm (tb8 _ (List.mem_of_getElem? (i := 27) rfl)) rfl⟩, by decide +kernel⟩
theorem yf_X12_placeSellFor : YfV yX12_placeSellFor cX12_placeSellFor 5 (some .int) 4 := ⟨⟨lwm (tb8 _ (List.mem_of_getElem? (i := 29) rfl)) rfl, lwm (tb8 _ (List.mem_of_getElem? (i := 30) rfl)) rfl, lwm (tb1 _ (List.mem_of_getElem? (i := 16) rfl)) rfl, lwm (tb8 _ (List.mem_of_getElem? (i := 31) rfl)) rfl⟩, by decide +kernel⟩
theorem yf_X12_takeBuy : YfV yX12_takeBuy cX12_takeBuy 4 (some .int) 3 := ⟨⟨lwm (tb8 _ (List.mem_of_getElem? (i := 33) rfl)) rfl, lwm (tb8 _ (List.mem_of_getElem? (i := 34) rfl)) rfl, lwm (tb1 _ (List.mem_of_getElem? (i := 16) rfl)) rfl, lwm (tb8 _ (List.mem_of_getElem? (i := 35) rfl)) rfl⟩, by decide +kernel⟩
theorem yf_X12_takeSell : YfV yX12_takeSell cX12_takeSell 4 (some .int) 3 := ⟨⟨lwm (tb8 _ (List.mem_of_getElem? (i := 37) rfl)) rfl, lwm (tb8 _ (List.mem_of_getElem? (i := 38) rfl)) rfl, lwm (tb1 _ (List.mem_of_getElem? (i := 16) rfl)) rfl, lwm (tb8 _ (List.mem_of_getElem? (i := 39) rfl)) rfl⟩, by decide +kernel⟩
theorem yf_X12_cancel : YfV yX12_cancel cX12_cancel 2 (some .int) 1 := ⟨⟨lwm (tb8 _ (List.mem_of_getElem? (i := 41) rfl)) rfl, lwm (tb8 _ (List.mem_of_getElem? (i := 42) rfl)) rfl, lwm (tb1 _ (List.mem_of_getElem? (i := 16) rfl)) rfl, lwm (tb8 _ (List.mem_of_getElem? (i := 43) rfl)) rfl⟩, by decide +kernel⟩
theorem yf_X12_doCancel : YfV yX12_doCancel cX12_doCancel 4 (some .int) 1 := ⟨⟨lwm (tb8 _ (List.mem_of_getElem? (i := 46) rfl)) rfl, lwm (List.mem_append_left _ (List.mem_of_getElem? (i := 37) rfl)) rfl, lwm (tb1 _ (List.mem_of_getElem? (i := 16) rfl)) rfl, lwm (tb8 _ (List.mem_of_getElem? (i := 47) rfl)) rfl⟩, by decide +kernel⟩
theorem yf_X12_placeOf : YfV yX12_placeOf cX12_placeOf 4 (some .int) 1 := ⟨⟨lwm (tb8 _ (List.mem_of_getElem? (i := 50) rfl)) rfl, lwm (List.mem_append_left _ (List.mem_of_getElem? (i := 38) rfl)) rfl, lwm (tb1 _ (List.mem_of_getElem? (i := 16) rfl)) rfl, lwm (tb8 _ (List.mem_of_getElem? (i := 51) rfl)) rfl⟩, by decide +kernel⟩
theorem yf_X12_pass : YfV yX12_pass cX12_pass 2 (some .int) 1 := ⟨⟨lwm (tb8 _ (List.mem_of_getElem? (i := 53) rfl)) rfl, lwm (tb8 _ (List.mem_of_getElem? (i := 54) rfl)) rfl, lwm (tb1 _ (List.mem_of_getElem? (i := 16) rfl)) rfl, lwm (tb8 _ (List.mem_of_getElem? (i := 55) rfl)) rfl⟩, by decide +kernel⟩
theorem yf_X12_doPass : YfV yX12_doPass cX12_doPass 6 (some .int) 1 := ⟨⟨lwm (tb8 _ (List.mem_of_getElem? (i := 58) rfl)) rfl, lwm (List.mem_append_left _ (List.mem_of_getElem? (i := 39) rfl)) rfl, lwm (tb1 _ (List.mem_of_getElem? (i := 16) rfl)) rfl, lwm (tb8 _ (List.mem_of_getElem? (i := 59) rfl)) rfl⟩, by decide +kernel⟩
theorem yf_X12_openPool : YfV yX12_openPool cX12_openPool 1 (some .int) 0 := ⟨⟨lwm (tb8 _ (List.mem_of_getElem? (i := 61) rfl)) rfl, lwm (tb8 _ (List.mem_of_getElem? (i := 62) rfl)) rfl, lwm (tb1 _ (List.mem_of_getElem? (i := 16) rfl)) rfl, lwm (tb8 _ (List.mem_of_getElem? (i := 63) rfl)) rfl⟩, by decide +kernel⟩
theorem yf_X12_doOpen : YfV yX12_doOpen cX12_doOpen 1 (some .int) 0 := ⟨⟨lwm (tb8 _ (List.mem_of_getElem? (i := 66) rfl)) rfl, lwm (List.mem_append_left _ (List.mem_of_getElem? (i := 40) rfl)) rfl, lwm (tb1 _ (List.mem_of_getElem? (i := 16) rfl)) rfl, lwm (tb8 _ (List.mem_of_getElem? (i := 67) rfl)) rfl⟩, by decide +kernel⟩
theorem yf_X12_closePool : YfV yX12_closePool cX12_closePool 1 (some .int) 0 := ⟨⟨lwm (tb8 _ (List.mem_of_getElem? (i := 69) rfl)) rfl, lwm (tb8 _ (List.mem_of_getElem? (i := 70) rfl)) rfl, lwm (tb1 _ (List.mem_of_getElem? (i := 16) rfl)) rfl, lwm (tb8 _ (List.mem_of_getElem? (i := 71) rfl)) rfl⟩, by decide +kernel⟩
theorem yf_X12_doClose : YfV yX12_doClose cX12_doClose 7 (some .int) 0 := ⟨⟨lwm (tb8 _ (List.mem_of_getElem? (i := 74) rfl)) rfl, lwm (List.mem_append_left _ (List.mem_of_getElem? (i := 41) rfl)) rfl, lwm (tb1 _ (List.mem_of_getElem? (i := 16) rfl)) rfl, lwm (tb8 _ (List.mem_of_getElem? (i := 75) rfl)) rfl⟩, by decide +kernel⟩
theorem yf_X12_pool : YfV yX12_pool cX12_pool 9 (some .int) 0 := ⟨⟨lwm (tb8 _ (List.mem_of_getElem? (i := 78) rfl)) rfl, lwm (List.mem_append_left _ (List.mem_of_getElem? (i := 42) rfl)) rfl, lwm (tb1 _ (List.mem_of_getElem? (i := 16) rfl)) rfl, lwm (tb8 _ (List.mem_of_getElem? (i := 79) rfl)) rfl⟩, by decide +kernel⟩
theorem yf_X12_sum : YfV yX12_sum cX12_sum 6 (some .int) 3 := ⟨⟨lwm (tb8 _ (List.mem_of_getElem? (i := 82) rfl)) rfl, lwm (List.mem_append_left _ (List.mem_of_getElem? (i := 43) rfl)) rfl, lwm (tb1 _ (List.mem_of_getElem? (i := 16) rfl)) rfl, lwm (tb8 _ (List.mem_of_getElem? (i := 83) rfl)) rfl⟩, by decide +kernel⟩
theorem yf_X12_volume : YfV yX12_volume cX12_volume 2 (some .int) 1 := ⟨⟨lwm (tb8 _ (List.mem_of_getElem? (i := 87) rfl)) rfl, lwm (List.mem_append_left _ (List.mem_of_getElem? (i := 44) rfl)) rfl, lwm (tb1 _ (List.mem_of_getElem? (i := 16) rfl)) rfl, lwm (tb8 _ (List.mem_of_getElem? (i := 88) rfl)) rfl⟩, by decide +kernel⟩
theorem yf_X12_stallCount : YfV yX12_stallCount cX12_stallCount 1 (some .int) 0 := ⟨⟨lwm (tb8 _ (List.mem_of_getElem? (i := 90) rfl)) rfl, lwm (tb8 _ (List.mem_of_getElem? (i := 91) rfl)) rfl, lwm (tb1 _ (List.mem_of_getElem? (i := 16) rfl)) rfl, lwm (tb8 _ (List.mem_of_getElem? (i := 92) rfl)) rfl⟩, by decide +kernel⟩
theorem yf_X12_moneyOf : YfV yX12_moneyOf cX12_moneyOf 2 (some .int) 1 := ⟨⟨lwm (tb8 _ (List.mem_of_getElem? (i := 94) rfl)) rfl, lwm (tb8 _ (List.mem_of_getElem? (i := 95) rfl)) rfl, lwm (tb1 _ (List.mem_of_getElem? (i := 16) rfl)) rfl, lwm (tb8 _ (List.mem_of_getElem? (i := 96) rfl)) rfl⟩, by decide +kernel⟩
theorem yf_X12_isThere : YfV yX12_isThere cX12_isThere 2 (some .boolean) 1 := ⟨⟨lwm (tb8 _ (List.mem_of_getElem? (i := 99) rfl)) rfl, lwm (List.mem_append_left _ (List.mem_of_getElem? (i := 45) rfl)) rfl, lwm (tb1 _ (List.mem_of_getElem? (i := 16) rfl)) rfl, lwm (tb8 _ (List.mem_of_getElem? (i := 100) rfl)) rfl⟩, by decide +kernel⟩
theorem yf_X12_dropsOf : YfV yX12_dropsOf cX12_dropsOf 2 (some .int) 1 := ⟨⟨lwm (tb8 _ (List.mem_of_getElem? (i := 102) rfl)) rfl, lwm (tb8 _ (List.mem_of_getElem? (i := 103) rfl)) rfl, lwm (tb1 _ (List.mem_of_getElem? (i := 16) rfl)) rfl, lwm (tb8 _ (List.mem_of_getElem? (i := 104) rfl)) rfl⟩, by decide +kernel⟩
theorem yf_X12_freeMoneyOf : YfV yX12_freeMoneyOf cX12_freeMoneyOf 2 (some .int) 1 := ⟨⟨lwm (tb8 _ (List.mem_of_getElem? (i := 106) rfl)) rfl, lwm (tb8 _ (List.mem_of_getElem? (i := 107) rfl)) rfl, lwm (tb1 _ (List.mem_of_getElem? (i := 16) rfl)) rfl, lwm (tb8 _ (List.mem_of_getElem? (i := 108) rfl)) rfl⟩, by decide +kernel⟩
theorem yf_X12_freeDropsOf : YfV yX12_freeDropsOf cX12_freeDropsOf 2 (some .int) 1 := ⟨⟨lwm (tb8 _ (List.mem_of_getElem? (i := 110) rfl)) rfl, lwm (tb8 _ (List.mem_of_getElem? (i := 111) rfl)) rfl, lwm (tb1 _ (List.mem_of_getElem? (i := 16) rfl)) rfl, lwm (tb8 _ (List.mem_of_getElem? (i := 112) rfl)) rfl⟩, by decide +kernel⟩
theorem yf_X12_totalMoney : YfV yX12_totalMoney cX12_totalMoney 1 (some .int) 0 := ⟨⟨lwm (tb8 _ (List.mem_of_getElem? (i := 114) rfl)) rfl, lwm (tb8 _ (List.mem_of_getElem? (i := 115) rfl)) rfl, lwm (tb1 _ (List.mem_of_getElem? (i := 16) rfl)) rfl, lwm (tb8 _ (List.mem_of_getElem? (i := 116) rfl)) rfl⟩, by decide +kernel⟩
theorem yf_X12_total : YfV yX12_total cX12_total 4 (some .int) 1 := ⟨⟨lwm (tb8 _ (List.mem_of_getElem? (i := 119) rfl)) rfl, lwm (List.mem_append_left _ (List.mem_of_getElem? (i := 46) rfl)) rfl, lwm (tb1 _ (List.mem_of_getElem? (i := 16) rfl)) rfl, lwm (tb8 _ (List.mem_of_getElem? (i := 120) rfl)) rfl⟩, by decide +kernel⟩
theorem yf_X12_totalDrops : YfV yX12_totalDrops cX12_totalDrops 1 (some .int) 0 := ⟨⟨lwm (tb8 _ (List.mem_of_getElem? (i := 122) rfl)) rfl, lwm (tb8 _ (List.mem_of_getElem? (i := 123) rfl)) rfl, lwm (tb1 _ (List.mem_of_getElem? (i := 16) rfl)) rfl, lwm (tb8 _ (List.mem_of_getElem? (i := 124) rfl)) rfl⟩, by decide +kernel⟩
theorem yf_X12_stallByMoney : YfV yX12_stallByMoney cX12_stallByMoney 8 (some .int) 1 := ⟨⟨lwm (tb8 _ (List.mem_of_getElem? (i := 126) rfl)) rfl, lwm (tb8 _ (List.mem_of_getElem? (i := 127) rfl)) rfl, lwm (tb1 _ (List.mem_of_getElem? (i := 16) rfl)) rfl, lwm (tb8 _ (List.mem_of_getElem? (i := 128) rfl)) rfl⟩, by decide +kernel⟩
theorem yf_X12_orderCount : YfV yX12_orderCount cX12_orderCount 1 (some .int) 0 := ⟨⟨lwm (tb8 _ (List.mem_of_getElem? (i := 130) rfl)) rfl, lwm (tb8 _ (List.mem_of_getElem? (i := 131) rfl)) rfl, lwm (tb1 _ (List.mem_of_getElem? (i := 16) rfl)) rfl, lwm (tb8 _ (List.mem_of_getElem? (i := 132) rfl)) rfl⟩, by decide +kernel⟩
theorem yf_X12_orderAt : YfV yX12_orderAt cX12_orderAt 2 (some .int) 1 := ⟨⟨lwm (tb8 _ (List.mem_of_getElem? (i := 134) rfl)) rfl, lwm (tb8 _ (List.mem_of_getElem? (i := 135) rfl)) rfl, lwm (tb1 _ (List.mem_of_getElem? (i := 16) rfl)) rfl, lwm (tb8 _ (List.mem_of_getElem? (i := 136) rfl)) rfl⟩, by decide +kernel⟩
theorem yf_X12_stallOf : YfV yX12_stallOf cX12_stallOf 2 (some .int) 1 := ⟨⟨lwm (tb8 _ (List.mem_of_getElem? (i := 138) rfl)) rfl, lwm (tb8 _ (List.mem_of_getElem? (i := 139) rfl)) rfl, lwm (tb1 _ (List.mem_of_getElem? (i := 16) rfl)) rfl, lwm (tb8 _ (List.mem_of_getElem? (i := 140) rfl)) rfl⟩, by decide +kernel⟩
theorem yf_X12_tells : YfV yX12_tells cX12_tells 4 (some .int) 2 := ⟨⟨lwm (tb8 _ (List.mem_of_getElem? (i := 143) rfl)) rfl, lwm (List.mem_append_left _ (List.mem_of_getElem? (i := 47) rfl)) rfl, lwm (tb1 _ (List.mem_of_getElem? (i := 16) rfl)) rfl, lwm (tb8 _ (List.mem_of_getElem? (i := 144) rfl)) rfl⟩, by decide +kernel⟩
theorem yf_X12_isBuying : YfV yX12_isBuying cX12_isBuying 2 (some .boolean) 1 := ⟨⟨lwm (tb8 _ (List.mem_of_getElem? (i := 146) rfl)) rfl, lwm (tb8 _ (List.mem_of_getElem? (i := 147) rfl)) rfl, lwm (tb1 _ (List.mem_of_getElem? (i := 16) rfl)) rfl, lwm (tb8 _ (List.mem_of_getElem? (i := 148) rfl)) rfl⟩, by decide +kernel⟩
theorem yf_X12_priceOf : YfV yX12_priceOf cX12_priceOf 2 (some .int) 1 := ⟨⟨lwm (tb8 _ (List.mem_of_getElem? (i := 150) rfl)) rfl, lwm (tb8 _ (List.mem_of_getElem? (i := 151) rfl)) rfl, lwm (tb1 _ (List.mem_of_getElem? (i := 16) rfl)) rfl, lwm (tb8 _ (List.mem_of_getElem? (i := 152) rfl)) rfl⟩, by decide +kernel⟩
theorem yf_X12_quantityOf : YfV yX12_quantityOf cX12_quantityOf 2 (some .int) 1 := ⟨⟨lwm (tb8 _ (List.mem_of_getElem? (i := 154) rfl)) rfl, lwm (tb8 _ (List.mem_of_getElem? (i := 155) rfl)) rfl, lwm (tb1 _ (List.mem_of_getElem? (i := 16) rfl)) rfl, lwm (tb8 _ (List.mem_of_getElem? (i := 156) rfl)) rfl⟩, by decide +kernel⟩
theorem yf_X12_minutesLeft : YfV yX12_minutesLeft cX12_minutesLeft 3 (some .int) 1 := ⟨⟨lwm (tb8 _ (List.mem_of_getElem? (i := 158) rfl)) rfl, lwm (tb8 _ (List.mem_of_getElem? (i := 159) rfl)) rfl, lwm (tb1 _ (List.mem_of_getElem? (i := 16) rfl)) rfl, lwm (tb8 _ (List.mem_of_getElem? (i := 160) rfl)) rfl⟩, by decide +kernel⟩
theorem yf_X12_bestBuy : YfV yX12_bestBuy cX12_bestBuy 1 (some .int) 0 := ⟨⟨lwm (tb8 _ (List.mem_of_getElem? (i := 162) rfl)) rfl, lwm (tb8 _ (List.mem_of_getElem? (i := 163) rfl)) rfl, lwm (tb1 _ (List.mem_of_getElem? (i := 16) rfl)) rfl, lwm (tb8 _ (List.mem_of_getElem? (i := 164) rfl)) rfl⟩, by decide +kernel⟩
theorem yf_X12_asksBest : YfV yX12_asksBest cX12_asksBest 3 (some .int) 1 := ⟨⟨lwm (tb8 _ (List.mem_of_getElem? (i := 167) rfl)) rfl, lwm (List.mem_append_left _ (List.mem_of_getElem? (i := 48) rfl)) rfl, lwm (tb1 _ (List.mem_of_getElem? (i := 16) rfl)) rfl, lwm (tb8 _ (List.mem_of_getElem? (i := 168) rfl)) rfl⟩, by decide +kernel⟩
theorem yf_X12_bestSell : YfV yX12_bestSell cX12_bestSell 1 (some .int) 0 := ⟨⟨lwm (tb8 _ (List.mem_of_getElem? (i := 170) rfl)) rfl, lwm (tb8 _ (List.mem_of_getElem? (i := 171) rfl)) rfl, lwm (tb1 _ (List.mem_of_getElem? (i := 16) rfl)) rfl, lwm (tb8 _ (List.mem_of_getElem? (i := 172) rfl)) rfl⟩, by decide +kernel⟩
theorem yf_X12_spread : YfV yX12_spread cX12_spread 3 (some .int) 0 := ⟨⟨lwm (tb8 _ (List.mem_of_getElem? (i := 174) rfl)) rfl, lwm (tb8 _ (List.mem_of_getElem? (i := 175) rfl)) rfl, lwm (tb1 _ (List.mem_of_getElem? (i := 16) rfl)) rfl, lwm (tb8 _ (List.mem_of_getElem? (i := 176) rfl)) rfl⟩, by decide +kernel⟩
theorem yf_X12_spreadBySums : YfV yX12_spreadBySums cX12_spreadBySums 1 (some .int) 0 := ⟨⟨lwm (tb8 _ (List.mem_of_getElem? (i := 178) rfl)) rfl, lwm (tb8 _ (List.mem_of_getElem? (i := 179) rfl)) rfl, lwm (tb1 _ (List.mem_of_getElem? (i := 16) rfl)) rfl, lwm (tb8 _ (List.mem_of_getElem? (i := 180) rfl)) rfl⟩, by decide +kernel⟩
theorem yf_X12_buyingAt : YfV yX12_buyingAt cX12_buyingAt 2 (some .int) 1 := ⟨⟨lwm (tb8 _ (List.mem_of_getElem? (i := 183) rfl)) rfl, lwm (tb8 _ (List.mem_of_getElem? (i := 184) rfl)) rfl, lwm (tb1 _ (List.mem_of_getElem? (i := 16) rfl)) rfl, lwm (tb8 _ (List.mem_of_getElem? (i := 185) rfl)) rfl⟩, by decide +kernel⟩
theorem yf_X12_sellingAt : YfV yX12_sellingAt cX12_sellingAt 2 (some .int) 1 := ⟨⟨lwm (tb8 _ (List.mem_of_getElem? (i := 187) rfl)) rfl, lwm (tb8 _ (List.mem_of_getElem? (i := 188) rfl)) rfl, lwm (tb1 _ (List.mem_of_getElem? (i := 16) rfl)) rfl, lwm (tb8 _ (List.mem_of_getElem? (i := 189) rfl)) rfl⟩, by decide +kernel⟩
theorem yf_X12_lastPrice : YfV yX12_lastPrice cX12_lastPrice 1 (some .int) 0 := ⟨⟨lwm (tb8 _ (List.mem_of_getElem? (i := 191) rfl)) rfl, lwm (tb8 _ (List.mem_of_getElem? (i := 192) rfl)) rfl, lwm (tb1 _ (List.mem_of_getElem? (i := 16) rfl)) rfl, lwm (tb8 _ (List.mem_of_getElem? (i := 193) rfl)) rfl⟩, by decide +kernel⟩
theorem yf_X12_tradeCount : YfV yX12_tradeCount cX12_tradeCount 1 (some .int) 0 := ⟨⟨lwm (tb8 _ (List.mem_of_getElem? (i := 195) rfl)) rfl, lwm (tb8 _ (List.mem_of_getElem? (i := 196) rfl)) rfl, lwm (tb1 _ (List.mem_of_getElem? (i := 16) rfl)) rfl, lwm (tb8 _ (List.mem_of_getElem? (i := 197) rfl)) rfl⟩, by decide +kernel⟩
theorem yf_X12_tradedQuantity : YfV yX12_tradedQuantity cX12_tradedQuantity 1 (some .int) 0 := ⟨⟨lwm (tb8 _ (List.mem_of_getElem? (i := 199) rfl)) rfl, lwm (tb8 _ (List.mem_of_getElem? (i := 200) rfl)) rfl, lwm (tb1 _ (List.mem_of_getElem? (i := 16) rfl)) rfl, lwm (tb8 _ (List.mem_of_getElem? (i := 201) rfl)) rfl⟩, by decide +kernel⟩
theorem yf_X12_turnover : YfV yX12_turnover cX12_turnover 1 (some .long) 0 := ⟨⟨lwm (tb8 _ (List.mem_of_getElem? (i := 203) rfl)) rfl, lwm (tb8 _ (List.mem_of_getElem? (i := 204) rfl)) rfl, lwm (tb1 _ (List.mem_of_getElem? (i := 16) rfl)) rfl, lwm (tb8 _ (List.mem_of_getElem? (i := 205) rfl)) rfl⟩, by decide +kernel⟩
theorem yf_X12_meanPrice : YfV yX12_meanPrice cX12_meanPrice 1 (some .double) 0 := ⟨⟨lwm (tb8 _ (List.mem_of_getElem? (i := 207) rfl)) rfl, lwm (tb8 _ (List.mem_of_getElem? (i := 208) rfl)) rfl, lwm (tb1 _ (List.mem_of_getElem? (i := 16) rfl)) rfl, lwm (tb8 _ (List.mem_of_getElem? (i := 209) rfl)) rfl⟩, by decide +kernel⟩
theorem yf_X12_buyingShare : YfV yX12_buyingShare cX12_buyingShare 3 (some .float) 0 := ⟨⟨lwm (tb8 _ (List.mem_of_getElem? (i := 211) rfl)) rfl, lwm (tb8 _ (List.mem_of_getElem? (i := 212) rfl)) rfl, lwm (tb1 _ (List.mem_of_getElem? (i := 16) rfl)) rfl, lwm (tb8 _ (List.mem_of_getElem? (i := 213) rfl)) rfl⟩, by decide +kernel⟩
theorem yf_X12_isPoolOpen : YfV yX12_isPoolOpen cX12_isPoolOpen 1 (some .boolean) 0 := ⟨⟨lwm (tb8 _ (List.mem_of_getElem? (i := 215) rfl)) rfl, lwm (tb8 _ (List.mem_of_getElem? (i := 216) rfl)) rfl, lwm (tb1 _ (List.mem_of_getElem? (i := 16) rfl)) rfl, lwm (tb8 _ (List.mem_of_getElem? (i := 217) rfl)) rfl⟩, by decide +kernel⟩
theorem yf_X12_poolPrice : YfV yX12_poolPrice cX12_poolPrice 2 (some .int) 0 := ⟨⟨lwm (tb8 _ (List.mem_of_getElem? (i := 219) rfl)) rfl, lwm (tb8 _ (List.mem_of_getElem? (i := 220) rfl)) rfl, lwm (tb1 _ (List.mem_of_getElem? (i := 16) rfl)) rfl, lwm (tb8 _ (List.mem_of_getElem? (i := 221) rfl)) rfl⟩, by decide +kernel⟩
theorem yf_X12_poolPriceBySums : YfV yX12_poolPriceBySums cX12_poolPriceBySums 1 (some .int) 0 := ⟨⟨lwm (tb8 _ (List.mem_of_getElem? (i := 223) rfl)) rfl, lwm (tb8 _ (List.mem_of_getElem? (i := 224) rfl)) rfl, lwm (tb1 _ (List.mem_of_getElem? (i := 16) rfl)) rfl, lwm (tb8 _ (List.mem_of_getElem? (i := 225) rfl)) rfl⟩, by decide +kernel⟩
theorem yf_X12_volumeAt : YfV yX12_volumeAt cX12_volumeAt 2 (some .int) 1 := ⟨⟨lwm (tb8 _ (List.mem_of_getElem? (i := 228) rfl)) rfl, lwm (tb8 _ (List.mem_of_getElem? (i := 229) rfl)) rfl, lwm (tb1 _ (List.mem_of_getElem? (i := 16) rfl)) rfl, lwm (tb8 _ (List.mem_of_getElem? (i := 230) rfl)) rfl⟩, by decide +kernel⟩
theorem yf_X12_time : YfV yX12_time cX12_time 1 (some .int) 0 := ⟨⟨lwm (tb8 _ (List.mem_of_getElem? (i := 232) rfl)) rfl, lwm (tb8 _ (List.mem_of_getElem? (i := 233) rfl)) rfl, lwm (tb1 _ (List.mem_of_getElem? (i := 16) rfl)) rfl, lwm (tb8 _ (List.mem_of_getElem? (i := 234) rfl)) rfl⟩, by decide +kernel⟩
theorem yf_X12_isConsistent : YfV yX12_isConsistent cX12_isConsistent 1 (some .boolean) 0 := ⟨⟨lwm (tb8 _ (List.mem_of_getElem? (i := 236) rfl)) rfl, lwm (tb8 _ (List.mem_of_getElem? (i := 237) rfl)) rfl, lwm (tb1 _ (List.mem_of_getElem? (i := 16) rfl)) rfl, lwm (tb8 _ (List.mem_of_getElem? (i := 238) rfl)) rfl⟩, by decide +kernel⟩
theorem yf_X12_writeOrder : YfV yX12_writeOrder cX12_writeOrder 3 (some .int) 1 := ⟨⟨lwm (tb9 _ (List.mem_of_getElem? (i := 0) rfl)) rfl, lwm (tb9 _ (List.mem_of_getElem? (i := 1) rfl)) rfl, lwm (tb1 _ (List.mem_of_getElem? (i := 16) rfl)) rfl, lwm (tb9 _ (List.mem_of_getElem? (i := 2) rfl)) rfl⟩, by decide +kernel⟩
theorem yf_X12_saysNumber : YfV yX12_saysNumber cX12_saysNumber 2 none 1 := ⟨⟨lwm (tb9 _ (List.mem_of_getElem? (i := 5) rfl)) rfl, lwm (List.mem_append_left _ (List.mem_of_getElem? (i := 49) rfl)) rfl, lwm (tb1 _ (List.mem_of_getElem? (i := 16) rfl)) rfl, lwm (tb9 _ (List.mem_of_getElem? (i := 6) rfl)) rfl⟩, by decide +kernel⟩
theorem yf_X12_says : YfV yX12_says cX12_says 2 none 1 := ⟨⟨lwm (tb9 _ (List.mem_of_getElem? (i := 9) rfl)) rfl, lwm (List.mem_append_left _ (List.mem_of_getElem? (i := 50) rfl)) rfl, lwm (tb1 _ (List.mem_of_getElem? (i := 16) rfl)) rfl, lwm (tb9 _ (List.mem_of_getElem? (i := 10) rfl)) rfl⟩, by decide +kernel⟩
theorem yf_X12_saysAmount : YfV yX12_saysAmount cX12_saysAmount 3 none 2 := ⟨⟨lwm (tb9 _ (List.mem_of_getElem? (i := 13) rfl)) rfl, lwm (List.mem_append_left _ (List.mem_of_getElem? (i := 51) rfl)) rfl, lwm (tb1 _ (List.mem_of_getElem? (i := 16) rfl)) rfl, lwm (tb9 _ (List.mem_of_getElem? (i := 14) rfl)) rfl⟩, by decide +kernel⟩
theorem yf_X12_writeBook : YfV yX12_writeBook cX12_writeBook 1 (some .int) 0 := ⟨⟨lwm (tb9 _ (List.mem_of_getElem? (i := 16) rfl)) rfl, lwm (tb9 _ (List.mem_of_getElem? (i := 17) rfl)) rfl, lwm (tb1 _ (List.mem_of_getElem? (i := 16) rfl)) rfl, lwm (tb9 _ (List.mem_of_getElem? (i := 18) rfl)) rfl⟩, by decide +kernel⟩
theorem yf_X12_saysBest : YfV yX12_saysBest cX12_saysBest 4 none 1 := ⟨⟨lwm (tb9 _ (List.mem_of_getElem? (i := 21) rfl)) rfl, lwm (List.mem_append_left _ (List.mem_of_getElem? (i := 52) rfl)) rfl, lwm (tb1 _ (List.mem_of_getElem? (i := 16) rfl)) rfl, lwm (tb9 _ (List.mem_of_getElem? (i := 22) rfl)) rfl⟩, by decide +kernel⟩
theorem yf_X12_lineAt : YfV yX12_lineAt cX12_lineAt 2 (some .char) 1 := ⟨⟨lwm (tb9 _ (List.mem_of_getElem? (i := 24) rfl)) rfl, lwm (tb9 _ (List.mem_of_getElem? (i := 25) rfl)) rfl, lwm (tb1 _ (List.mem_of_getElem? (i := 16) rfl)) rfl, lwm (tb9 _ (List.mem_of_getElem? (i := 26) rfl)) rfl⟩, by decide +kernel⟩
theorem yf_X12_type : YfV yX12_type cX12_type 2 (some .int) 1 := ⟨⟨lwm (tb9 _ (List.mem_of_getElem? (i := 28) rfl)) rfl, lwm (tb9 _ (List.mem_of_getElem? (i := 29) rfl)) rfl, lwm (tb1 _ (List.mem_of_getElem? (i := 16) rfl)) rfl, lwm (tb9 _ (List.mem_of_getElem? (i := 30) rfl)) rfl⟩, by decide +kernel⟩
theorem yf_X12_execute : YfV yX12_execute cX12_execute 2 (some .int) 0 := ⟨⟨lwm (tb9 _ (List.mem_of_getElem? (i := 32) rfl)) rfl, lwm (tb9 _ (List.mem_of_getElem? (i := 33) rfl)) rfl, lwm (tb1 _ (List.mem_of_getElem? (i := 16) rfl)) rfl, lwm (tb9 _ (List.mem_of_getElem? (i := 34) rfl)) rfl⟩, by decide +kernel⟩
theorem yf_X12_readCommand : YfV yX12_readCommand cX12_readCommand 4 none 0 := ⟨⟨lwm (tb9 _ (List.mem_of_getElem? (i := 37) rfl)) rfl, lwm (List.mem_append_left _ (List.mem_of_getElem? (i := 53) rfl)) rfl, lwm (tb1 _ (List.mem_of_getElem? (i := 16) rfl)) rfl, lwm (tb9 _ (List.mem_of_getElem? (i := 38) rfl)) rfl⟩, by decide +kernel⟩
theorem yf_X12_behind : YfV yX12_behind cX12_behind 2 (some .int) 1 := ⟨⟨lwm (tb9 _ (List.mem_of_getElem? (i := 41) rfl)) rfl, lwm (List.mem_append_left _ (List.mem_of_getElem? (i := 54) rfl)) rfl, lwm (tb1 _ (List.mem_of_getElem? (i := 16) rfl)) rfl, lwm (tb9 _ (List.mem_of_getElem? (i := 42) rfl)) rfl⟩, by decide +kernel⟩
theorem yf_X12_skip : YfV yX12_skip cX12_skip 3 none 1 := ⟨⟨lwm (tb9 _ (List.mem_of_getElem? (i := 46) rfl)) rfl, lwm (List.mem_append_left _ (List.mem_of_getElem? (i := 55) rfl)) rfl, lwm (tb1 _ (List.mem_of_getElem? (i := 16) rfl)) rfl, lwm (tb9 _ (List.mem_of_getElem? (i := 47) rfl)) rfl⟩, by decide +kernel⟩
theorem yf_X12_readNumber : YfV yX12_readNumber cX12_readNumber 4 (some .int) 1 := ⟨⟨lwm (tb9 _ (List.mem_of_getElem? (i := 52) rfl)) rfl, lwm (List.mem_append_left _ (List.mem_of_getElem? (i := 56) rfl)) rfl, lwm (tb1 _ (List.mem_of_getElem? (i := 16) rfl)) rfl, lwm (tb9 _ (List.mem_of_getElem? (i := 53) rfl)) rfl⟩, by decide +kernel⟩
theorem yf_X12_isDigit : YfV yX12_isDigit cX12_isDigit 1 (some .boolean) 0 := ⟨⟨lwm (tb9 _ (List.mem_of_getElem? (i := 57) rfl)) rfl, lwm (List.mem_append_left _ (List.mem_of_getElem? (i := 57) rfl)) rfl, lwm (tb1 _ (List.mem_of_getElem? (i := 16) rfl)) rfl, lwm (tb9 _ (List.mem_of_getElem? (i := 58) rfl)) rfl⟩, by decide +kernel⟩
theorem yf_X12_does : YfV yX12_does cX12_does 5 none 1 := ⟨⟨lwm (tb9 _ (List.mem_of_getElem? (i := 67) rfl)) rfl, lwm (List.mem_append_left _ (List.mem_of_getElem? (i := 58) rfl)) rfl, lwm (tb1 _ (List.mem_of_getElem? (i := 16) rfl)) rfl, lwm (tb9 _ (List.mem_of_getElem? (i := 68) rfl)) rfl⟩, by decide +kernel⟩
theorem yf_X12_errorPosition : YfV yX12_errorPosition cX12_errorPosition 1 (some .int) 0 := ⟨⟨lwm (tb9 _ (List.mem_of_getElem? (i := 70) rfl)) rfl, lwm (tb9 _ (List.mem_of_getElem? (i := 71) rfl)) rfl, lwm (tb1 _ (List.mem_of_getElem? (i := 16) rfl)) rfl, lwm (tb9 _ (List.mem_of_getElem? (i := 72) rfl)) rfl⟩, by decide +kernel⟩
theorem yf_X12_failedCommand : YfV yX12_failedCommand cX12_failedCommand 1 (some .int) 0 := ⟨⟨lwm (tb9 _ (List.mem_of_getElem? (i := 74) rfl)) rfl, lwm (tb9 _ (List.mem_of_getElem? (i := 75) rfl)) rfl, lwm (tb1 _ (List.mem_of_getElem? (i := 16) rfl)) rfl, lwm (tb9 _ (List.mem_of_getElem? (i := 76) rfl)) rfl⟩, by decide +kernel⟩
theorem yf_X12_undo : YfV yX12_undo cX12_undo 1 (some .int) 0 := ⟨⟨lwm (tb9 _ (List.mem_of_getElem? (i := 78) rfl)) rfl, lwm (tb9 _ (List.mem_of_getElem? (i := 79) rfl)) rfl, lwm (tb1 _ (List.mem_of_getElem? (i := 16) rfl)) rfl, lwm (tb9 _ (List.mem_of_getElem? (i := 80) rfl)) rfl⟩, by decide +kernel⟩
theorem yf_X12_save : YfV yX12_save cX12_save 1 (some .int) 0 := ⟨⟨lwm (tb9 _ (List.mem_of_getElem? (i := 82) rfl)) rfl, lwm (tb9 _ (List.mem_of_getElem? (i := 83) rfl)) rfl, lwm (tb1 _ (List.mem_of_getElem? (i := 16) rfl)) rfl, lwm (tb9 _ (List.mem_of_getElem? (i := 84) rfl)) rfl⟩, by decide +kernel⟩
theorem yf_X12_restore : YfV yX12_restore cX12_restore 1 (some .int) 0 := ⟨⟨lwm (tb9 _ (List.mem_of_getElem? (i := 86) rfl)) rfl, lwm (tb9 _ (List.mem_of_getElem? (i := 87) rfl)) rfl, lwm (tb1 _ (List.mem_of_getElem? (i := 16) rfl)) rfl, lwm (tb9 _ (List.mem_of_getElem? (i := 88) rfl)) rfl⟩, by decide +kernel⟩
-- where fields lie
theorem in_X1 : ∀ w ∈ u_ws RX1 TX1 7, w ∈ LW := fun w h => by
  have hd : (u_ws RX1 TX1 7).all (fun w => decide (w ∈ lw_tbl) && goodWord w) = true := by decide +kernel
  have h2 := List.all_eq_true.mp hd w h
  simp only [Bool.and_eq_true, decide_eq_true_eq] at h2
  exact lwm h2.1 h2.2
theorem in_X2 : ∀ w ∈ u_ws RX2 TX2 4, w ∈ LW := fun w h => by
  have hd : (u_ws RX2 TX2 4).all (fun w => decide (w ∈ lw_tbl) && goodWord w) = true := by decide +kernel
  have h2 := List.all_eq_true.mp hd w h
  simp only [Bool.and_eq_true, decide_eq_true_eq] at h2
  exact lwm h2.1 h2.2
theorem in_X4 : ∀ w ∈ u_ws RX4 TX4 3, w ∈ LW := fun w h => by
  have hd : (u_ws RX4 TX4 3).all (fun w => decide (w ∈ lw_tbl) && goodWord w) = true := by decide +kernel
  have h2 := List.all_eq_true.mp hd w h
  simp only [Bool.and_eq_true, decide_eq_true_eq] at h2
  exact lwm h2.1 h2.2
theorem in_X5 : ∀ w ∈ u_ws RX5 TX5 3, w ∈ LW := fun w h => by
  have hd : (u_ws RX5 TX5 3).all (fun w => decide (w ∈ lw_tbl) && goodWord w) = true := by decide +kernel
  have h2 := List.all_eq_true.mp hd w h
  simp only [Bool.and_eq_true, decide_eq_true_eq] at h2
  exact lwm h2.1 h2.2
theorem in_X6 : ∀ w ∈ u_ws RX6 TX6 2, w ∈ LW := fun w h => by
  have hd : (u_ws RX6 TX6 2).all (fun w => decide (w ∈ lw_tbl) && goodWord w) = true := by decide +kernel
  have h2 := List.all_eq_true.mp hd w h
  simp only [Bool.and_eq_true, decide_eq_true_eq] at h2
  exact lwm h2.1 h2.2
theorem in_X7 : ∀ w ∈ u_ws RX7 TX7 1, w ∈ LW := fun w h => by
  have hd : (u_ws RX7 TX7 1).all (fun w => decide (w ∈ lw_tbl) && goodWord w) = true := by decide +kernel
  have h2 := List.all_eq_true.mp hd w h
  simp only [Bool.and_eq_true, decide_eq_true_eq] at h2
  exact lwm h2.1 h2.2
theorem in_X8 : ∀ w ∈ u_ws RX8 TX8 3, w ∈ LW := fun w h => by
  have hd : (u_ws RX8 TX8 3).all (fun w => decide (w ∈ lw_tbl) && goodWord w) = true := by decide +kernel
  have h2 := List.all_eq_true.mp hd w h
  simp only [Bool.and_eq_true, decide_eq_true_eq] at h2
  exact lwm h2.1 h2.2
theorem in_X9 : ∀ w ∈ u_ws RX9 TX9 9, w ∈ LW := fun w h => by
  have hd : (u_ws RX9 TX9 9).all (fun w => decide (w ∈ lw_tbl) && goodWord w) = true := by decide +kernel
  have h2 := List.all_eq_true.mp hd w h
  simp only [Bool.and_eq_true, decide_eq_true_eq] at h2
  exact lwm h2.1 h2.2
theorem in_X11 : ∀ w ∈ u_ws RX11 TX11 10, w ∈ LW := fun w h => by
  have hd : (u_ws RX11 TX11 10).all (fun w => decide (w ∈ lw_tbl) && goodWord w) = true := by decide +kernel
  have h2 := List.all_eq_true.mp hd w h
  simp only [Bool.and_eq_true, decide_eq_true_eq] at h2
  exact lwm h2.1 h2.2
theorem in_X12 : ∀ w ∈ u_ws RX12 TX12 17, w ∈ LW := fun w h => by
  have hd : (u_ws RX12 TX12 17).all (fun w => decide (w ∈ lw_tbl) && goodWord w) = true := by decide +kernel
  have h2 := List.all_eq_true.mp hd w h
  simp only [Bool.and_eq_true, decide_eq_true_eq] at h2
  exact lwm h2.1 h2.2
theorem in_Jx00060 : ∀ w ∈ u_ws RJx00060 TJx00060 6, w ∈ LW := fun w h => by
  have hd : (u_ws RJx00060 TJx00060 6).all (fun w => decide (w ∈ lw_tbl) && goodWord w) = true := by decide +kernel
  have h2 := List.all_eq_true.mp hd w h
  simp only [Bool.and_eq_true, decide_eq_true_eq] at h2
  exact lwm h2.1 h2.2
theorem in_J0 : ∀ w ∈ u_ws RJ0 TJ0 4, w ∈ LW := fun w h => by
  have hd : (u_ws RJ0 TJ0 4).all (fun w => decide (w ∈ lw_tbl) && goodWord w) = true := by decide +kernel
  have h2 := List.all_eq_true.mp hd w h
  simp only [Bool.and_eq_true, decide_eq_true_eq] at h2
  exact lwm h2.1 h2.2
theorem in_J4 : ∀ w ∈ u_ws RJ4 TJ4 4, w ∈ LW := fun w h => by
  have hd : (u_ws RJ4 TJ4 4).all (fun w => decide (w ∈ lw_tbl) && goodWord w) = true := by decide +kernel
  have h2 := List.all_eq_true.mp hd w h
  simp only [Bool.and_eq_true, decide_eq_true_eq] at h2
  exact lwm h2.1 h2.2
theorem in_Jx7c733 : ∀ w ∈ u_ws RJx7c733 TJx7c733 6, w ∈ LW := fun w h => by
  have hd : (u_ws RJx7c733 TJx7c733 6).all (fun w => decide (w ∈ lw_tbl) && goodWord w) = true := by decide +kernel
  have h2 := List.all_eq_true.mp hd w h
  simp only [Bool.and_eq_true, decide_eq_true_eq] at h2
  exact lwm h2.1 h2.2
