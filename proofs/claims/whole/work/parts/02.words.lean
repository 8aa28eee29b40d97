set_option maxRecDepth 20000 in
theorem m_0 : (Jvm.Cond.selects "TapOffice$Card" ({ cls := "TapOffice$Card", name := "recordCopy", desc := "()I" } : Jvm.MethodName) ({ cls := "TapOffice$Card", name := "recordCopy", desc := "()I" } : Jvm.MethodName)) ∈ lw_tbl := List.mem_of_getElem? (i := 0) rfl
set_option maxRecDepth 20000 in
theorem m_1 : (Jvm.Cond.selects "TapOffice$Card" ({ cls := "TapOffice$Card", name := "startDraft", desc := "(I)V" } : Jvm.MethodName) ({ cls := "TapOffice$Card", name := "startDraft", desc := "(I)V" } : Jvm.MethodName)) ∈ lw_tbl := List.mem_of_getElem? (i := 1) rfl
set_option maxRecDepth 20000 in
theorem m_2 : (Jvm.Cond.selects "TapOffice$Card" ({ cls := "TapOffice$Card", name := "draftExit", desc := "(IILTapOffice$Tariff;)I" } : Jvm.MethodName) ({ cls := "TapOffice$Card", name := "draftExit", desc := "(IILTapOffice$Tariff;)I" } : Jvm.MethodName)) ∈ lw_tbl := List.mem_of_getElem? (i := 2) rfl
set_option maxRecDepth 20000 in
theorem m_3 : (Jvm.Cond.selects "TapOffice$Tariff" ({ cls := "TapOffice$Tariff", name := "price", desc := "(II)I" } : Jvm.MethodName) ({ cls := "TapOffice$Tariff", name := "price", desc := "(II)I" } : Jvm.MethodName)) ∈ lw_tbl := List.mem_of_getElem? (i := 3) rfl
set_option maxRecDepth 20000 in
theorem m_4 : (Jvm.Cond.selects "TapOffice$Card" ({ cls := "TapOffice$Card", name := "priceOutOfTime", desc := "(IILTapOffice$Tariff;)I" } : Jvm.MethodName) ({ cls := "TapOffice$Card", name := "priceOutOfTime", desc := "(IILTapOffice$Tariff;)I" } : Jvm.MethodName)) ∈ lw_tbl := List.mem_of_getElem? (i := 4) rfl
set_option maxRecDepth 20000 in
theorem m_5 : (Jvm.Cond.selects "TapOffice$Card" ({ cls := "TapOffice$Card", name := "draftEntry", desc := "(IILTapOffice$Tariff;)I" } : Jvm.MethodName) ({ cls := "TapOffice$Card", name := "draftEntry", desc := "(IILTapOffice$Tariff;)I" } : Jvm.MethodName)) ∈ lw_tbl := List.mem_of_getElem? (i := 5) rfl
set_option maxRecDepth 20000 in
theorem m_6 : (Jvm.Cond.selects "TapOffice$Account" ({ cls := "TapOffice$Account", name := "enter", desc := "(III)Z" } : Jvm.MethodName) ({ cls := "TapOffice$Account", name := "enter", desc := "(III)Z" } : Jvm.MethodName)) ∈ lw_tbl := List.mem_of_getElem? (i := 6) rfl
set_option maxRecDepth 20000 in
theorem m_7 : (Jvm.Cond.selects "TapOffice" ({ cls := "TapOffice", name := "receiveEntry", desc := "(II)V" } : Jvm.MethodName) ({ cls := "TapOffice", name := "receiveEntry", desc := "(II)V" } : Jvm.MethodName)) ∈ lw_tbl := List.mem_of_getElem? (i := 7) rfl
set_option maxRecDepth 20000 in
theorem m_8 : (Jvm.Cond.selects "TapOffice" ({ cls := "TapOffice", name := "entriesInLogs", desc := "()I" } : Jvm.MethodName) ({ cls := "TapOffice", name := "entriesInLogs", desc := "()I" } : Jvm.MethodName)) ∈ lw_tbl := List.mem_of_getElem? (i := 8) rfl
set_option maxRecDepth 20000 in
theorem m_25 : (Jvm.Cond.initialized "TapOffice") ∈ lw_tbl := List.mem_of_getElem? (i := 25) rfl
set_option maxRecDepth 20000 in
theorem m_26 : (Jvm.Cond.initialized "TapOffice$Tariff") ∈ lw_tbl := List.mem_of_getElem? (i := 26) rfl
set_option maxRecDepth 20000 in
theorem m_27 : (Jvm.Cond.initialized "TapOffice$Card") ∈ lw_tbl := List.mem_of_getElem? (i := 27) rfl
set_option maxRecDepth 20000 in
theorem m_28 : (Jvm.Cond.initialized "java/lang/System") ∈ lw_tbl := List.mem_of_getElem? (i := 28) rfl
set_option maxRecDepth 20000 in
theorem m_29 : (Jvm.Cond.initialized "TapOffice$Account") ∈ lw_tbl := List.mem_of_getElem? (i := 29) rfl
set_option maxRecDepth 20000 in
theorem m_30 : (Jvm.Cond.initialized "TapOffice$Validator") ∈ lw_tbl := List.mem_of_getElem? (i := 30) rfl
set_option maxRecDepth 20000 in
theorem m_32 : (Jvm.Cond.initialized "java/lang/Math") ∈ lw_tbl := List.mem_of_getElem? (i := 32) rfl
set_option maxRecDepth 20000 in
theorem m_33 : (Jvm.Cond.initialized "java/lang/Integer") ∈ lw_tbl := List.mem_of_getElem? (i := 33) rfl
set_option maxRecDepth 20000 in
theorem m_59 : (Jvm.Cond.fieldLink "TapOffice$Tariff" (11 : Nat) "TapOffice$Tariff" "fares" "[[I") ∈ lw_tbl := List.mem_of_getElem? (i := 59) rfl
set_option maxRecDepth 20000 in
theorem m_60 : (Jvm.Cond.fieldLink "TapOffice$Tariff" (25 : Nat) "TapOffice$Tariff" "settings" "[I") ∈ lw_tbl := List.mem_of_getElem? (i := 60) rfl
set_option maxRecDepth 20000 in
theorem m_81 : (Jvm.Cond.methodLink "TapOffice$Card" (23 : Nat) ({ cls := "java/lang/System", name := "arraycopy", desc := "(Ljava/lang/Object;ILjava/lang/Object;II)V" } : Jvm.MethodName)) ∈ lw_tbl := List.mem_of_getElem? (i := 81) rfl
set_option maxRecDepth 20000 in
theorem m_82 : (Jvm.Cond.static ({ cls := "java/lang/System", name := "arraycopy", desc := "(Ljava/lang/Object;ILjava/lang/Object;II)V" } : Jvm.MethodName)) ∈ lw_tbl := List.mem_of_getElem? (i := 82) rfl
set_option maxRecDepth 20000 in
theorem m_83 : (Jvm.Cond.native ({ cls := "java/lang/System", name := "arraycopy", desc := "(Ljava/lang/Object;ILjava/lang/Object;II)V" } : Jvm.MethodName)) ∈ lw_tbl := List.mem_of_getElem? (i := 83) rfl
set_option maxRecDepth 20000 in
theorem m_84 : (Jvm.Cond.fieldLink "TapOffice$Card" (11 : Nat) "TapOffice$Card" "copies" "[[I") ∈ lw_tbl := List.mem_of_getElem? (i := 84) rfl
set_option maxRecDepth 20000 in
theorem m_85 : (Jvm.Cond.fieldLink "TapOffice$Card" (16 : Nat) "TapOffice$Card" "draft" "[I") ∈ lw_tbl := List.mem_of_getElem? (i := 85) rfl
set_option maxRecDepth 20000 in
theorem m_96 : (Jvm.Cond.fieldLink "TapOffice$Account" (9 : Nat) "TapOffice$Account" "has" "[Z") ∈ lw_tbl := List.mem_of_getElem? (i := 96) rfl
set_option maxRecDepth 20000 in
theorem m_97 : (Jvm.Cond.fieldLink "TapOffice$Account" (15 : Nat) "TapOffice$Account" "before" "[I") ∈ lw_tbl := List.mem_of_getElem? (i := 97) rfl
set_option maxRecDepth 20000 in
theorem m_98 : (Jvm.Cond.fieldLink "TapOffice$Account" (19 : Nat) "TapOffice$Account" "after" "[I") ∈ lw_tbl := List.mem_of_getElem? (i := 98) rfl
set_option maxRecDepth 20000 in
theorem m_99 : (Jvm.Cond.fieldLink "TapOffice$Account" (22 : Nat) "TapOffice$Account" "entries" "I") ∈ lw_tbl := List.mem_of_getElem? (i := 99) rfl
set_option maxRecDepth 20000 in
theorem m_100 : (Jvm.Cond.fieldLink "TapOffice$Account" (26 : Nat) "TapOffice$Account" "greatest" "I") ∈ lw_tbl := List.mem_of_getElem? (i := 100) rfl
set_option maxRecDepth 20000 in
theorem m_101 : (Jvm.Cond.fieldLink "TapOffice$Account" (29 : Nat) "TapOffice$Account" "charges" "I") ∈ lw_tbl := List.mem_of_getElem? (i := 101) rfl
set_option maxRecDepth 20000 in
theorem m_102 : (Jvm.Cond.fieldLink "TapOffice$Account" (32 : Nat) "TapOffice$Account" "topUps" "I") ∈ lw_tbl := List.mem_of_getElem? (i := 102) rfl
set_option maxRecDepth 20000 in
theorem m_125 : (Jvm.Cond.fieldLink "TapOffice$Validator" (11 : Nat) "TapOffice$Validator" "log" "[[I") ∈ lw_tbl := List.mem_of_getElem? (i := 125) rfl
set_option maxRecDepth 20000 in
theorem m_126 : (Jvm.Cond.fieldLink "TapOffice$Validator" (27 : Nat) "TapOffice$Validator" "size" "I") ∈ lw_tbl := List.mem_of_getElem? (i := 126) rfl
set_option maxRecDepth 20000 in
theorem m_127 : (Jvm.Cond.fieldLink "TapOffice$Validator" (16 : Nat) "TapOffice$Validator" "zone" "I") ∈ lw_tbl := List.mem_of_getElem? (i := 127) rfl
set_option maxRecDepth 20000 in
theorem m_128 : (Jvm.Cond.fieldLink "TapOffice$Validator" (20 : Nat) "TapOffice$Validator" "exit" "Z") ∈ lw_tbl := List.mem_of_getElem? (i := 128) rfl
set_option maxRecDepth 20000 in
theorem m_129 : (Jvm.Cond.fieldLink "TapOffice$Validator" (24 : Nat) "TapOffice$Validator" "denied" "I") ∈ lw_tbl := List.mem_of_getElem? (i := 129) rfl
set_option maxRecDepth 20000 in
theorem m_141 : (Jvm.Cond.fieldLink "TapOffice" (10 : Nat) "TapOffice" "tariff" "LTapOffice$Tariff;") ∈ lw_tbl := List.mem_of_getElem? (i := 141) rfl
set_option maxRecDepth 20000 in
theorem m_142 : (Jvm.Cond.fieldLink "TapOffice" (18 : Nat) "TapOffice" "cards" "[LTapOffice$Card;") ∈ lw_tbl := List.mem_of_getElem? (i := 142) rfl
set_option maxRecDepth 20000 in
theorem m_143 : (Jvm.Cond.fieldLink "TapOffice" (24 : Nat) "TapOffice" "accounts" "[LTapOffice$Account;") ∈ lw_tbl := List.mem_of_getElem? (i := 143) rfl
set_option maxRecDepth 20000 in
theorem m_144 : (Jvm.Cond.fieldLink "TapOffice" (30 : Nat) "TapOffice" "validators" "[LTapOffice$Validator;") ∈ lw_tbl := List.mem_of_getElem? (i := 144) rfl
set_option maxRecDepth 20000 in
theorem m_145 : (Jvm.Cond.fieldLink "TapOffice" (34 : Nat) "TapOffice" "incomes" "[I") ∈ lw_tbl := List.mem_of_getElem? (i := 145) rfl
set_option maxRecDepth 20000 in
theorem m_146 : (Jvm.Cond.fieldLink "TapOffice" (62 : Nat) "TapOffice" "now" "I") ∈ lw_tbl := List.mem_of_getElem? (i := 146) rfl
set_option maxRecDepth 20000 in
theorem m_147 : (Jvm.Cond.fieldLink "TapOffice" (117 : Nat) "TapOffice" "deniedCards" "I") ∈ lw_tbl := List.mem_of_getElem? (i := 147) rfl
set_option maxRecDepth 20000 in
theorem m_148 : (Jvm.Cond.fieldLink "TapOffice" (92 : Nat) "TapOffice" "tornTaps" "I") ∈ lw_tbl := List.mem_of_getElem? (i := 148) rfl
set_option maxRecDepth 20000 in
theorem m_170 : (Jvm.Cond.methodLink "TapOffice" (43 : Nat) ({ cls := "TapOffice", name := "isBelow", desc := "(II)Z" } : Jvm.MethodName)) ∈ lw_tbl := List.mem_of_getElem? (i := 170) rfl
set_option maxRecDepth 20000 in
theorem m_171 : (Jvm.Cond.static ({ cls := "TapOffice", name := "isBelow", desc := "(II)Z" } : Jvm.MethodName)) ∈ lw_tbl := List.mem_of_getElem? (i := 171) rfl
set_option maxRecDepth 20000 in
theorem m_172 : (Jvm.Cond.code ({ cls := "TapOffice", name := "isBelow", desc := "(II)Z" } : Jvm.MethodName) prog_1_method_16_code (2 : Nat) (Option.some Jvm.ClassFile.FieldType.boolean)) ∈ lw_tbl := List.mem_of_getElem? (i := 172) rfl
set_option maxRecDepth 20000 in
theorem m_173 : (Jvm.Cond.methodLink "TapOffice" (47 : Nat) ({ cls := "TapOffice$Tariff", name := "putFare", desc := "(III)V" } : Jvm.MethodName)) ∈ lw_tbl := List.mem_of_getElem? (i := 173) rfl
set_option maxRecDepth 20000 in
theorem m_174 : (Jvm.Cond.instanceMethod ({ cls := "TapOffice$Tariff", name := "putFare", desc := "(III)V" } : Jvm.MethodName)) ∈ lw_tbl := List.mem_of_getElem? (i := 174) rfl
set_option maxRecDepth 20000 in
theorem m_175 : (Jvm.Cond.selects "TapOffice$Tariff" ({ cls := "TapOffice$Tariff", name := "putFare", desc := "(III)V" } : Jvm.MethodName) ({ cls := "TapOffice$Tariff", name := "putFare", desc := "(III)V" } : Jvm.MethodName)) ∈ lw_tbl := List.mem_of_getElem? (i := 175) rfl
set_option maxRecDepth 20000 in
theorem m_176 : (Jvm.Cond.code ({ cls := "TapOffice$Tariff", name := "putFare", desc := "(III)V" } : Jvm.MethodName) prog_4_method_2_code (4 : Nat) (Option.none : Option Jvm.ClassFile.FieldType)) ∈ lw_tbl := List.mem_of_getElem? (i := 176) rfl
set_option maxRecDepth 20000 in
theorem m_181 : (Jvm.Cond.fieldLink "TapOffice" (51 : Nat) "TapOffice" "MOST_SETTINGS" "[I") ∈ lw_tbl := List.mem_of_getElem? (i := 181) rfl
set_option maxRecDepth 20000 in
theorem m_183 : (Jvm.Cond.methodLink "TapOffice" (54 : Nat) ({ cls := "TapOffice$Tariff", name := "putSetting", desc := "(II)V" } : Jvm.MethodName)) ∈ lw_tbl := List.mem_of_getElem? (i := 183) rfl
set_option maxRecDepth 20000 in
theorem m_184 : (Jvm.Cond.instanceMethod ({ cls := "TapOffice$Tariff", name := "putSetting", desc := "(II)V" } : Jvm.MethodName)) ∈ lw_tbl := List.mem_of_getElem? (i := 184) rfl
set_option maxRecDepth 20000 in
theorem m_185 : (Jvm.Cond.selects "TapOffice$Tariff" ({ cls := "TapOffice$Tariff", name := "putSetting", desc := "(II)V" } : Jvm.MethodName) ({ cls := "TapOffice$Tariff", name := "putSetting", desc := "(II)V" } : Jvm.MethodName)) ∈ lw_tbl := List.mem_of_getElem? (i := 185) rfl
set_option maxRecDepth 20000 in
theorem m_186 : (Jvm.Cond.code ({ cls := "TapOffice$Tariff", name := "putSetting", desc := "(II)V" } : Jvm.MethodName) prog_4_method_3_code (3 : Nat) (Option.none : Option Jvm.ClassFile.FieldType)) ∈ lw_tbl := List.mem_of_getElem? (i := 186) rfl
set_option maxRecDepth 20000 in
theorem m_191 : (Jvm.Cond.methodLink "TapOffice" (58 : Nat) ({ cls := "TapOffice$Validator", name := "moveTo", desc := "(IZ)V" } : Jvm.MethodName)) ∈ lw_tbl := List.mem_of_getElem? (i := 191) rfl
set_option maxRecDepth 20000 in
theorem m_192 : (Jvm.Cond.instanceMethod ({ cls := "TapOffice$Validator", name := "moveTo", desc := "(IZ)V" } : Jvm.MethodName)) ∈ lw_tbl := List.mem_of_getElem? (i := 192) rfl
set_option maxRecDepth 20000 in
theorem m_193 : (Jvm.Cond.selects "TapOffice$Validator" ({ cls := "TapOffice$Validator", name := "moveTo", desc := "(IZ)V" } : Jvm.MethodName) ({ cls := "TapOffice$Validator", name := "moveTo", desc := "(IZ)V" } : Jvm.MethodName)) ∈ lw_tbl := List.mem_of_getElem? (i := 193) rfl
set_option maxRecDepth 20000 in
theorem m_194 : (Jvm.Cond.code ({ cls := "TapOffice$Validator", name := "moveTo", desc := "(IZ)V" } : Jvm.MethodName) prog_5_method_2_code (3 : Nat) (Option.none : Option Jvm.ClassFile.FieldType)) ∈ lw_tbl := List.mem_of_getElem? (i := 194) rfl
set_option maxRecDepth 20000 in
theorem m_203 : (Jvm.Cond.methodLink "TapOffice" (66 : Nat) ({ cls := "TapOffice$Validator", name := "isFull", desc := "()Z" } : Jvm.MethodName)) ∈ lw_tbl := List.mem_of_getElem? (i := 203) rfl
set_option maxRecDepth 20000 in
theorem m_204 : (Jvm.Cond.instanceMethod ({ cls := "TapOffice$Validator", name := "isFull", desc := "()Z" } : Jvm.MethodName)) ∈ lw_tbl := List.mem_of_getElem? (i := 204) rfl
set_option maxRecDepth 20000 in
theorem m_205 : (Jvm.Cond.selects "TapOffice$Validator" ({ cls := "TapOffice$Validator", name := "isFull", desc := "()Z" } : Jvm.MethodName) ({ cls := "TapOffice$Validator", name := "isFull", desc := "()Z" } : Jvm.MethodName)) ∈ lw_tbl := List.mem_of_getElem? (i := 205) rfl
set_option maxRecDepth 20000 in
theorem m_206 : (Jvm.Cond.code ({ cls := "TapOffice$Validator", name := "isFull", desc := "()Z" } : Jvm.MethodName) prog_5_method_7_code (1 : Nat) (Option.some Jvm.ClassFile.FieldType.boolean)) ∈ lw_tbl := List.mem_of_getElem? (i := 206) rfl
set_option maxRecDepth 20000 in
theorem m_207 : (Jvm.Cond.methodLink "TapOffice" (70 : Nat) ({ cls := "TapOffice$Validator", name := "denies", desc := "(I)Z" } : Jvm.MethodName)) ∈ lw_tbl := List.mem_of_getElem? (i := 207) rfl
set_option maxRecDepth 20000 in
theorem m_208 : (Jvm.Cond.instanceMethod ({ cls := "TapOffice$Validator", name := "denies", desc := "(I)Z" } : Jvm.MethodName)) ∈ lw_tbl := List.mem_of_getElem? (i := 208) rfl
set_option maxRecDepth 20000 in
theorem m_209 : (Jvm.Cond.selects "TapOffice$Validator" ({ cls := "TapOffice$Validator", name := "denies", desc := "(I)Z" } : Jvm.MethodName) ({ cls := "TapOffice$Validator", name := "denies", desc := "(I)Z" } : Jvm.MethodName)) ∈ lw_tbl := List.mem_of_getElem? (i := 209) rfl
set_option maxRecDepth 20000 in
theorem m_210 : (Jvm.Cond.code ({ cls := "TapOffice$Validator", name := "denies", desc := "(I)Z" } : Jvm.MethodName) prog_5_method_5_code (2 : Nat) (Option.some Jvm.ClassFile.FieldType.boolean)) ∈ lw_tbl := List.mem_of_getElem? (i := 210) rfl
set_option maxRecDepth 20000 in
theorem m_211 : (Jvm.Cond.methodLink "TapOffice" (74 : Nat) ({ cls := "TapOffice$Validator", name := "isExit", desc := "()Z" } : Jvm.MethodName)) ∈ lw_tbl := List.mem_of_getElem? (i := 211) rfl
set_option maxRecDepth 20000 in
theorem m_212 : (Jvm.Cond.instanceMethod ({ cls := "TapOffice$Validator", name := "isExit", desc := "()Z" } : Jvm.MethodName)) ∈ lw_tbl := List.mem_of_getElem? (i := 212) rfl
set_option maxRecDepth 20000 in
theorem m_213 : (Jvm.Cond.selects "TapOffice$Validator" ({ cls := "TapOffice$Validator", name := "isExit", desc := "()Z" } : Jvm.MethodName) ({ cls := "TapOffice$Validator", name := "isExit", desc := "()Z" } : Jvm.MethodName)) ∈ lw_tbl := List.mem_of_getElem? (i := 213) rfl
set_option maxRecDepth 20000 in
theorem m_214 : (Jvm.Cond.code ({ cls := "TapOffice$Validator", name := "isExit", desc := "()Z" } : Jvm.MethodName) prog_5_method_4_code (1 : Nat) (Option.some Jvm.ClassFile.FieldType.boolean)) ∈ lw_tbl := List.mem_of_getElem? (i := 214) rfl
set_option maxRecDepth 20000 in
theorem m_215 : (Jvm.Cond.methodLink "TapOffice" (77 : Nat) ({ cls := "TapOffice$Card", name := "read", desc := "(I)I" } : Jvm.MethodName)) ∈ lw_tbl := List.mem_of_getElem? (i := 215) rfl
set_option maxRecDepth 20000 in
theorem m_216 : (Jvm.Cond.instanceMethod ({ cls := "TapOffice$Card", name := "read", desc := "(I)I" } : Jvm.MethodName)) ∈ lw_tbl := List.mem_of_getElem? (i := 216) rfl
set_option maxRecDepth 20000 in
theorem m_217 : (Jvm.Cond.selects "TapOffice$Card" ({ cls := "TapOffice$Card", name := "read", desc := "(I)I" } : Jvm.MethodName) ({ cls := "TapOffice$Card", name := "read", desc := "(I)I" } : Jvm.MethodName)) ∈ lw_tbl := List.mem_of_getElem? (i := 217) rfl
set_option maxRecDepth 20000 in
theorem m_218 : (Jvm.Cond.code ({ cls := "TapOffice$Card", name := "read", desc := "(I)I" } : Jvm.MethodName) prog_3_method_3_code (2 : Nat) (Option.some Jvm.ClassFile.FieldType.int)) ∈ lw_tbl := List.mem_of_getElem? (i := 218) rfl
set_option maxRecDepth 20000 in
theorem m_219 : (Jvm.Cond.methodLink "TapOffice$Card" (29 : Nat) ({ cls := "TapOffice$Card", name := "recordCopy", desc := "()I" } : Jvm.MethodName)) ∈ lw_tbl := List.mem_of_getElem? (i := 219) rfl
set_option maxRecDepth 20000 in
theorem m_221 : (Jvm.Cond.instanceMethod ({ cls := "TapOffice$Card", name := "recordCopy", desc := "()I" } : Jvm.MethodName)) ∈ lw_tbl := List.mem_of_getElem? (i := 221) rfl
set_option maxRecDepth 20000 in
theorem m_222 : (Jvm.Cond.code ({ cls := "TapOffice$Card", name := "recordCopy", desc := "()I" } : Jvm.MethodName) prog_3_method_9_code (1 : Nat) (Option.some Jvm.ClassFile.FieldType.int)) ∈ lw_tbl := List.mem_of_getElem? (i := 222) rfl
set_option maxRecDepth 20000 in
theorem m_223 : (Jvm.Cond.methodLink "TapOffice" (81 : Nat) ({ cls := "TapOffice$Tariff", name := "least", desc := "()I" } : Jvm.MethodName)) ∈ lw_tbl := List.mem_of_getElem? (i := 223) rfl
set_option maxRecDepth 20000 in
theorem m_224 : (Jvm.Cond.instanceMethod ({ cls := "TapOffice$Tariff", name := "least", desc := "()I" } : Jvm.MethodName)) ∈ lw_tbl := List.mem_of_getElem? (i := 224) rfl
set_option maxRecDepth 20000 in
theorem m_225 : (Jvm.Cond.selects "TapOffice$Tariff" ({ cls := "TapOffice$Tariff", name := "least", desc := "()I" } : Jvm.MethodName) ({ cls := "TapOffice$Tariff", name := "least", desc := "()I" } : Jvm.MethodName)) ∈ lw_tbl := List.mem_of_getElem? (i := 225) rfl
set_option maxRecDepth 20000 in
theorem m_226 : (Jvm.Cond.code ({ cls := "TapOffice$Tariff", name := "least", desc := "()I" } : Jvm.MethodName) prog_4_method_4_code (1 : Nat) (Option.some Jvm.ClassFile.FieldType.int)) ∈ lw_tbl := List.mem_of_getElem? (i := 226) rfl
set_option maxRecDepth 20000 in
theorem m_227 : (Jvm.Cond.methodLink "TapOffice" (85 : Nat) ({ cls := "TapOffice$Card", name := "draftTap", desc := "(LTapOffice$Validator;ILTapOffice$Tariff;)I" } : Jvm.MethodName)) ∈ lw_tbl := List.mem_of_getElem? (i := 227) rfl
set_option maxRecDepth 20000 in
theorem m_228 : (Jvm.Cond.instanceMethod ({ cls := "TapOffice$Card", name := "draftTap", desc := "(LTapOffice$Validator;ILTapOffice$Tariff;)I" } : Jvm.MethodName)) ∈ lw_tbl := List.mem_of_getElem? (i := 228) rfl
set_option maxRecDepth 20000 in
theorem m_229 : (Jvm.Cond.selects "TapOffice$Card" ({ cls := "TapOffice$Card", name := "draftTap", desc := "(LTapOffice$Validator;ILTapOffice$Tariff;)I" } : Jvm.MethodName) ({ cls := "TapOffice$Card", name := "draftTap", desc := "(LTapOffice$Validator;ILTapOffice$Tariff;)I" } : Jvm.MethodName)) ∈ lw_tbl := List.mem_of_getElem? (i := 229) rfl
set_option maxRecDepth 20000 in
theorem m_230 : (Jvm.Cond.code ({ cls := "TapOffice$Card", name := "draftTap", desc := "(LTapOffice$Validator;ILTapOffice$Tariff;)I" } : Jvm.MethodName) prog_3_method_7_code (5 : Nat) (Option.some Jvm.ClassFile.FieldType.int)) ∈ lw_tbl := List.mem_of_getElem? (i := 230) rfl
set_option maxRecDepth 20000 in
theorem m_231 : (Jvm.Cond.methodLink "TapOffice$Card" (37 : Nat) ({ cls := "TapOffice$Card", name := "startDraft", desc := "(I)V" } : Jvm.MethodName)) ∈ lw_tbl := List.mem_of_getElem? (i := 231) rfl
set_option maxRecDepth 20000 in
theorem m_233 : (Jvm.Cond.instanceMethod ({ cls := "TapOffice$Card", name := "startDraft", desc := "(I)V" } : Jvm.MethodName)) ∈ lw_tbl := List.mem_of_getElem? (i := 233) rfl
set_option maxRecDepth 20000 in
theorem m_234 : (Jvm.Cond.code ({ cls := "TapOffice$Card", name := "startDraft", desc := "(I)V" } : Jvm.MethodName) prog_3_method_10_code (3 : Nat) (Option.none : Option Jvm.ClassFile.FieldType)) ∈ lw_tbl := List.mem_of_getElem? (i := 234) rfl
set_option maxRecDepth 20000 in
theorem m_235 : (Jvm.Cond.methodLink "TapOffice$Card" (57 : Nat) ({ cls := "TapOffice$Card", name := "spentOn", desc := "(I)I" } : Jvm.MethodName)) ∈ lw_tbl := List.mem_of_getElem? (i := 235) rfl
set_option maxRecDepth 20000 in
theorem m_236 : (Jvm.Cond.instanceMethod ({ cls := "TapOffice$Card", name := "spentOn", desc := "(I)I" } : Jvm.MethodName)) ∈ lw_tbl := List.mem_of_getElem? (i := 236) rfl
set_option maxRecDepth 20000 in
theorem m_237 : (Jvm.Cond.selects "TapOffice$Card" ({ cls := "TapOffice$Card", name := "spentOn", desc := "(I)I" } : Jvm.MethodName) ({ cls := "TapOffice$Card", name := "spentOn", desc := "(I)I" } : Jvm.MethodName)) ∈ lw_tbl := List.mem_of_getElem? (i := 237) rfl
set_option maxRecDepth 20000 in
theorem m_238 : (Jvm.Cond.code ({ cls := "TapOffice$Card", name := "spentOn", desc := "(I)I" } : Jvm.MethodName) prog_3_method_5_code (2 : Nat) (Option.some Jvm.ClassFile.FieldType.int)) ∈ lw_tbl := List.mem_of_getElem? (i := 238) rfl
set_option maxRecDepth 20000 in
theorem m_239 : (Jvm.Cond.methodLink "TapOffice$Card" (33 : Nat) ({ cls := "TapOffice$Card", name := "read", desc := "(I)I" } : Jvm.MethodName)) ∈ lw_tbl := List.mem_of_getElem? (i := 239) rfl
set_option maxRecDepth 20000 in
theorem m_240 : (Jvm.Cond.methodLink "TapOffice$Card" (60 : Nat) ({ cls := "TapOffice$Card", name := "counter", desc := "()I" } : Jvm.MethodName)) ∈ lw_tbl := List.mem_of_getElem? (i := 240) rfl
set_option maxRecDepth 20000 in
theorem m_241 : (Jvm.Cond.instanceMethod ({ cls := "TapOffice$Card", name := "counter", desc := "()I" } : Jvm.MethodName)) ∈ lw_tbl := List.mem_of_getElem? (i := 241) rfl
set_option maxRecDepth 20000 in
theorem m_242 : (Jvm.Cond.selects "TapOffice$Card" ({ cls := "TapOffice$Card", name := "counter", desc := "()I" } : Jvm.MethodName) ({ cls := "TapOffice$Card", name := "counter", desc := "()I" } : Jvm.MethodName)) ∈ lw_tbl := List.mem_of_getElem? (i := 242) rfl
set_option maxRecDepth 20000 in
theorem m_243 : (Jvm.Cond.code ({ cls := "TapOffice$Card", name := "counter", desc := "()I" } : Jvm.MethodName) prog_3_method_4_code (1 : Nat) (Option.some Jvm.ClassFile.FieldType.int)) ∈ lw_tbl := List.mem_of_getElem? (i := 243) rfl
set_option maxRecDepth 20000 in
theorem m_244 : (Jvm.Cond.methodLink "TapOffice$Card" (41 : Nat) ({ cls := "TapOffice$Validator", name := "isExit", desc := "()Z" } : Jvm.MethodName)) ∈ lw_tbl := List.mem_of_getElem? (i := 244) rfl
set_option maxRecDepth 20000 in
theorem m_245 : (Jvm.Cond.methodLink "TapOffice$Card" (47 : Nat) ({ cls := "TapOffice$Validator", name := "zone", desc := "()I" } : Jvm.MethodName)) ∈ lw_tbl := List.mem_of_getElem? (i := 245) rfl
set_option maxRecDepth 20000 in
theorem m_246 : (Jvm.Cond.instanceMethod ({ cls := "TapOffice$Validator", name := "zone", desc := "()I" } : Jvm.MethodName)) ∈ lw_tbl := List.mem_of_getElem? (i := 246) rfl
set_option maxRecDepth 20000 in
theorem m_247 : (Jvm.Cond.selects "TapOffice$Validator" ({ cls := "TapOffice$Validator", name := "zone", desc := "()I" } : Jvm.MethodName) ({ cls := "TapOffice$Validator", name := "zone", desc := "()I" } : Jvm.MethodName)) ∈ lw_tbl := List.mem_of_getElem? (i := 247) rfl
set_option maxRecDepth 20000 in
theorem m_248 : (Jvm.Cond.code ({ cls := "TapOffice$Validator", name := "zone", desc := "()I" } : Jvm.MethodName) prog_5_method_3_code (1 : Nat) (Option.some Jvm.ClassFile.FieldType.int)) ∈ lw_tbl := List.mem_of_getElem? (i := 248) rfl
set_option maxRecDepth 20000 in
theorem m_249 : (Jvm.Cond.methodLink "TapOffice$Card" (50 : Nat) ({ cls := "TapOffice$Card", name := "draftExit", desc := "(IILTapOffice$Tariff;)I" } : Jvm.MethodName)) ∈ lw_tbl := List.mem_of_getElem? (i := 249) rfl
set_option maxRecDepth 20000 in
theorem m_251 : (Jvm.Cond.instanceMethod ({ cls := "TapOffice$Card", name := "draftExit", desc := "(IILTapOffice$Tariff;)I" } : Jvm.MethodName)) ∈ lw_tbl := List.mem_of_getElem? (i := 251) rfl
set_option maxRecDepth 20000 in
theorem m_252 : (Jvm.Cond.code ({ cls := "TapOffice$Card", name := "draftExit", desc := "(IILTapOffice$Tariff;)I" } : Jvm.MethodName) prog_3_method_12_code (7 : Nat) (Option.some Jvm.ClassFile.FieldType.int)) ∈ lw_tbl := List.mem_of_getElem? (i := 252) rfl
set_option maxRecDepth 20000 in
theorem m_253 : (Jvm.Cond.methodLink "TapOffice$Card" (72 : Nat) ({ cls := "TapOffice$Tariff", name := "priceBetween", desc := "(III)I" } : Jvm.MethodName)) ∈ lw_tbl := List.mem_of_getElem? (i := 253) rfl
set_option maxRecDepth 20000 in
theorem m_254 : (Jvm.Cond.instanceMethod ({ cls := "TapOffice$Tariff", name := "priceBetween", desc := "(III)I" } : Jvm.MethodName)) ∈ lw_tbl := List.mem_of_getElem? (i := 254) rfl
set_option maxRecDepth 20000 in
theorem m_255 : (Jvm.Cond.selects "TapOffice$Tariff" ({ cls := "TapOffice$Tariff", name := "priceBetween", desc := "(III)I" } : Jvm.MethodName) ({ cls := "TapOffice$Tariff", name := "priceBetween", desc := "(III)I" } : Jvm.MethodName)) ∈ lw_tbl := List.mem_of_getElem? (i := 255) rfl
set_option maxRecDepth 20000 in
theorem m_256 : (Jvm.Cond.code ({ cls := "TapOffice$Tariff", name := "priceBetween", desc := "(III)I" } : Jvm.MethodName) prog_4_method_5_code (4 : Nat) (Option.some Jvm.ClassFile.FieldType.int)) ∈ lw_tbl := List.mem_of_getElem? (i := 256) rfl
set_option maxRecDepth 20000 in
theorem m_258 : (Jvm.Cond.methodLink "TapOffice$Tariff" (32 : Nat) ({ cls := "TapOffice$Tariff", name := "price", desc := "(II)I" } : Jvm.MethodName)) ∈ lw_tbl := List.mem_of_getElem? (i := 258) rfl
set_option maxRecDepth 20000 in
theorem m_260 : (Jvm.Cond.instanceMethod ({ cls := "TapOffice$Tariff", name := "price", desc := "(II)I" } : Jvm.MethodName)) ∈ lw_tbl := List.mem_of_getElem? (i := 260) rfl
set_option maxRecDepth 20000 in
theorem m_261 : (Jvm.Cond.code ({ cls := "TapOffice$Tariff", name := "price", desc := "(II)I" } : Jvm.MethodName) prog_4_method_8_code (5 : Nat) (Option.some Jvm.ClassFile.FieldType.int)) ∈ lw_tbl := List.mem_of_getElem? (i := 261) rfl
set_option maxRecDepth 20000 in
theorem m_262 : (Jvm.Cond.methodLink "TapOffice$Card" (76 : Nat) ({ cls := "TapOffice$Card", name := "priceOutOfTime", desc := "(IILTapOffice$Tariff;)I" } : Jvm.MethodName)) ∈ lw_tbl := List.mem_of_getElem? (i := 262) rfl
set_option maxRecDepth 20000 in
theorem m_264 : (Jvm.Cond.instanceMethod ({ cls := "TapOffice$Card", name := "priceOutOfTime", desc := "(IILTapOffice$Tariff;)I" } : Jvm.MethodName)) ∈ lw_tbl := List.mem_of_getElem? (i := 264) rfl
set_option maxRecDepth 20000 in
theorem m_265 : (Jvm.Cond.code ({ cls := "TapOffice$Card", name := "priceOutOfTime", desc := "(IILTapOffice$Tariff;)I" } : Jvm.MethodName) prog_3_method_13_code (4 : Nat) (Option.some Jvm.ClassFile.FieldType.int)) ∈ lw_tbl := List.mem_of_getElem? (i := 265) rfl
set_option maxRecDepth 20000 in
theorem m_266 : (Jvm.Cond.methodLink "TapOffice$Card" (63 : Nat) ({ cls := "TapOffice$Tariff", name := "fullPrice", desc := "(II)I" } : Jvm.MethodName)) ∈ lw_tbl := List.mem_of_getElem? (i := 266) rfl
set_option maxRecDepth 20000 in
theorem m_267 : (Jvm.Cond.instanceMethod ({ cls := "TapOffice$Tariff", name := "fullPrice", desc := "(II)I" } : Jvm.MethodName)) ∈ lw_tbl := List.mem_of_getElem? (i := 267) rfl
set_option maxRecDepth 20000 in
theorem m_268 : (Jvm.Cond.selects "TapOffice$Tariff" ({ cls := "TapOffice$Tariff", name := "fullPrice", desc := "(II)I" } : Jvm.MethodName) ({ cls := "TapOffice$Tariff", name := "fullPrice", desc := "(II)I" } : Jvm.MethodName)) ∈ lw_tbl := List.mem_of_getElem? (i := 268) rfl
set_option maxRecDepth 20000 in
theorem m_269 : (Jvm.Cond.code ({ cls := "TapOffice$Tariff", name := "fullPrice", desc := "(II)I" } : Jvm.MethodName) prog_4_method_6_code (5 : Nat) (Option.some Jvm.ClassFile.FieldType.int)) ∈ lw_tbl := List.mem_of_getElem? (i := 269) rfl
set_option maxRecDepth 20000 in
theorem m_270 : (Jvm.Cond.methodLink "TapOffice$Tariff" (36 : Nat) ({ cls := "java/lang/Math", name := "max", desc := "(II)I" } : Jvm.MethodName)) ∈ lw_tbl := List.mem_of_getElem? (i := 270) rfl
set_option maxRecDepth 20000 in
theorem m_271 : (Jvm.Cond.static ({ cls := "java/lang/Math", name := "max", desc := "(II)I" } : Jvm.MethodName)) ∈ lw_tbl := List.mem_of_getElem? (i := 271) rfl
set_option maxRecDepth 20000 in
theorem m_272 : (Jvm.Cond.code ({ cls := "java/lang/Math", name := "max", desc := "(II)I" } : Jvm.MethodName) prog_10_method_65_code (2 : Nat) (Option.some Jvm.ClassFile.FieldType.int)) ∈ lw_tbl := List.mem_of_getElem? (i := 272) rfl
set_option maxRecDepth 20000 in
theorem m_273 : (Jvm.Cond.methodLink "TapOffice$Card" (69 : Nat) ({ cls := "TapOffice$Tariff", name := "capped", desc := "(II)I" } : Jvm.MethodName)) ∈ lw_tbl := List.mem_of_getElem? (i := 273) rfl
set_option maxRecDepth 20000 in
theorem m_274 : (Jvm.Cond.instanceMethod ({ cls := "TapOffice$Tariff", name := "capped", desc := "(II)I" } : Jvm.MethodName)) ∈ lw_tbl := List.mem_of_getElem? (i := 274) rfl
set_option maxRecDepth 20000 in
theorem m_275 : (Jvm.Cond.selects "TapOffice$Tariff" ({ cls := "TapOffice$Tariff", name := "capped", desc := "(II)I" } : Jvm.MethodName) ({ cls := "TapOffice$Tariff", name := "capped", desc := "(II)I" } : Jvm.MethodName)) ∈ lw_tbl := List.mem_of_getElem? (i := 275) rfl
set_option maxRecDepth 20000 in
theorem m_276 : (Jvm.Cond.code ({ cls := "TapOffice$Tariff", name := "capped", desc := "(II)I" } : Jvm.MethodName) prog_4_method_7_code (3 : Nat) (Option.some Jvm.ClassFile.FieldType.int)) ∈ lw_tbl := List.mem_of_getElem? (i := 276) rfl
set_option maxRecDepth 20000 in
theorem m_277 : (Jvm.Cond.methodLink "TapOffice$Tariff" (41 : Nat) ({ cls := "java/lang/Math", name := "min", desc := "(II)I" } : Jvm.MethodName)) ∈ lw_tbl := List.mem_of_getElem? (i := 277) rfl
set_option maxRecDepth 20000 in
theorem m_278 : (Jvm.Cond.static ({ cls := "java/lang/Math", name := "min", desc := "(II)I" } : Jvm.MethodName)) ∈ lw_tbl := List.mem_of_getElem? (i := 278) rfl
set_option maxRecDepth 20000 in
theorem m_279 : (Jvm.Cond.code ({ cls := "java/lang/Math", name := "min", desc := "(II)I" } : Jvm.MethodName) prog_10_method_69_code (2 : Nat) (Option.some Jvm.ClassFile.FieldType.int)) ∈ lw_tbl := List.mem_of_getElem? (i := 279) rfl
set_option maxRecDepth 20000 in
theorem m_280 : (Jvm.Cond.methodLink "TapOffice$Card" (54 : Nat) ({ cls := "TapOffice$Card", name := "draftEntry", desc := "(IILTapOffice$Tariff;)I" } : Jvm.MethodName)) ∈ lw_tbl := List.mem_of_getElem? (i := 280) rfl
set_option maxRecDepth 20000 in
theorem m_282 : (Jvm.Cond.instanceMethod ({ cls := "TapOffice$Card", name := "draftEntry", desc := "(IILTapOffice$Tariff;)I" } : Jvm.MethodName)) ∈ lw_tbl := List.mem_of_getElem? (i := 282) rfl
set_option maxRecDepth 20000 in
theorem m_283 : (Jvm.Cond.code ({ cls := "TapOffice$Card", name := "draftEntry", desc := "(IILTapOffice$Tariff;)I" } : Jvm.MethodName) prog_3_method_11_code (6 : Nat) (Option.some Jvm.ClassFile.FieldType.int)) ∈ lw_tbl := List.mem_of_getElem? (i := 283) rfl
set_option maxRecDepth 20000 in
theorem m_284 : (Jvm.Cond.methodLink "TapOffice" (89 : Nat) ({ cls := "TapOffice$Card", name := "writeDraft", desc := "(I)V" } : Jvm.MethodName)) ∈ lw_tbl := List.mem_of_getElem? (i := 284) rfl
set_option maxRecDepth 20000 in
theorem m_285 : (Jvm.Cond.instanceMethod ({ cls := "TapOffice$Card", name := "writeDraft", desc := "(I)V" } : Jvm.MethodName)) ∈ lw_tbl := List.mem_of_getElem? (i := 285) rfl
set_option maxRecDepth 20000 in
theorem m_286 : (Jvm.Cond.selects "TapOffice$Card" ({ cls := "TapOffice$Card", name := "writeDraft", desc := "(I)V" } : Jvm.MethodName) ({ cls := "TapOffice$Card", name := "writeDraft", desc := "(I)V" } : Jvm.MethodName)) ∈ lw_tbl := List.mem_of_getElem? (i := 286) rfl
set_option maxRecDepth 20000 in
theorem m_287 : (Jvm.Cond.code ({ cls := "TapOffice$Card", name := "writeDraft", desc := "(I)V" } : Jvm.MethodName) prog_3_method_8_code (4 : Nat) (Option.none : Option Jvm.ClassFile.FieldType)) ∈ lw_tbl := List.mem_of_getElem? (i := 287) rfl
set_option maxRecDepth 20000 in
theorem m_288 : (Jvm.Cond.methodLink "TapOffice" (95 : Nat) ({ cls := "TapOffice$Card", name := "counter", desc := "()I" } : Jvm.MethodName)) ∈ lw_tbl := List.mem_of_getElem? (i := 288) rfl
set_option maxRecDepth 20000 in
theorem m_289 : (Jvm.Cond.methodLink "TapOffice" (98 : Nat) ({ cls := "TapOffice$Validator", name := "keepEntry", desc := "(IIII)V" } : Jvm.MethodName)) ∈ lw_tbl := List.mem_of_getElem? (i := 289) rfl
set_option maxRecDepth 20000 in
theorem m_290 : (Jvm.Cond.instanceMethod ({ cls := "TapOffice$Validator", name := "keepEntry", desc := "(IIII)V" } : Jvm.MethodName)) ∈ lw_tbl := List.mem_of_getElem? (i := 290) rfl
set_option maxRecDepth 20000 in
theorem m_291 : (Jvm.Cond.selects "TapOffice$Validator" ({ cls := "TapOffice$Validator", name := "keepEntry", desc := "(IIII)V" } : Jvm.MethodName) ({ cls := "TapOffice$Validator", name := "keepEntry", desc := "(IIII)V" } : Jvm.MethodName)) ∈ lw_tbl := List.mem_of_getElem? (i := 291) rfl
set_option maxRecDepth 20000 in
theorem m_292 : (Jvm.Cond.code ({ cls := "TapOffice$Validator", name := "keepEntry", desc := "(IIII)V" } : Jvm.MethodName) prog_5_method_10_code (6 : Nat) (Option.none : Option Jvm.ClassFile.FieldType)) ∈ lw_tbl := List.mem_of_getElem? (i := 292) rfl
set_option maxRecDepth 20000 in
theorem m_293 : (Jvm.Cond.methodLink "TapOffice$Validator" (30 : Nat) ({ cls := "TapOffice$Validator", name := "isFull", desc := "()Z" } : Jvm.MethodName)) ∈ lw_tbl := List.mem_of_getElem? (i := 293) rfl
set_option maxRecDepth 20000 in
theorem m_298 : (Jvm.Cond.methodLink "TapOffice" (102 : Nat) ({ cls := "TapOffice$Card", name := "draftTopUp", desc := "(II)V" } : Jvm.MethodName)) ∈ lw_tbl := List.mem_of_getElem? (i := 298) rfl
set_option maxRecDepth 20000 in
theorem m_299 : (Jvm.Cond.instanceMethod ({ cls := "TapOffice$Card", name := "draftTopUp", desc := "(II)V" } : Jvm.MethodName)) ∈ lw_tbl := List.mem_of_getElem? (i := 299) rfl
set_option maxRecDepth 20000 in
theorem m_300 : (Jvm.Cond.selects "TapOffice$Card" ({ cls := "TapOffice$Card", name := "draftTopUp", desc := "(II)V" } : Jvm.MethodName) ({ cls := "TapOffice$Card", name := "draftTopUp", desc := "(II)V" } : Jvm.MethodName)) ∈ lw_tbl := List.mem_of_getElem? (i := 300) rfl
set_option maxRecDepth 20000 in
theorem m_301 : (Jvm.Cond.code ({ cls := "TapOffice$Card", name := "draftTopUp", desc := "(II)V" } : Jvm.MethodName) prog_3_method_6_code (3 : Nat) (Option.none : Option Jvm.ClassFile.FieldType)) ∈ lw_tbl := List.mem_of_getElem? (i := 301) rfl
set_option maxRecDepth 20000 in
theorem m_302 : (Jvm.Cond.methodLink "TapOffice" (105 : Nat) ({ cls := "TapOffice$Account", name := "enterTopUp", desc := "(III)V" } : Jvm.MethodName)) ∈ lw_tbl := List.mem_of_getElem? (i := 302) rfl
set_option maxRecDepth 20000 in
theorem m_303 : (Jvm.Cond.instanceMethod ({ cls := "TapOffice$Account", name := "enterTopUp", desc := "(III)V" } : Jvm.MethodName)) ∈ lw_tbl := List.mem_of_getElem? (i := 303) rfl
set_option maxRecDepth 20000 in
theorem m_304 : (Jvm.Cond.selects "TapOffice$Account" ({ cls := "TapOffice$Account", name := "enterTopUp", desc := "(III)V" } : Jvm.MethodName) ({ cls := "TapOffice$Account", name := "enterTopUp", desc := "(III)V" } : Jvm.MethodName)) ∈ lw_tbl := List.mem_of_getElem? (i := 304) rfl
set_option maxRecDepth 20000 in
theorem m_305 : (Jvm.Cond.code ({ cls := "TapOffice$Account", name := "enterTopUp", desc := "(III)V" } : Jvm.MethodName) prog_2_method_8_code (4 : Nat) (Option.none : Option Jvm.ClassFile.FieldType)) ∈ lw_tbl := List.mem_of_getElem? (i := 305) rfl
set_option maxRecDepth 20000 in
theorem m_306 : (Jvm.Cond.methodLink "TapOffice$Account" (35 : Nat) ({ cls := "TapOffice$Account", name := "enter", desc := "(III)Z" } : Jvm.MethodName)) ∈ lw_tbl := List.mem_of_getElem? (i := 306) rfl
set_option maxRecDepth 20000 in
theorem m_308 : (Jvm.Cond.instanceMethod ({ cls := "TapOffice$Account", name := "enter", desc := "(III)Z" } : Jvm.MethodName)) ∈ lw_tbl := List.mem_of_getElem? (i := 308) rfl
set_option maxRecDepth 20000 in
theorem m_309 : (Jvm.Cond.code ({ cls := "TapOffice$Account", name := "enter", desc := "(III)Z" } : Jvm.MethodName) prog_2_method_10_code (4 : Nat) (Option.some Jvm.ClassFile.FieldType.boolean)) ∈ lw_tbl := List.mem_of_getElem? (i := 309) rfl
set_option maxRecDepth 20000 in
theorem m_310 : (Jvm.Cond.methodLink "TapOffice$Account" (39 : Nat) ({ cls := "java/lang/Math", name := "max", desc := "(II)I" } : Jvm.MethodName)) ∈ lw_tbl := List.mem_of_getElem? (i := 310) rfl
set_option maxRecDepth 20000 in
theorem m_315 : (Jvm.Cond.methodLink "TapOffice" (108 : Nat) ({ cls := "TapOffice$Validator", name := "logSize", desc := "()I" } : Jvm.MethodName)) ∈ lw_tbl := List.mem_of_getElem? (i := 315) rfl
set_option maxRecDepth 20000 in
theorem m_316 : (Jvm.Cond.instanceMethod ({ cls := "TapOffice$Validator", name := "logSize", desc := "()I" } : Jvm.MethodName)) ∈ lw_tbl := List.mem_of_getElem? (i := 316) rfl
set_option maxRecDepth 20000 in
theorem m_317 : (Jvm.Cond.selects "TapOffice$Validator" ({ cls := "TapOffice$Validator", name := "logSize", desc := "()I" } : Jvm.MethodName) ({ cls := "TapOffice$Validator", name := "logSize", desc := "()I" } : Jvm.MethodName)) ∈ lw_tbl := List.mem_of_getElem? (i := 317) rfl
set_option maxRecDepth 20000 in
theorem m_318 : (Jvm.Cond.code ({ cls := "TapOffice$Validator", name := "logSize", desc := "()I" } : Jvm.MethodName) prog_5_method_8_code (1 : Nat) (Option.some Jvm.ClassFile.FieldType.int)) ∈ lw_tbl := List.mem_of_getElem? (i := 318) rfl
set_option maxRecDepth 20000 in
theorem m_319 : (Jvm.Cond.methodLink "TapOffice" (111 : Nat) ({ cls := "TapOffice", name := "receiveEntry", desc := "(II)V" } : Jvm.MethodName)) ∈ lw_tbl := List.mem_of_getElem? (i := 319) rfl
set_option maxRecDepth 20000 in
theorem m_321 : (Jvm.Cond.instanceMethod ({ cls := "TapOffice", name := "receiveEntry", desc := "(II)V" } : Jvm.MethodName)) ∈ lw_tbl := List.mem_of_getElem? (i := 321) rfl
set_option maxRecDepth 20000 in
theorem m_322 : (Jvm.Cond.code ({ cls := "TapOffice", name := "receiveEntry", desc := "(II)V" } : Jvm.MethodName) prog_1_method_17_code (6 : Nat) (Option.none : Option Jvm.ClassFile.FieldType)) ∈ lw_tbl := List.mem_of_getElem? (i := 322) rfl
set_option maxRecDepth 20000 in
theorem m_323 : (Jvm.Cond.methodLink "TapOffice" (130 : Nat) ({ cls := "TapOffice$Validator", name := "readEntry", desc := "(II)I" } : Jvm.MethodName)) ∈ lw_tbl := List.mem_of_getElem? (i := 323) rfl
set_option maxRecDepth 20000 in
theorem m_324 : (Jvm.Cond.instanceMethod ({ cls := "TapOffice$Validator", name := "readEntry", desc := "(II)I" } : Jvm.MethodName)) ∈ lw_tbl := List.mem_of_getElem? (i := 324) rfl
set_option maxRecDepth 20000 in
theorem m_325 : (Jvm.Cond.selects "TapOffice$Validator" ({ cls := "TapOffice$Validator", name := "readEntry", desc := "(II)I" } : Jvm.MethodName) ({ cls := "TapOffice$Validator", name := "readEntry", desc := "(II)I" } : Jvm.MethodName)) ∈ lw_tbl := List.mem_of_getElem? (i := 325) rfl
set_option maxRecDepth 20000 in
theorem m_326 : (Jvm.Cond.code ({ cls := "TapOffice$Validator", name := "readEntry", desc := "(II)I" } : Jvm.MethodName) prog_5_method_9_code (3 : Nat) (Option.some Jvm.ClassFile.FieldType.int)) ∈ lw_tbl := List.mem_of_getElem? (i := 326) rfl
set_option maxRecDepth 20000 in
theorem m_327 : (Jvm.Cond.methodLink "TapOffice" (159 : Nat) ({ cls := "TapOffice$Account", name := "enterCharge", desc := "(III)V" } : Jvm.MethodName)) ∈ lw_tbl := List.mem_of_getElem? (i := 327) rfl
set_option maxRecDepth 20000 in
theorem m_328 : (Jvm.Cond.instanceMethod ({ cls := "TapOffice$Account", name := "enterCharge", desc := "(III)V" } : Jvm.MethodName)) ∈ lw_tbl := List.mem_of_getElem? (i := 328) rfl
set_option maxRecDepth 20000 in
theorem m_329 : (Jvm.Cond.selects "TapOffice$Account" ({ cls := "TapOffice$Account", name := "enterCharge", desc := "(III)V" } : Jvm.MethodName) ({ cls := "TapOffice$Account", name := "enterCharge", desc := "(III)V" } : Jvm.MethodName)) ∈ lw_tbl := List.mem_of_getElem? (i := 329) rfl
set_option maxRecDepth 20000 in
theorem m_330 : (Jvm.Cond.code ({ cls := "TapOffice$Account", name := "enterCharge", desc := "(III)V" } : Jvm.MethodName) prog_2_method_7_code (4 : Nat) (Option.none : Option Jvm.ClassFile.FieldType)) ∈ lw_tbl := List.mem_of_getElem? (i := 330) rfl
set_option maxRecDepth 20000 in
theorem m_331 : (Jvm.Cond.methodLink "TapOffice" (114 : Nat) ({ cls := "TapOffice$Validator", name := "emptyLog", desc := "()V" } : Jvm.MethodName)) ∈ lw_tbl := List.mem_of_getElem? (i := 331) rfl
set_option maxRecDepth 20000 in
theorem m_332 : (Jvm.Cond.instanceMethod ({ cls := "TapOffice$Validator", name := "emptyLog", desc := "()V" } : Jvm.MethodName)) ∈ lw_tbl := List.mem_of_getElem? (i := 332) rfl
set_option maxRecDepth 20000 in
theorem m_333 : (Jvm.Cond.selects "TapOffice$Validator" ({ cls := "TapOffice$Validator", name := "emptyLog", desc := "()V" } : Jvm.MethodName) ({ cls := "TapOffice$Validator", name := "emptyLog", desc := "()V" } : Jvm.MethodName)) ∈ lw_tbl := List.mem_of_getElem? (i := 333) rfl
set_option maxRecDepth 20000 in
theorem m_334 : (Jvm.Cond.code ({ cls := "TapOffice$Validator", name := "emptyLog", desc := "()V" } : Jvm.MethodName) prog_5_method_11_code (1 : Nat) (Option.none : Option Jvm.ClassFile.FieldType)) ∈ lw_tbl := List.mem_of_getElem? (i := 334) rfl
set_option maxRecDepth 20000 in
theorem m_335 : (Jvm.Cond.methodLink "TapOffice" (120 : Nat) ({ cls := "TapOffice$Validator", name := "takeDenied", desc := "(I)V" } : Jvm.MethodName)) ∈ lw_tbl := List.mem_of_getElem? (i := 335) rfl
set_option maxRecDepth 20000 in
theorem m_336 : (Jvm.Cond.instanceMethod ({ cls := "TapOffice$Validator", name := "takeDenied", desc := "(I)V" } : Jvm.MethodName)) ∈ lw_tbl := List.mem_of_getElem? (i := 336) rfl
set_option maxRecDepth 20000 in
theorem m_337 : (Jvm.Cond.selects "TapOffice$Validator" ({ cls := "TapOffice$Validator", name := "takeDenied", desc := "(I)V" } : Jvm.MethodName) ({ cls := "TapOffice$Validator", name := "takeDenied", desc := "(I)V" } : Jvm.MethodName)) ∈ lw_tbl := List.mem_of_getElem? (i := 337) rfl
set_option maxRecDepth 20000 in
theorem m_338 : (Jvm.Cond.code ({ cls := "TapOffice$Validator", name := "takeDenied", desc := "(I)V" } : Jvm.MethodName) prog_5_method_6_code (2 : Nat) (Option.none : Option Jvm.ClassFile.FieldType)) ∈ lw_tbl := List.mem_of_getElem? (i := 338) rfl
set_option maxRecDepth 20000 in
theorem m_347 : (Jvm.Cond.methodLink "TapOffice" (123 : Nat) ({ cls := "TapOffice$Card", name := "readCopy", desc := "(II)I" } : Jvm.MethodName)) ∈ lw_tbl := List.mem_of_getElem? (i := 347) rfl
set_option maxRecDepth 20000 in
theorem m_348 : (Jvm.Cond.instanceMethod ({ cls := "TapOffice$Card", name := "readCopy", desc := "(II)I" } : Jvm.MethodName)) ∈ lw_tbl := List.mem_of_getElem? (i := 348) rfl
set_option maxRecDepth 20000 in
theorem m_349 : (Jvm.Cond.selects "TapOffice$Card" ({ cls := "TapOffice$Card", name := "readCopy", desc := "(II)I" } : Jvm.MethodName) ({ cls := "TapOffice$Card", name := "readCopy", desc := "(II)I" } : Jvm.MethodName)) ∈ lw_tbl := List.mem_of_getElem? (i := 349) rfl
set_option maxRecDepth 20000 in
theorem m_350 : (Jvm.Cond.code ({ cls := "TapOffice$Card", name := "readCopy", desc := "(II)I" } : Jvm.MethodName) prog_3_method_2_code (3 : Nat) (Option.some Jvm.ClassFile.FieldType.int)) ∈ lw_tbl := List.mem_of_getElem? (i := 350) rfl
set_option maxRecDepth 20000 in
theorem m_355 : (Jvm.Cond.methodLink "TapOffice" (127 : Nat) ({ cls := "TapOffice$Card", name := "spentOn", desc := "(I)I" } : Jvm.MethodName)) ∈ lw_tbl := List.mem_of_getElem? (i := 355) rfl
set_option maxRecDepth 20000 in
theorem m_364 : (Jvm.Cond.methodLink "TapOffice" (133 : Nat) ({ cls := "TapOffice$Account", name := "known", desc := "()I" } : Jvm.MethodName)) ∈ lw_tbl := List.mem_of_getElem? (i := 364) rfl
set_option maxRecDepth 20000 in
theorem m_365 : (Jvm.Cond.instanceMethod ({ cls := "TapOffice$Account", name := "known", desc := "()I" } : Jvm.MethodName)) ∈ lw_tbl := List.mem_of_getElem? (i := 365) rfl
set_option maxRecDepth 20000 in
theorem m_366 : (Jvm.Cond.selects "TapOffice$Account" ({ cls := "TapOffice$Account", name := "known", desc := "()I" } : Jvm.MethodName) ({ cls := "TapOffice$Account", name := "known", desc := "()I" } : Jvm.MethodName)) ∈ lw_tbl := List.mem_of_getElem? (i := 366) rfl
set_option maxRecDepth 20000 in
theorem m_367 : (Jvm.Cond.code ({ cls := "TapOffice$Account", name := "known", desc := "()I" } : Jvm.MethodName) prog_2_method_2_code (1 : Nat) (Option.some Jvm.ClassFile.FieldType.int)) ∈ lw_tbl := List.mem_of_getElem? (i := 367) rfl
set_option maxRecDepth 20000 in
theorem m_368 : (Jvm.Cond.methodLink "TapOffice" (136 : Nat) ({ cls := "TapOffice$Account", name := "greatestCounter", desc := "()I" } : Jvm.MethodName)) ∈ lw_tbl := List.mem_of_getElem? (i := 368) rfl
set_option maxRecDepth 20000 in
theorem m_369 : (Jvm.Cond.instanceMethod ({ cls := "TapOffice$Account", name := "greatestCounter", desc := "()I" } : Jvm.MethodName)) ∈ lw_tbl := List.mem_of_getElem? (i := 369) rfl
set_option maxRecDepth 20000 in
theorem m_370 : (Jvm.Cond.selects "TapOffice$Account" ({ cls := "TapOffice$Account", name := "greatestCounter", desc := "()I" } : Jvm.MethodName) ({ cls := "TapOffice$Account", name := "greatestCounter", desc := "()I" } : Jvm.MethodName)) ∈ lw_tbl := List.mem_of_getElem? (i := 370) rfl
set_option maxRecDepth 20000 in
theorem m_371 : (Jvm.Cond.code ({ cls := "TapOffice$Account", name := "greatestCounter", desc := "()I" } : Jvm.MethodName) prog_2_method_3_code (1 : Nat) (Option.some Jvm.ClassFile.FieldType.int)) ∈ lw_tbl := List.mem_of_getElem? (i := 371) rfl
set_option maxRecDepth 20000 in
theorem m_372 : (Jvm.Cond.methodLink "TapOffice" (139 : Nat) ({ cls := "TapOffice$Account", name := "missing", desc := "()I" } : Jvm.MethodName)) ∈ lw_tbl := List.mem_of_getElem? (i := 372) rfl
set_option maxRecDepth 20000 in
theorem m_373 : (Jvm.Cond.instanceMethod ({ cls := "TapOffice$Account", name := "missing", desc := "()I" } : Jvm.MethodName)) ∈ lw_tbl := List.mem_of_getElem? (i := 373) rfl
set_option maxRecDepth 20000 in
theorem m_374 : (Jvm.Cond.selects "TapOffice$Account" ({ cls := "TapOffice$Account", name := "missing", desc := "()I" } : Jvm.MethodName) ({ cls := "TapOffice$Account", name := "missing", desc := "()I" } : Jvm.MethodName)) ∈ lw_tbl := List.mem_of_getElem? (i := 374) rfl
set_option maxRecDepth 20000 in
theorem m_375 : (Jvm.Cond.code ({ cls := "TapOffice$Account", name := "missing", desc := "()I" } : Jvm.MethodName) prog_2_method_4_code (1 : Nat) (Option.some Jvm.ClassFile.FieldType.int)) ∈ lw_tbl := List.mem_of_getElem? (i := 375) rfl
set_option maxRecDepth 20000 in
theorem m_376 : (Jvm.Cond.methodLink "TapOffice" (142 : Nat) ({ cls := "TapOffice$Account", name := "lostMoney", desc := "()I" } : Jvm.MethodName)) ∈ lw_tbl := List.mem_of_getElem? (i := 376) rfl
set_option maxRecDepth 20000 in
theorem m_377 : (Jvm.Cond.instanceMethod ({ cls := "TapOffice$Account", name := "lostMoney", desc := "()I" } : Jvm.MethodName)) ∈ lw_tbl := List.mem_of_getElem? (i := 377) rfl
set_option maxRecDepth 20000 in
theorem m_378 : (Jvm.Cond.selects "TapOffice$Account" ({ cls := "TapOffice$Account", name := "lostMoney", desc := "()I" } : Jvm.MethodName) ({ cls := "TapOffice$Account", name := "lostMoney", desc := "()I" } : Jvm.MethodName)) ∈ lw_tbl := List.mem_of_getElem? (i := 378) rfl
set_option maxRecDepth 20000 in
theorem m_379 : (Jvm.Cond.code ({ cls := "TapOffice$Account", name := "lostMoney", desc := "()I" } : Jvm.MethodName) prog_2_method_9_code (5 : Nat) (Option.some Jvm.ClassFile.FieldType.int)) ∈ lw_tbl := List.mem_of_getElem? (i := 379) rfl
set_option maxRecDepth 20000 in
theorem m_380 : (Jvm.Cond.methodLink "TapOffice" (145 : Nat) ({ cls := "TapOffice$Account", name := "allCharges", desc := "()I" } : Jvm.MethodName)) ∈ lw_tbl := List.mem_of_getElem? (i := 380) rfl
set_option maxRecDepth 20000 in
theorem m_381 : (Jvm.Cond.instanceMethod ({ cls := "TapOffice$Account", name := "allCharges", desc := "()I" } : Jvm.MethodName)) ∈ lw_tbl := List.mem_of_getElem? (i := 381) rfl
set_option maxRecDepth 20000 in
theorem m_382 : (Jvm.Cond.selects "TapOffice$Account" ({ cls := "TapOffice$Account", name := "allCharges", desc := "()I" } : Jvm.MethodName) ({ cls := "TapOffice$Account", name := "allCharges", desc := "()I" } : Jvm.MethodName)) ∈ lw_tbl := List.mem_of_getElem? (i := 382) rfl
set_option maxRecDepth 20000 in
theorem m_383 : (Jvm.Cond.code ({ cls := "TapOffice$Account", name := "allCharges", desc := "()I" } : Jvm.MethodName) prog_2_method_5_code (1 : Nat) (Option.some Jvm.ClassFile.FieldType.int)) ∈ lw_tbl := List.mem_of_getElem? (i := 383) rfl
set_option maxRecDepth 20000 in
theorem m_384 : (Jvm.Cond.methodLink "TapOffice" (148 : Nat) ({ cls := "TapOffice$Account", name := "allTopUps", desc := "()I" } : Jvm.MethodName)) ∈ lw_tbl := List.mem_of_getElem? (i := 384) rfl
set_option maxRecDepth 20000 in
theorem m_385 : (Jvm.Cond.instanceMethod ({ cls := "TapOffice$Account", name := "allTopUps", desc := "()I" } : Jvm.MethodName)) ∈ lw_tbl := List.mem_of_getElem? (i := 385) rfl
set_option maxRecDepth 20000 in
theorem m_386 : (Jvm.Cond.selects "TapOffice$Account" ({ cls := "TapOffice$Account", name := "allTopUps", desc := "()I" } : Jvm.MethodName) ({ cls := "TapOffice$Account", name := "allTopUps", desc := "()I" } : Jvm.MethodName)) ∈ lw_tbl := List.mem_of_getElem? (i := 386) rfl
set_option maxRecDepth 20000 in
theorem m_387 : (Jvm.Cond.code ({ cls := "TapOffice$Account", name := "allTopUps", desc := "()I" } : Jvm.MethodName) prog_2_method_6_code (1 : Nat) (Option.some Jvm.ClassFile.FieldType.int)) ∈ lw_tbl := List.mem_of_getElem? (i := 387) rfl
set_option maxRecDepth 20000 in
theorem m_396 : (Jvm.Cond.methodLink "TapOffice" (151 : Nat) ({ cls := "TapOffice", name := "entriesInLogs", desc := "()I" } : Jvm.MethodName)) ∈ lw_tbl := List.mem_of_getElem? (i := 396) rfl
set_option maxRecDepth 20000 in
theorem m_398 : (Jvm.Cond.instanceMethod ({ cls := "TapOffice", name := "entriesInLogs", desc := "()I" } : Jvm.MethodName)) ∈ lw_tbl := List.mem_of_getElem? (i := 398) rfl
set_option maxRecDepth 20000 in
theorem m_399 : (Jvm.Cond.code ({ cls := "TapOffice", name := "entriesInLogs", desc := "()I" } : Jvm.MethodName) prog_1_method_18_code (3 : Nat) (Option.some Jvm.ClassFile.FieldType.int)) ∈ lw_tbl := List.mem_of_getElem? (i := 399) rfl
set_option maxRecDepth 20000 in
theorem m_400 : (Jvm.Cond.methodLink "TapOffice" (154 : Nat) ({ cls := "java/lang/Integer", name := "bitCount", desc := "(I)I" } : Jvm.MethodName)) ∈ lw_tbl := List.mem_of_getElem? (i := 400) rfl
set_option maxRecDepth 20000 in
theorem m_401 : (Jvm.Cond.static ({ cls := "java/lang/Integer", name := "bitCount", desc := "(I)I" } : Jvm.MethodName)) ∈ lw_tbl := List.mem_of_getElem? (i := 401) rfl
set_option maxRecDepth 20000 in
theorem m_402 : (Jvm.Cond.code ({ cls := "java/lang/Integer", name := "bitCount", desc := "(I)I" } : Jvm.MethodName) prog_9_method_49_code (1 : Nat) (Option.some Jvm.ClassFile.FieldType.int)) ∈ lw_tbl := List.mem_of_getElem? (i := 402) rfl
set_option maxRecDepth 20000 in
theorem m_403 : (Jvm.Cond.constant "java/lang/Integer" (265 : Nat) (1431655765 : Int32)) ∈ lw_tbl := List.mem_of_getElem? (i := 403) rfl
set_option maxRecDepth 20000 in
theorem m_404 : (Jvm.Cond.constant "java/lang/Integer" (266 : Nat) (858993459 : Int32)) ∈ lw_tbl := List.mem_of_getElem? (i := 404) rfl
set_option maxRecDepth 20000 in
theorem m_405 : (Jvm.Cond.constant "java/lang/Integer" (267 : Nat) (252645135 : Int32)) ∈ lw_tbl := List.mem_of_getElem? (i := 405) rfl
