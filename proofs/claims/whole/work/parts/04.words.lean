theorem tw_1 : Cond.fieldLink "AsmDesk$Tape" 15 "AsmDesk$Tape" "length" "I" ∈ g_TB := g_tw (i := 36) (by decide +kernel) (by decide +kernel)
theorem tw_2 : Cond.fieldLink "AsmDesk$Tape" 11 "AsmDesk$Tape" "characters" "[B" ∈ g_TB := g_tw (i := 35) (by decide +kernel) (by decide +kernel)
theorem tw_3 : Cond.fieldLink "AsmDesk$Tokens" 22 "AsmDesk$Tokens" "size" "I" ∈ g_TB := g_tw (i := 74) (by decide +kernel) (by decide +kernel)
theorem tw_4 : Cond.fieldLink "AsmDesk$Tokens" 11 "AsmDesk$Tokens" "kinds" "[I" ∈ g_TB := g_tw (i := 71) (by decide +kernel) (by decide +kernel)
theorem tw_5 : Cond.fieldLink "AsmDesk$Tokens" 26 "AsmDesk$Tokens" "tapeLength" "I" ∈ g_TB := g_tw (i := 75) (by decide +kernel) (by decide +kernel)
theorem tw_6 : Cond.fieldLink "AsmDesk$Tokens" 15 "AsmDesk$Tokens" "places" "[I" ∈ g_TB := g_tw (i := 72) (by decide +kernel) (by decide +kernel)
theorem tw_7 : Cond.fieldLink "AsmDesk$Tokens" 18 "AsmDesk$Tokens" "values" "[J" ∈ g_TB := g_tw (i := 73) (by decide +kernel) (by decide +kernel)
theorem tw_8 : Cond.fieldLink "AsmDesk$Tokens" 29 "AsmDesk$Tokens" "next" "I" ∈ g_TB := g_tw (i := 76) (by decide +kernel) (by decide +kernel)
theorem tw_9 : Cond.constantLong "AsmDesk$Tokens" 61 10 ∈ g_TB := g_tw (i := 239) (by decide +kernel) (by decide +kernel)
theorem tw_10 : Cond.fieldLink "AsmDesk$Program" 13 "AsmDesk$Program" "words" "[I" ∈ g_TB := g_tw (i := 98) (by decide +kernel) (by decide +kernel)
theorem tw_11 : Cond.fieldLink "AsmDesk$Program" 17 "AsmDesk$Program" "starts" "[I" ∈ g_TB := g_tw (i := 100) (by decide +kernel) (by decide +kernel)
theorem tw_12 : Cond.fieldLink "AsmDesk$Program" 27 "AsmDesk$Program" "labelCount" "I" ∈ g_TB := g_tw (i := 104) (by decide +kernel) (by decide +kernel)
theorem tw_13 : Cond.fieldLink "AsmDesk$Program" 31 "AsmDesk$Program" "count" "I" ∈ g_TB := g_tw (i := 106) (by decide +kernel) (by decide +kernel)
theorem tw_14 : Cond.fieldLink "AsmDesk$Program" 20 "AsmDesk$Program" "names" "[J" ∈ g_TB := g_tw (i := 102) (by decide +kernel) (by decide +kernel)
theorem tw_15 : Cond.fieldLink "AsmDesk$Program" 24 "AsmDesk$Program" "addresses" "[I" ∈ g_TB := g_tw (i := 103) (by decide +kernel) (by decide +kernel)
theorem tw_16 : Cond.fieldLink "AsmDesk$Fault" 7 "AsmDesk$Fault" "kind" "I" ∈ g_TB := g_tw (i := 55) (by decide +kernel) (by decide +kernel)
theorem tw_17 : Cond.fieldLink "AsmDesk$Fault" 13 "AsmDesk$Fault" "place" "I" ∈ g_TB := g_tw (i := 58) (by decide +kernel) (by decide +kernel)
theorem tw_18 : Cond.fieldLink "AsmDesk$Assembler" 21 "AsmDesk$Assembler" "tokens" "LAsmDesk$Tokens;" ∈ g_TB := g_tw (i := 124) (by decide +kernel) (by decide +kernel)
theorem tw_19 : Cond.fieldLink "AsmDesk$Assembler" 36 "AsmDesk$Assembler" "cursor" "I" ∈ g_TB := g_tw (i := 127) (by decide +kernel) (by decide +kernel)
theorem tw_20 : Cond.fieldLink "AsmDesk$Assembler" 32 "AsmDesk$Assembler" "survey" "Z" ∈ g_TB := g_tw (i := 126) (by decide +kernel) (by decide +kernel)
theorem tw_21 : Cond.fieldLink "AsmDesk$Assembler" 28 "AsmDesk$Assembler" "draft" "LAsmDesk$Program;" ∈ g_TB := g_tw (i := 125) (by decide +kernel) (by decide +kernel)
theorem tw_22 : Cond.fieldLink "AsmDesk$Assembler" 40 "AsmDesk$Assembler" "nextAddress" "I" ∈ g_TB := g_tw (i := 128) (by decide +kernel) (by decide +kernel)
theorem tw_23 : Cond.fieldLink "AsmDesk$Assembler" 12 "AsmDesk$Assembler" "fault" "LAsmDesk$Fault;" ∈ g_TB := g_tw (i := 122) (by decide +kernel) (by decide +kernel)
theorem tw_24 : Cond.constantLong "AsmDesk$Assembler" 143 29232 ∈ g_TB := g_tw (i := 348) (by decide +kernel) (by decide +kernel)
theorem tw_25 : Cond.constantLong "AsmDesk$Assembler" 145 8 ∈ g_TB := g_tw (i := 349) (by decide +kernel) (by decide +kernel)
theorem tw_26 : Cond.fieldLink "AsmDesk$Assembler" 43 "AsmDesk$Assembler" "registers" "I" ∈ g_TB := g_tw (i := 129) (by decide +kernel) (by decide +kernel)
theorem tw_27 : Cond.fieldLink "AsmDesk$Assembler" 46 "AsmDesk$Assembler" "value" "J" ∈ g_TB := g_tw (i := 130) (by decide +kernel) (by decide +kernel)
theorem tw_28 : Cond.fieldLink "AsmDesk$Assembler" 65 "AsmDesk$Program" "count" "I" ∈ g_TB := g_tw (i := 108) (by decide +kernel) (by decide +kernel)
theorem tw_29 : Cond.fieldLink "AsmDesk$Order" 130 "AsmDesk$Order" "ALL" "[LAsmDesk$Order;" ∈ g_TB := g_tw (i := 286) (by decide +kernel) (by decide +kernel)
theorem tw_30 : Cond.fieldLink "AsmDesk$Order" 102 "AsmDesk$Order" "spelling" "J" ∈ g_TB := g_tw (i := 746) (by decide +kernel) (by decide +kernel)
theorem tw_31 : Cond.fieldLink "AsmDesk$Order" 114 "AsmDesk$Order" "least" "I" ∈ g_TB := g_tw (i := 750) (by decide +kernel) (by decide +kernel)
theorem tw_32 : Cond.fieldLink "AsmDesk$Order" 117 "AsmDesk$Order" "most" "I" ∈ g_TB := g_tw (i := 751) (by decide +kernel) (by decide +kernel)
theorem tw_33 : Cond.fieldLink "java/lang/String" 38 "java/lang/String" "COMPACT_STRINGS" "Z" ∈ g_TB := g_tw (i := 300) (by decide +kernel) (by decide +kernel)
theorem tw_34 : Cond.fieldLink "java/lang/String" 15 "java/lang/String" "coder" "B" ∈ g_TB := g_tw (i := 749) (by decide +kernel) (by decide +kernel)
theorem tw_35 : Cond.fieldLink "java/lang/String" 9 "java/lang/String" "value" "[B" ∈ g_TB := g_tw (i := 748) (by decide +kernel) (by decide +kernel)
theorem tw_36 : Cond.fieldLink "java/lang/String" 1053 "jdk/internal/util/Preconditions" "SIOOBE_FORMATTER" "Ljava/util/function/BiFunction;" ∈ g_TB := g_tw (i := 316) (by decide +kernel) (by decide +kernel)
theorem tw_37 : Cond.fieldLink "AsmDesk$Assembler" 155 "AsmDesk$Order" "ORG" "LAsmDesk$Order;" ∈ g_TB := g_tw (i := 371) (by decide +kernel) (by decide +kernel)
theorem tw_38 : Cond.fieldLink "AsmDesk$Assembler" 159 "AsmDesk$Order" "CORE" "LAsmDesk$Order;" ∈ g_TB := g_tw (i := 373) (by decide +kernel) (by decide +kernel)
theorem tw_39 : Cond.fieldLink "AsmDesk$Assembler" 165 "AsmDesk$Order" "WORD" "LAsmDesk$Order;" ∈ g_TB := g_tw (i := 379) (by decide +kernel) (by decide +kernel)
theorem tw_40 : Cond.fieldLink "AsmDesk$Assembler" 171 "AsmDesk$Order" "number" "I" ∈ g_TB := g_tw (i := 752) (by decide +kernel) (by decide +kernel)
theorem tw_41 : Cond.fieldLink "AsmDesk$Assembler" 111 "AsmDesk$Order" "form" "Ljava/lang/String;" ∈ g_TB := g_tw (i := 747) (by decide +kernel) (by decide +kernel)
theorem tw_42 : Cond.fieldLink "AsmDesk$Assembler" 62 "AsmDesk$Fault" "kind" "I" ∈ g_TB := g_tw (i := 56) (by decide +kernel) (by decide +kernel)
theorem tw_43 : Cond.fieldLink "AsmDesk" 10 "AsmDesk" "tape" "LAsmDesk$Tape;" ∈ g_TB := g_tw (i := 150) (by decide +kernel) (by decide +kernel)
theorem tw_44 : Cond.fieldLink "AsmDesk" 19 "AsmDesk" "assembler" "LAsmDesk$Assembler;" ∈ g_TB := g_tw (i := 151) (by decide +kernel) (by decide +kernel)
theorem tw_45 : Cond.fieldLink "AsmDesk" 56 "AsmDesk$Assembler" "fault" "LAsmDesk$Fault;" ∈ g_TB := g_tw (i := 123) (by decide +kernel) (by decide +kernel)
theorem tw_46 : Cond.fieldLink "AsmDesk" 65 "AsmDesk$Fault" "place" "I" ∈ g_TB := g_tw (i := 59) (by decide +kernel) (by decide +kernel)
theorem tw_47 : Cond.fieldLink "AsmDesk" 60 "AsmDesk$Fault" "kind" "I" ∈ g_TB := g_tw (i := 57) (by decide +kernel) (by decide +kernel)
theorem tw_48 : Cond.fieldLink "AsmDesk" 26 "AsmDesk" "good" "LAsmDesk$Program;" ∈ g_TB := g_tw (i := 152) (by decide +kernel) (by decide +kernel)
theorem tw_49 : Cond.fieldLink "AsmDesk" 82 "AsmDesk$Program" "labelCount" "I" ∈ g_TB := g_tw (i := 105) (by decide +kernel) (by decide +kernel)
theorem tw_50 : Cond.fieldLink "AsmDesk" 52 "AsmDesk$Program" "count" "I" ∈ g_TB := g_tw (i := 107) (by decide +kernel) (by decide +kernel)
theorem tw_51 : Cond.methodLink "AsmDesk$Tape" 3 objectInit ∈ g_TB := g_tw (i := 34) (by decide +kernel) (by decide +kernel)
theorem tw_52 : Cond.instanceMethod objectInit ∈ g_TB := g_tw (i := 27) (by decide +kernel) (by decide +kernel)
theorem tw_53 : Cond.code objectInit ⟨#[0xb1]⟩ 1 none ∈ g_TB := g_tw (i := 28) rfl (by decide +kernel)
theorem tw_54 : Cond.arrayClass .byte ∈ g_TB := g_tw (i := 42) (by decide +kernel) (by decide +kernel)
theorem tw_55 : Cond.methodLink "AsmDesk$Tokens" 3 objectInit ∈ g_TB := g_tw (i := 70) (by decide +kernel) (by decide +kernel)
theorem tw_56 : Cond.arrayClass .int ∈ g_TB := g_tw (i := 90) (by decide +kernel) (by decide +kernel)
theorem tw_57 : Cond.arrayClass .long ∈ g_TB := g_tw (i := 91) (by decide +kernel) (by decide +kernel)
theorem tw_58 : Cond.methodLink "AsmDesk$Program" 5 objectInit ∈ g_TB := g_tw (i := 97) (by decide +kernel) (by decide +kernel)
theorem tw_59 : Cond.methodLink "AsmDesk$Fault" 1 objectInit ∈ g_TB := g_tw (i := 54) (by decide +kernel) (by decide +kernel)
theorem tw_60 : Cond.methodLink "AsmDesk$Assembler" 3 objectInit ∈ g_TB := g_tw (i := 48) (by decide +kernel) (by decide +kernel)
theorem tw_61 : Cond.classLink "AsmDesk$Assembler" 9 "AsmDesk$Fault" ∈ g_TB := g_tw (i := 49) (by decide +kernel) (by decide +kernel)
theorem tw_62 : Cond.instantiable "AsmDesk$Fault" 2 ∈ g_TB := g_tw (i := 50) (by decide +kernel) (by decide +kernel)
theorem tw_63 : Cond.initialized "AsmDesk$Fault" ∈ g_TB := g_tw (i := 4) (by decide +kernel) (by decide +kernel)
theorem tw_64 : Cond.classLink "AsmDesk$Assembler" 18 "AsmDesk$Tokens" ∈ g_TB := g_tw (i := 65) (by decide +kernel) (by decide +kernel)
theorem tw_65 : Cond.instantiable "AsmDesk$Tokens" 6 ∈ g_TB := g_tw (i := 66) (by decide +kernel) (by decide +kernel)
theorem tw_66 : Cond.initialized "AsmDesk$Tokens" ∈ g_TB := g_tw (i := 5) (by decide +kernel) (by decide +kernel)
theorem tw_67 : Cond.classLink "AsmDesk$Assembler" 25 "AsmDesk$Program" ∈ g_TB := g_tw (i := 92) (by decide +kernel) (by decide +kernel)
theorem tw_68 : Cond.instantiable "AsmDesk$Program" 6 ∈ g_TB := g_tw (i := 93) (by decide +kernel) (by decide +kernel)
theorem tw_69 : Cond.initialized "AsmDesk$Program" ∈ g_TB := g_tw (i := 6) (by decide +kernel) (by decide +kernel)
theorem tw_70 : Cond.methodLink "AsmDesk" 1 objectInit ∈ g_TB := g_tw (i := 26) (by decide +kernel) (by decide +kernel)
theorem tw_71 : Cond.classLink "AsmDesk" 7 "AsmDesk$Tape" ∈ g_TB := g_tw (i := 29) (by decide +kernel) (by decide +kernel)
theorem tw_72 : Cond.instantiable "AsmDesk$Tape" 2 ∈ g_TB := g_tw (i := 30) (by decide +kernel) (by decide +kernel)
theorem tw_73 : Cond.initialized "AsmDesk$Tape" ∈ g_TB := g_tw (i := 2) (by decide +kernel) (by decide +kernel)
theorem tw_74 : Cond.classLink "AsmDesk" 16 "AsmDesk$Assembler" ∈ g_TB := g_tw (i := 43) (by decide +kernel) (by decide +kernel)
theorem tw_75 : Cond.instantiable "AsmDesk$Assembler" 8 ∈ g_TB := g_tw (i := 44) (by decide +kernel) (by decide +kernel)
theorem tw_76 : Cond.initialized "AsmDesk$Assembler" ∈ g_TB := g_tw (i := 3) (by decide +kernel) (by decide +kernel)
theorem tw_77 : Cond.classLink "AsmDesk" 23 "AsmDesk$Program" ∈ g_TB := g_tw (i := 148) (by decide +kernel) (by decide +kernel)
set_option maxRecDepth 20000 in
theorem cs_Tape_23 : g_sS R_Tape 23 y_Tape_byteOf b_Tape_byteOf 3 (some .int) 2 := ⟨⟨g_tw (i := 173) rfl (by decide +kernel), g_tw (i := 171) (by decide +kernel) (by decide +kernel), g_tw (i := 2) (by decide +kernel) (by decide +kernel), by decide +kernel, by decide +kernel, by decide +kernel⟩, g_tw (i := 172) (by decide +kernel) (by decide +kernel)⟩
set_option maxRecDepth 20000 in
theorem cs_Tape_19 : g_sS R_Tape 19 y_Tape_allTypable b_Tape_allTypable 5 (some .boolean) 2 := ⟨⟨g_tw (i := 170) rfl (by decide +kernel), g_tw (i := 168) (by decide +kernel) (by decide +kernel), g_tw (i := 2) (by decide +kernel) (by decide +kernel), by decide +kernel, by decide +kernel, by decide +kernel⟩, g_tw (i := 169) (by decide +kernel) (by decide +kernel)⟩
set_option maxRecDepth 20000 in
theorem cs_Tokens_57 : g_sV R_Tokens 57 R_Tokens y_Tokens_add b_Tokens_add 5 none 3 := ⟨⟨g_tw (i := 234) rfl (by decide +kernel), g_tw (i := 231) (by decide +kernel) (by decide +kernel), g_tw (i := 5) (by decide +kernel) (by decide +kernel), by decide +kernel, by decide +kernel, by decide +kernel⟩, g_tw (i := 233) (by decide +kernel) (by decide +kernel), g_pv ⟨"AsmDesk$Tokens", "add", "(IIJ)V"⟩ (by decide +kernel) (by decide +kernel)⟩
set_option maxRecDepth 20000 in
theorem cs_Tokens_36 : g_sV R_Tokens 36 R_Tape y_Tape_at b_Tape_at 2 (some .int) 1 := ⟨⟨g_tw (i := 220) rfl (by decide +kernel), g_tw (i := 217) (by decide +kernel) (by decide +kernel), g_tw (i := 2) (by decide +kernel) (by decide +kernel), by decide +kernel, by decide +kernel, by decide +kernel⟩, g_tw (i := 218) (by decide +kernel) (by decide +kernel), g_tw (i := 219) (by decide +kernel) (by decide +kernel)⟩
set_option maxRecDepth 20000 in
theorem cs_Tokens_40 : g_sS R_Tokens 40 y_Tokens_isLetter b_Tokens_isLetter 1 (some .boolean) 1 := ⟨⟨g_tw (i := 223) rfl (by decide +kernel), g_tw (i := 221) (by decide +kernel) (by decide +kernel), g_tw (i := 5) (by decide +kernel) (by decide +kernel), by decide +kernel, by decide +kernel, by decide +kernel⟩, g_tw (i := 222) (by decide +kernel) (by decide +kernel)⟩
set_option maxRecDepth 20000 in
theorem cs_Tokens_48 : g_sS R_Tokens 48 y_Tokens_isDigit b_Tokens_isDigit 1 (some .boolean) 1 := ⟨⟨g_tw (i := 230) rfl (by decide +kernel), g_tw (i := 228) (by decide +kernel) (by decide +kernel), g_tw (i := 5) (by decide +kernel) (by decide +kernel), by decide +kernel, by decide +kernel, by decide +kernel⟩, g_tw (i := 229) (by decide +kernel) (by decide +kernel)⟩
set_option maxRecDepth 20000 in
theorem cs_Tokens_32 : g_sV R_Tokens 32 R_Tape y_Tape_length b_Tape_length 1 (some .int) 0 := ⟨⟨g_tw (i := 216) rfl (by decide +kernel), g_tw (i := 213) (by decide +kernel) (by decide +kernel), g_tw (i := 2) (by decide +kernel) (by decide +kernel), by decide +kernel, by decide +kernel, by decide +kernel⟩, g_tw (i := 214) (by decide +kernel) (by decide +kernel), g_tw (i := 215) (by decide +kernel) (by decide +kernel)⟩
set_option maxRecDepth 20000 in
theorem cs_Tokens_54 : g_sS R_Tokens 54 y_Tokens_isSign b_Tokens_isSign 1 (some .boolean) 1 := ⟨⟨g_tw (i := 242) rfl (by decide +kernel), g_tw (i := 240) (by decide +kernel) (by decide +kernel), g_tw (i := 5) (by decide +kernel) (by decide +kernel), by decide +kernel, by decide +kernel, by decide +kernel⟩, g_tw (i := 241) (by decide +kernel) (by decide +kernel)⟩
set_option maxRecDepth 20000 in
theorem cs_Tokens_51 : g_sV R_Tokens 51 R_Tokens y_Tokens_scanNumber b_Tokens_scanNumber 5 none 1 := ⟨⟨g_tw (i := 238) rfl (by decide +kernel), g_tw (i := 235) (by decide +kernel) (by decide +kernel), g_tw (i := 5) (by decide +kernel) (by decide +kernel), by decide +kernel, by decide +kernel, by decide +kernel⟩, g_tw (i := 237) (by decide +kernel) (by decide +kernel), g_pv ⟨"AsmDesk$Tokens", "scanNumber", "(LAsmDesk$Tape;)V"⟩ (by decide +kernel) (by decide +kernel)⟩
set_option maxRecDepth 20000 in
theorem cs_Tokens_44 : g_sV R_Tokens 44 R_Tokens y_Tokens_scanName b_Tokens_scanName 5 none 1 := ⟨⟨g_tw (i := 227) rfl (by decide +kernel), g_tw (i := 224) (by decide +kernel) (by decide +kernel), g_tw (i := 5) (by decide +kernel) (by decide +kernel), by decide +kernel, by decide +kernel, by decide +kernel⟩, g_tw (i := 226) (by decide +kernel) (by decide +kernel), g_pv ⟨"AsmDesk$Tokens", "scanName", "(LAsmDesk$Tape;)V"⟩ (by decide +kernel) (by decide +kernel)⟩
set_option maxRecDepth 20000 in
theorem cs_Program_34 : g_sS R_Program 34 y_Arrays_fill b_Arrays_fill 4 none 2 := ⟨⟨g_tw (i := 208) rfl (by decide +kernel), g_tw (i := 206) (by decide +kernel) (by decide +kernel), g_tw (i := 8) (by decide +kernel) (by decide +kernel), by decide +kernel, by decide +kernel, by decide +kernel⟩, g_tw (i := 207) (by decide +kernel) (by decide +kernel)⟩
set_option maxRecDepth 20000 in
theorem cs_Program_40 : g_sV R_Program 40 R_Program y_Program_addressOf b_Program_addressOf 4 (some .int) 1 := ⟨⟨g_tw (i := 270) rfl (by decide +kernel), g_tw (i := 267) (by decide +kernel) (by decide +kernel), g_tw (i := 6) (by decide +kernel) (by decide +kernel), by decide +kernel, by decide +kernel, by decide +kernel⟩, g_tw (i := 268) (by decide +kernel) (by decide +kernel), g_tw (i := 269) (by decide +kernel) (by decide +kernel)⟩
set_option maxRecDepth 20000 in
theorem cs_Assembler_70 : g_sV R_Assembler 70 R_Tokens y_Tokens_kind b_Tokens_kind 2 (some .int) 1 := ⟨⟨g_tw (i := 250) rfl (by decide +kernel), g_tw (i := 247) (by decide +kernel) (by decide +kernel), g_tw (i := 5) (by decide +kernel) (by decide +kernel), by decide +kernel, by decide +kernel, by decide +kernel⟩, g_tw (i := 248) (by decide +kernel) (by decide +kernel), g_tw (i := 249) (by decide +kernel) (by decide +kernel)⟩
set_option maxRecDepth 20000 in
theorem cs_Assembler_84 : g_sV R_Assembler 84 R_Assembler y_Asm_atLabel b_Asm_atLabel 1 (some .boolean) 0 := ⟨⟨g_tw (i := 258) rfl (by decide +kernel), g_tw (i := 255) (by decide +kernel) (by decide +kernel), g_tw (i := 3) (by decide +kernel) (by decide +kernel), by decide +kernel, by decide +kernel, by decide +kernel⟩, g_tw (i := 257) (by decide +kernel) (by decide +kernel), g_pv ⟨"AsmDesk$Assembler", "atLabel", "()Z"⟩ (by decide +kernel) (by decide +kernel)⟩
set_option maxRecDepth 20000 in
theorem cs_Assembler_87 : g_sV R_Assembler 87 R_Tokens y_Tokens_value b_Tokens_value 2 (some .long) 1 := ⟨⟨g_tw (i := 262) rfl (by decide +kernel), g_tw (i := 259) (by decide +kernel) (by decide +kernel), g_tw (i := 5) (by decide +kernel) (by decide +kernel), by decide +kernel, by decide +kernel, by decide +kernel⟩, g_tw (i := 260) (by decide +kernel) (by decide +kernel), g_tw (i := 261) (by decide +kernel) (by decide +kernel)⟩
set_option maxRecDepth 20000 in
theorem cs_Assembler_90 : g_sV R_Assembler 90 R_Program y_Program_add b_Program_add 4 (some .boolean) 2 := ⟨⟨g_tw (i := 266) rfl (by decide +kernel), g_tw (i := 263) (by decide +kernel) (by decide +kernel), g_tw (i := 6) (by decide +kernel) (by decide +kernel), by decide +kernel, by decide +kernel, by decide +kernel⟩, g_tw (i := 264) (by decide +kernel) (by decide +kernel), g_tw (i := 265) (by decide +kernel) (by decide +kernel)⟩
set_option maxRecDepth 20000 in
theorem cs_Assembler_94 : g_sV R_Assembler 94 R_Tokens y_Tokens_place b_Tokens_place 2 (some .int) 1 := ⟨⟨g_tw (i := 274) rfl (by decide +kernel), g_tw (i := 271) (by decide +kernel) (by decide +kernel), g_tw (i := 5) (by decide +kernel) (by decide +kernel), by decide +kernel, by decide +kernel, by decide +kernel⟩, g_tw (i := 272) (by decide +kernel) (by decide +kernel), g_tw (i := 273) (by decide +kernel) (by decide +kernel)⟩
set_option maxRecDepth 20000 in
theorem cs_Assembler_97 : g_sV R_Assembler 97 R_Fault y_Fault_note b_Fault_note 3 none 2 := ⟨⟨g_tw (i := 278) rfl (by decide +kernel), g_tw (i := 275) (by decide +kernel) (by decide +kernel), g_tw (i := 4) (by decide +kernel) (by decide +kernel), by decide +kernel, by decide +kernel, by decide +kernel⟩, g_tw (i := 276) (by decide +kernel) (by decide +kernel), g_tw (i := 277) (by decide +kernel) (by decide +kernel)⟩
set_option maxRecDepth 20000 in
theorem cs_Assembler_107 : g_sV R_Assembler 107 R_Fault y_Fault_refuse b_Fault_refuse 2 (some .boolean) 1 := ⟨⟨g_tw (i := 291) rfl (by decide +kernel), g_tw (i := 288) (by decide +kernel) (by decide +kernel), g_tw (i := 4) (by decide +kernel) (by decide +kernel), by decide +kernel, by decide +kernel, by decide +kernel⟩, g_tw (i := 289) (by decide +kernel) (by decide +kernel), g_tw (i := 290) (by decide +kernel) (by decide +kernel)⟩
set_option maxRecDepth 20000 in
theorem cs_Assembler_147 : g_sV R_Assembler 147 R_Program y_Program_addressOf b_Program_addressOf 4 (some .int) 1 := ⟨⟨g_tw (i := 270) rfl (by decide +kernel), g_tw (i := 354) (by decide +kernel) (by decide +kernel), g_tw (i := 6) (by decide +kernel) (by decide +kernel), by decide +kernel, by decide +kernel, by decide +kernel⟩, g_tw (i := 268) (by decide +kernel) (by decide +kernel), g_tw (i := 269) (by decide +kernel) (by decide +kernel)⟩
set_option maxRecDepth 20000 in
theorem cs_Assembler_174 : g_sV R_Assembler 174 R_Program y_Program_put b_Program_put 3 none 2 := ⟨⟨g_tw (i := 388) rfl (by decide +kernel), g_tw (i := 385) (by decide +kernel) (by decide +kernel), g_tw (i := 6) (by decide +kernel) (by decide +kernel), by decide +kernel, by decide +kernel, by decide +kernel⟩, g_tw (i := 386) (by decide +kernel) (by decide +kernel), g_tw (i := 387) (by decide +kernel) (by decide +kernel)⟩
set_option maxRecDepth 20000 in
theorem cs_String_335 : g_sV R_String 335 R_String y_String_coder b_String_coder 1 (some .byte) 0 := ⟨⟨g_tw (i := 299) rfl (by decide +kernel), g_tw (i := 296) (by decide +kernel) (by decide +kernel), g_tw (i := 11) (by decide +kernel) (by decide +kernel), by decide +kernel, by decide +kernel, by decide +kernel⟩, g_tw (i := 297) (by decide +kernel) (by decide +kernel), g_tw (i := 298) (by decide +kernel) (by decide +kernel)⟩
set_option maxRecDepth 20000 in
theorem cs_String_1059 : g_sS R_String 1059 y_Pre_checkR b_Pre_checkR 3 (some .int) 3 := ⟨⟨g_tw (i := 320) rfl (by decide +kernel), g_tw (i := 318) (by decide +kernel) (by decide +kernel), g_tw (i := 13) (by decide +kernel) (by decide +kernel), by decide +kernel, by decide +kernel, by decide +kernel⟩, g_tw (i := 319) (by decide +kernel) (by decide +kernel)⟩
set_option maxRecDepth 20000 in
theorem cs_Latin1_9 : g_sS R_Latin1 9 y_String_checkIndex b_String_checkIndex 2 none 2 := ⟨⟨g_tw (i := 315) rfl (by decide +kernel), g_tw (i := 313) (by decide +kernel) (by decide +kernel), g_tw (i := 11) (by decide +kernel) (by decide +kernel), by decide +kernel, by decide +kernel, by decide +kernel⟩, g_tw (i := 314) (by decide +kernel) (by decide +kernel)⟩
set_option maxRecDepth 20000 in
theorem cs_String_492 : g_sV R_String 492 R_String y_String_isLatin1 b_String_isLatin1 1 (some .boolean) 0 := ⟨⟨g_tw (i := 309) rfl (by decide +kernel), g_tw (i := 306) (by decide +kernel) (by decide +kernel), g_tw (i := 11) (by decide +kernel) (by decide +kernel), by decide +kernel, by decide +kernel, by decide +kernel⟩, g_tw (i := 307) (by decide +kernel) (by decide +kernel), g_tw (i := 308) (by decide +kernel) (by decide +kernel)⟩
set_option maxRecDepth 20000 in
theorem cs_String_495 : g_sS R_String 495 y_Latin1_charAt b_Latin1_charAt 2 (some .char) 2 := ⟨⟨g_tw (i := 312) rfl (by decide +kernel), g_tw (i := 310) (by decide +kernel) (by decide +kernel), g_tw (i := 12) (by decide +kernel) (by decide +kernel), by decide +kernel, by decide +kernel, by decide +kernel⟩, g_tw (i := 311) (by decide +kernel) (by decide +kernel)⟩
set_option maxRecDepth 20000 in
theorem cs_Assembler_151 : g_sV R_Assembler 151 R_Order y_Order_fits b_Order_fits 3 (some .boolean) 1 := ⟨⟨g_tw (i := 362) rfl (by decide +kernel), g_tw (i := 359) (by decide +kernel) (by decide +kernel), g_tw (i := 10) (by decide +kernel) (by decide +kernel), by decide +kernel, by decide +kernel, by decide +kernel⟩, g_tw (i := 360) (by decide +kernel) (by decide +kernel), g_tw (i := 361) (by decide +kernel) (by decide +kernel)⟩
set_option maxRecDepth 20000 in
theorem cs_Assembler_168 : g_sV R_Assembler 168 R_Assembler y_Asm_lay b_Asm_lay 3 none 2 := ⟨⟨g_tw (i := 384) rfl (by decide +kernel), g_tw (i := 381) (by decide +kernel) (by decide +kernel), g_tw (i := 3) (by decide +kernel) (by decide +kernel), by decide +kernel, by decide +kernel, by decide +kernel⟩, g_tw (i := 383) (by decide +kernel) (by decide +kernel), g_pv ⟨"AsmDesk$Assembler", "lay", "(II)V"⟩ (by decide +kernel) (by decide +kernel)⟩
set_option maxRecDepth 20000 in
theorem cs_Assembler_162 : g_sV R_Assembler 162 R_Program y_Program_begin b_Program_begin 3 none 2 := ⟨⟨g_tw (i := 378) rfl (by decide +kernel), g_tw (i := 375) (by decide +kernel) (by decide +kernel), g_tw (i := 6) (by decide +kernel) (by decide +kernel), by decide +kernel, by decide +kernel, by decide +kernel⟩, g_tw (i := 376) (by decide +kernel) (by decide +kernel), g_tw (i := 377) (by decide +kernel) (by decide +kernel)⟩
set_option maxRecDepth 20000 in
theorem cs_Assembler_133 : g_sV R_Assembler 133 R_Assembler y_Asm_readRegister b_Asm_readRegister 4 (some .boolean) 1 := ⟨⟨g_tw (i := 347) rfl (by decide +kernel), g_tw (i := 344) (by decide +kernel) (by decide +kernel), g_tw (i := 3) (by decide +kernel) (by decide +kernel), by decide +kernel, by decide +kernel, by decide +kernel⟩, g_tw (i := 346) (by decide +kernel) (by decide +kernel), g_pv ⟨"AsmDesk$Assembler", "readRegister", "(I)Z"⟩ (by decide +kernel) (by decide +kernel)⟩
set_option maxRecDepth 20000 in
theorem cs_Assembler_136 : g_sV R_Assembler 136 R_Assembler y_Asm_readLabel b_Asm_readLabel 3 (some .boolean) 1 := ⟨⟨g_tw (i := 353) rfl (by decide +kernel), g_tw (i := 350) (by decide +kernel) (by decide +kernel), g_tw (i := 3) (by decide +kernel) (by decide +kernel), by decide +kernel, by decide +kernel, by decide +kernel⟩, g_tw (i := 352) (by decide +kernel) (by decide +kernel), g_pv ⟨"AsmDesk$Assembler", "readLabel", "(I)Z"⟩ (by decide +kernel) (by decide +kernel)⟩
set_option maxRecDepth 20000 in
theorem cs_Assembler_139 : g_sV R_Assembler 139 R_Assembler y_Asm_readNumber b_Asm_readNumber 5 (some .boolean) 2 := ⟨⟨g_tw (i := 358) rfl (by decide +kernel), g_tw (i := 355) (by decide +kernel) (by decide +kernel), g_tw (i := 3) (by decide +kernel) (by decide +kernel), by decide +kernel, by decide +kernel, by decide +kernel⟩, g_tw (i := 357) (by decide +kernel) (by decide +kernel), g_pv ⟨"AsmDesk$Assembler", "readNumber", "(LAsmDesk$Order;Z)Z"⟩ (by decide +kernel) (by decide +kernel)⟩
set_option maxRecDepth 20000 in
theorem cs_Assembler_80 : g_sV R_Assembler 80 R_Assembler y_Asm_readSign b_Asm_readSign 2 (some .boolean) 1 := ⟨⟨g_tw (i := 366) rfl (by decide +kernel), g_tw (i := 363) (by decide +kernel) (by decide +kernel), g_tw (i := 3) (by decide +kernel) (by decide +kernel), by decide +kernel, by decide +kernel, by decide +kernel⟩, g_tw (i := 365) (by decide +kernel) (by decide +kernel), g_pv ⟨"AsmDesk$Assembler", "readSign", "(C)Z"⟩ (by decide +kernel) (by decide +kernel)⟩
set_option maxRecDepth 20000 in
theorem cs_Assembler_101 : g_sS R_Assembler 101 y_Order_spelled b_Order_spelled 3 (some (.object "AsmDesk$Order")) 1 := ⟨⟨g_tw (i := 285) rfl (by decide +kernel), g_tw (i := 283) (by decide +kernel) (by decide +kernel), g_tw (i := 10) (by decide +kernel) (by decide +kernel), by decide +kernel, by decide +kernel, by decide +kernel⟩, g_tw (i := 284) (by decide +kernel) (by decide +kernel)⟩
set_option maxRecDepth 20000 in
theorem cs_Assembler_115 : g_sV R_Assembler 115 R_String y_String_length b_String_length 1 (some .int) 0 := ⟨⟨g_tw (i := 295) rfl (by decide +kernel), g_tw (i := 292) (by decide +kernel) (by decide +kernel), g_tw (i := 11) (by decide +kernel) (by decide +kernel), by decide +kernel, by decide +kernel, by decide +kernel⟩, g_tw (i := 293) (by decide +kernel) (by decide +kernel), g_tw (i := 294) (by decide +kernel) (by decide +kernel)⟩
set_option maxRecDepth 20000 in
theorem cs_Assembler_129 : g_sV R_Assembler 129 R_Assembler y_Asm_carryOut b_Asm_carryOut 3 none 2 := ⟨⟨g_tw (i := 370) rfl (by decide +kernel), g_tw (i := 367) (by decide +kernel) (by decide +kernel), g_tw (i := 3) (by decide +kernel) (by decide +kernel), by decide +kernel, by decide +kernel, by decide +kernel⟩, g_tw (i := 369) (by decide +kernel) (by decide +kernel), g_pv ⟨"AsmDesk$Assembler", "carryOut", "(LAsmDesk$Order;I)V"⟩ (by decide +kernel) (by decide +kernel)⟩
set_option maxRecDepth 20000 in
theorem cs_Assembler_121 : g_sV R_Assembler 121 R_String y_String_charAt b_String_charAt 2 (some .char) 1 := ⟨⟨g_tw (i := 305) rfl (by decide +kernel), g_tw (i := 302) (by decide +kernel) (by decide +kernel), g_tw (i := 11) (by decide +kernel) (by decide +kernel), by decide +kernel, by decide +kernel, by decide +kernel⟩, g_tw (i := 303) (by decide +kernel) (by decide +kernel), g_tw (i := 304) (by decide +kernel) (by decide +kernel)⟩
set_option maxRecDepth 20000 in
theorem cs_Assembler_125 : g_sV R_Assembler 125 R_Assembler y_Asm_readPart b_Asm_readPart 3 (some .boolean) 2 := ⟨⟨g_tw (i := 343) rfl (by decide +kernel), g_tw (i := 340) (by decide +kernel) (by decide +kernel), g_tw (i := 3) (by decide +kernel) (by decide +kernel), by decide +kernel, by decide +kernel, by decide +kernel⟩, g_tw (i := 342) (by decide +kernel) (by decide +kernel), g_pv ⟨"AsmDesk$Assembler", "readPart", "(LAsmDesk$Order;C)Z"⟩ (by decide +kernel) (by decide +kernel)⟩
set_option maxRecDepth 20000 in
theorem cs_Assembler_73 : g_sV R_Assembler 73 R_Assembler y_Asm_readLabels b_Asm_readLabels 2 none 0 := ⟨⟨g_tw (i := 254) rfl (by decide +kernel), g_tw (i := 251) (by decide +kernel) (by decide +kernel), g_tw (i := 3) (by decide +kernel) (by decide +kernel), by decide +kernel, by decide +kernel, by decide +kernel⟩, g_tw (i := 253) (by decide +kernel) (by decide +kernel), g_pv ⟨"AsmDesk$Assembler", "readLabels", "()V"⟩ (by decide +kernel) (by decide +kernel)⟩
set_option maxRecDepth 20000 in
theorem cs_Assembler_76 : g_sV R_Assembler 76 R_Assembler y_Asm_readOrder b_Asm_readOrder 4 (some .boolean) 0 := ⟨⟨g_tw (i := 282) rfl (by decide +kernel), g_tw (i := 279) (by decide +kernel) (by decide +kernel), g_tw (i := 3) (by decide +kernel) (by decide +kernel), by decide +kernel, by decide +kernel, by decide +kernel⟩, g_tw (i := 281) (by decide +kernel) (by decide +kernel), g_pv ⟨"AsmDesk$Assembler", "readOrder", "()Z"⟩ (by decide +kernel) (by decide +kernel)⟩
set_option maxRecDepth 20000 in
theorem cs_Assembler_50 : g_sV R_Assembler 50 R_Fault y_Fault_clear b_Fault_clear 1 none 0 := ⟨⟨g_tw (i := 201) rfl (by decide +kernel), g_tw (i := 198) (by decide +kernel) (by decide +kernel), g_tw (i := 4) (by decide +kernel) (by decide +kernel), by decide +kernel, by decide +kernel, by decide +kernel⟩, g_tw (i := 199) (by decide +kernel) (by decide +kernel), g_tw (i := 200) (by decide +kernel) (by decide +kernel)⟩
set_option maxRecDepth 20000 in
theorem cs_Assembler_53 : g_sV R_Assembler 53 R_Program y_Program_clear b_Program_clear 1 none 0 := ⟨⟨g_tw (i := 205) rfl (by decide +kernel), g_tw (i := 202) (by decide +kernel) (by decide +kernel), g_tw (i := 6) (by decide +kernel) (by decide +kernel), by decide +kernel, by decide +kernel, by decide +kernel⟩, g_tw (i := 203) (by decide +kernel) (by decide +kernel), g_tw (i := 204) (by decide +kernel) (by decide +kernel)⟩
set_option maxRecDepth 20000 in
theorem cs_Assembler_54 : g_sV R_Assembler 54 R_Tokens y_Tokens_scan b_Tokens_scan 4 none 1 := ⟨⟨g_tw (i := 212) rfl (by decide +kernel), g_tw (i := 209) (by decide +kernel) (by decide +kernel), g_tw (i := 5) (by decide +kernel) (by decide +kernel), by decide +kernel, by decide +kernel, by decide +kernel⟩, g_tw (i := 210) (by decide +kernel) (by decide +kernel), g_tw (i := 211) (by decide +kernel) (by decide +kernel)⟩
set_option maxRecDepth 20000 in
theorem cs_Assembler_58 : g_sV R_Assembler 58 R_Assembler y_Asm_pass b_Asm_pass 3 (some .boolean) 1 := ⟨⟨g_tw (i := 246) rfl (by decide +kernel), g_tw (i := 243) (by decide +kernel) (by decide +kernel), g_tw (i := 3) (by decide +kernel) (by decide +kernel), by decide +kernel, by decide +kernel, by decide +kernel⟩, g_tw (i := 245) (by decide +kernel) (by decide +kernel), g_pv ⟨"AsmDesk$Assembler", "pass", "(Z)Z"⟩ (by decide +kernel) (by decide +kernel)⟩
set_option maxRecDepth 20000 in
theorem cs_AsmDesk_30 : g_sV R_AsmDesk 30 R_Tape y_Tape_append b_Tape_append 5 (some .boolean) 2 := ⟨⟨g_tw (i := 167) rfl (by decide +kernel), g_tw (i := 164) (by decide +kernel) (by decide +kernel), g_tw (i := 2) (by decide +kernel) (by decide +kernel), by decide +kernel, by decide +kernel, by decide +kernel⟩, g_tw (i := 165) (by decide +kernel) (by decide +kernel), g_tw (i := 166) (by decide +kernel) (by decide +kernel)⟩
set_option maxRecDepth 20000 in
theorem cs_Assembler_11 : g_sN y_Fault_init b_Fault_init 1 none 0 := ⟨g_tw (i := 53) rfl (by decide +kernel), g_tw (i := 4) (by decide +kernel) (by decide +kernel), ⟨by decide +kernel, by decide +kernel, by decide +kernel⟩, g_tw (i := 52) (by decide +kernel) (by decide +kernel), rfl⟩
set_option maxRecDepth 20000 in
theorem cs_Assembler_20 : g_sN y_Tokens_init b_Tokens_init 1 none 0 := ⟨g_tw (i := 69) rfl (by decide +kernel), g_tw (i := 5) (by decide +kernel) (by decide +kernel), ⟨by decide +kernel, by decide +kernel, by decide +kernel⟩, g_tw (i := 68) (by decide +kernel) (by decide +kernel), rfl⟩
set_option maxRecDepth 20000 in
theorem cs_Assembler_27 : g_sN y_Program_init b_Program_init 1 none 0 := ⟨g_tw (i := 96) rfl (by decide +kernel), g_tw (i := 6) (by decide +kernel) (by decide +kernel), ⟨by decide +kernel, by decide +kernel, by decide +kernel⟩, g_tw (i := 95) (by decide +kernel) (by decide +kernel), rfl⟩
set_option maxRecDepth 20000 in
theorem cs_AsmDesk_9 : g_sN y_Tape_init b_Tape_init 1 none 0 := ⟨g_tw (i := 33) rfl (by decide +kernel), g_tw (i := 2) (by decide +kernel) (by decide +kernel), ⟨by decide +kernel, by decide +kernel, by decide +kernel⟩, g_tw (i := 32) (by decide +kernel) (by decide +kernel), rfl⟩
set_option maxRecDepth 20000 in
theorem cs_AsmDesk_18 : g_sN y_Asm_init b_Asm_init 1 none 0 := ⟨g_tw (i := 47) rfl (by decide +kernel), g_tw (i := 3) (by decide +kernel) (by decide +kernel), ⟨by decide +kernel, by decide +kernel, by decide +kernel⟩, g_tw (i := 46) (by decide +kernel) (by decide +kernel), rfl⟩
set_option maxRecDepth 20000 in
theorem cs_AsmDesk_25 : g_sN y_Program_init b_Program_init 1 none 0 := ⟨g_tw (i := 96) rfl (by decide +kernel), g_tw (i := 6) (by decide +kernel) (by decide +kernel), ⟨by decide +kernel, by decide +kernel, by decide +kernel⟩, g_tw (i := 95) (by decide +kernel) (by decide +kernel), rfl⟩
