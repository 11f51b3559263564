abbrev b_Mod_thrown : ByteArray := prog_9_method_2_code
def y_Mod_thrown : MethodName := ⟨R_AsmDeskModel, "thrown", "()I"⟩
abbrev w_Mod_thrown : List Cond := .code y_Mod_thrown b_Mod_thrown 1 (some .int) :: g_TB
abbrev b_Mod_raise : ByteArray := prog_9_method_3_code
def y_Mod_raise : MethodName := ⟨R_AsmDeskModel, "raise", "(I)I"⟩
abbrev w_Mod_raise : List Cond := .code y_Mod_raise b_Mod_raise 2 (some .int) :: g_TB
abbrev b_Mod_see : ByteArray := prog_9_method_5_code
def y_Mod_see : MethodName := ⟨R_AsmDeskModel, "see", "(I)I"⟩
abbrev w_Mod_see : List Cond := .code y_Mod_see b_Mod_see 2 (some .int) :: g_TB
abbrev b_Mod_isDigit : ByteArray := prog_9_method_6_code
def y_Mod_isDigit : MethodName := ⟨R_AsmDeskModel, "isDigit", "(I)Z"⟩
abbrev w_Mod_isDigit : List Cond := .code y_Mod_isDigit b_Mod_isDigit 1 (some .boolean) :: g_TB
abbrev b_Mod_isSmall : ByteArray := prog_9_method_7_code
def y_Mod_isSmall : MethodName := ⟨R_AsmDeskModel, "isSmall", "(I)Z"⟩
abbrev w_Mod_isSmall : List Cond := .code y_Mod_isSmall b_Mod_isSmall 1 (some .boolean) :: g_TB
abbrev b_Mod_type : ByteArray := prog_9_method_4_code
def y_Mod_type : MethodName := ⟨R_AsmDeskModel, "type", "(JI)Z"⟩
abbrev w_Mod_type : List Cond := .code y_Mod_type b_Mod_type 6 (some .boolean) :: g_TB
abbrev b_Mod_token : ByteArray := prog_9_method_9_code
def y_Mod_token : MethodName := ⟨R_AsmDeskModel, "token", "(IIJ)V"⟩
abbrev w_Mod_token : List Cond := .code y_Mod_token b_Mod_token 5 none :: g_TB
abbrev b_Mod_note : ByteArray := prog_9_method_10_code
def y_Mod_note : MethodName := ⟨R_AsmDeskModel, "note", "(II)V"⟩
abbrev w_Mod_note : List Cond := .code y_Mod_note b_Mod_note 4 none :: g_TB
abbrev b_Mod_refuse : ByteArray := prog_9_method_11_code
def y_Mod_refuse : MethodName := ⟨R_AsmDeskModel, "refuse", "()Z"⟩
abbrev w_Mod_refuse : List Cond := .code y_Mod_refuse b_Mod_refuse 1 (some .boolean) :: g_TB
abbrev b_Mod_wantSign : ByteArray := prog_9_method_12_code
def y_Mod_wantSign : MethodName := ⟨R_AsmDeskModel, "wantSign", "(I)Z"⟩
abbrev w_Mod_wantSign : List Cond := .code y_Mod_wantSign b_Mod_wantSign 2 (some .boolean) :: g_TB
abbrev b_Mod_isSign : ByteArray := prog_9_method_13_code
def y_Mod_isSign : MethodName := ⟨R_AsmDeskModel, "isSign", "(I)Z"⟩
abbrev w_Mod_isSign : List Cond := .code y_Mod_isSign b_Mod_isSign 2 (some .boolean) :: g_TB
abbrev b_Mod_named : ByteArray := prog_9_method_14_code
def y_Mod_named : MethodName := ⟨R_AsmDeskModel, "named", "(IIIII)J"⟩
abbrev w_Mod_named : List Cond := .code y_Mod_named b_Mod_named 7 (some .long) :: g_TB
abbrev b_Mod_opOf : ByteArray := prog_9_method_15_code
def y_Mod_opOf : MethodName := ⟨R_AsmDeskModel, "opOf", "(J)I"⟩
abbrev w_Mod_opOf : List Cond := .code y_Mod_opOf b_Mod_opOf 2 (some .int) :: g_TB
abbrev b_Mod_wantRegister : ByteArray := prog_9_method_16_code
def y_Mod_wantRegister : MethodName := ⟨R_AsmDeskModel, "wantRegister", "(I)Z"⟩
abbrev w_Mod_wantRegister : List Cond := .code y_Mod_wantRegister b_Mod_wantRegister 4 (some .boolean) :: g_TB
abbrev b_Mod_wantComma : ByteArray := prog_9_method_18_code
def y_Mod_wantComma : MethodName := ⟨R_AsmDeskModel, "wantComma", "()Z"⟩
abbrev w_Mod_wantComma : List Cond := .code y_Mod_wantComma b_Mod_wantComma 1 (some .boolean) :: g_TB
abbrev b_Mod_lay : ByteArray := prog_9_method_22_code
def y_Mod_lay : MethodName := ⟨R_AsmDeskModel, "lay", "(I)V"⟩
abbrev w_Mod_lay : List Cond := .code y_Mod_lay b_Mod_lay 2 none :: g_TB
abbrev b_Mod_fault : ByteArray := prog_9_method_26_code
def y_Mod_fault : MethodName := ⟨R_AsmDeskModel, "fault", "(I)I"⟩
abbrev w_Mod_fault : List Cond := .code y_Mod_fault b_Mod_fault 2 (some .int) :: g_TB
abbrev b_Mod_word : ByteArray := prog_9_method_27_code
def y_Mod_word : MethodName := ⟨R_AsmDeskModel, "word", "(I)I"⟩
abbrev w_Mod_word : List Cond := .code y_Mod_word b_Mod_word 2 (some .int) :: g_TB
abbrev b_Mod_start : ByteArray := prog_9_method_28_code
def y_Mod_start : MethodName := ⟨R_AsmDeskModel, "start", "(I)I"⟩
abbrev w_Mod_start : List Cond := .code y_Mod_start b_Mod_start 2 (some .int) :: g_TB
abbrev b_Mod_labels : ByteArray := prog_9_method_29_code
def y_Mod_labels : MethodName := ⟨R_AsmDeskModel, "labels", "()I"⟩
abbrev w_Mod_labels : List Cond := .code y_Mod_labels b_Mod_labels 1 (some .int) :: g_TB
abbrev b_Mod_told : ByteArray := prog_9_method_31_code
def y_Mod_told : MethodName := ⟨R_AsmDeskModel, "told", "()I"⟩
abbrev w_Mod_told : List Cond := .code y_Mod_told b_Mod_told 1 (some .int) :: g_TB
abbrev b_Mod_label : ByteArray := prog_9_method_30_code
def y_Mod_label : MethodName := ⟨R_AsmDeskModel, "label", "(J)I"⟩
abbrev w_Mod_label : List Cond := .code y_Mod_label b_Mod_label 4 (some .int) :: g_TB
abbrev b_Mod_init : ByteArray := prog_9_method_1_code
def y_Mod_init : MethodName := ⟨R_AsmDeskModel, "<init>", "()V"⟩
abbrev w_Mod_init : List Cond := .code y_Mod_init b_Mod_init 1 none :: g_TB
abbrev b_Mod_tokenize : ByteArray := prog_9_method_8_code
def y_Mod_tokenize : MethodName := ⟨R_AsmDeskModel, "tokenize", "()V"⟩
abbrev w_Mod_tokenize : List Cond := .code y_Mod_tokenize b_Mod_tokenize 8 none :: g_TB
abbrev b_Mod_wn1 : ByteArray := prog_9_method_17_code
def y_Mod_wn1 : MethodName := ⟨R_AsmDeskModel, "wantNumber", "(IZ)Z"⟩
abbrev w_Mod_wn1 : List Cond := .code y_Mod_wn1 b_Mod_wn1 9 (some .boolean) :: g_TB
abbrev b_Mod_wn2 : ByteArray := prog_9_method_17_code
def y_Mod_wn2 : MethodName := ⟨R_AsmDeskModel, "wantNumber", "(IZ)Z"⟩
abbrev w_Mod_wn2 : List Cond := .code y_Mod_wn2 b_Mod_wn2 9 (some .boolean) :: g_TB
abbrev b_Mod_wn32 : ByteArray := prog_9_method_17_code
def y_Mod_wn32 : MethodName := ⟨R_AsmDeskModel, "wantNumber", "(IZ)Z"⟩
abbrev w_Mod_wn32 : List Cond := .code y_Mod_wn32 b_Mod_wn32 9 (some .boolean) :: g_TB
abbrev b_Mod_wn33 : ByteArray := prog_9_method_17_code
def y_Mod_wn33 : MethodName := ⟨R_AsmDeskModel, "wantNumber", "(IZ)Z"⟩
abbrev w_Mod_wn33 : List Cond := .code y_Mod_wn33 b_Mod_wn33 9 (some .boolean) :: g_TB
abbrev b_Mod_wn34 : ByteArray := prog_9_method_17_code
def y_Mod_wn34 : MethodName := ⟨R_AsmDeskModel, "wantNumber", "(IZ)Z"⟩
abbrev w_Mod_wn34 : List Cond := .code y_Mod_wn34 b_Mod_wn34 9 (some .boolean) :: g_TB
abbrev b_Mod_wantParts : ByteArray := prog_9_method_19_code
def y_Mod_wantParts : MethodName := ⟨R_AsmDeskModel, "wantParts", "(I)Z"⟩
abbrev w_Mod_wantParts : List Cond := .code y_Mod_wantParts b_Mod_wantParts 2 (some .boolean) :: g_TB
abbrev b_Mod_readLabels : ByteArray := prog_9_method_20_code
def y_Mod_readLabels : MethodName := ⟨R_AsmDeskModel, "readLabels", "()Z"⟩
abbrev w_Mod_readLabels : List Cond := .code y_Mod_readLabels b_Mod_readLabels 2 (some .boolean) :: g_TB
abbrev b_Mod_readStatement : ByteArray := prog_9_method_21_code
def y_Mod_readStatement : MethodName := ⟨R_AsmDeskModel, "readStatement", "()Z"⟩
abbrev w_Mod_readStatement : List Cond := .code y_Mod_readStatement b_Mod_readStatement 3 (some .boolean) :: g_TB
abbrev b_Mod_resolve : ByteArray := prog_9_method_24_code
def y_Mod_resolve : MethodName := ⟨R_AsmDeskModel, "resolve", "(I)V"⟩
abbrev w_Mod_resolve : List Cond := .code y_Mod_resolve b_Mod_resolve 4 none :: g_TB
abbrev b_Mod_readAll : ByteArray := prog_9_method_23_code
def y_Mod_readAll : MethodName := ⟨R_AsmDeskModel, "readAll", "()V"⟩
abbrev w_Mod_readAll : List Cond := .code y_Mod_readAll b_Mod_readAll 3 none :: g_TB
abbrev b_Mod_assemble : ByteArray := prog_9_method_25_code
def y_Mod_assemble : MethodName := ⟨R_AsmDeskModel, "assemble", "()I"⟩
abbrev w_Mod_assemble : List Cond := .code y_Mod_assemble b_Mod_assemble 2 (some .int) :: g_TB
theorem tw_78 : Cond.fieldLink "AsmDeskModel" 59 "AsmDeskModel" "thrown" "I" ∈ g_TB := g_tw (i := 527) (by decide +kernel) (by decide +kernel)
theorem tw_79 : Cond.fieldLink "AsmDeskModel" 63 "AsmDeskModel" "taped" "I" ∈ g_TB := g_tw (i := 529) (by decide +kernel) (by decide +kernel)
theorem tw_80 : Cond.fieldLink "AsmDeskModel" 7 "AsmDeskModel" "tape" "[I" ∈ g_TB := g_tw (i := 528) (by decide +kernel) (by decide +kernel)
theorem tw_81 : Cond.constantLong "AsmDeskModel" 66 255 ∈ g_TB := g_tw (i := 623) (by decide +kernel) (by decide +kernel)
theorem tw_82 : Cond.fieldLink "AsmDeskModel" 13 "AsmDeskModel" "tokenKind" "[I" ∈ g_TB := g_tw (i := 533) (by decide +kernel) (by decide +kernel)
theorem tw_83 : Cond.fieldLink "AsmDeskModel" 68 "AsmDeskModel" "tokens" "I" ∈ g_TB := g_tw (i := 532) (by decide +kernel) (by decide +kernel)
theorem tw_84 : Cond.fieldLink "AsmDeskModel" 16 "AsmDeskModel" "tokenPlace" "[I" ∈ g_TB := g_tw (i := 534) (by decide +kernel) (by decide +kernel)
theorem tw_85 : Cond.fieldLink "AsmDeskModel" 19 "AsmDeskModel" "tokenValue" "[J" ∈ g_TB := g_tw (i := 535) (by decide +kernel) (by decide +kernel)
theorem tw_86 : Cond.fieldLink "AsmDeskModel" 90 "AsmDeskModel" "fault" "I" ∈ g_TB := g_tw (i := 530) (by decide +kernel) (by decide +kernel)
theorem tw_87 : Cond.fieldLink "AsmDeskModel" 93 "AsmDeskModel" "faultPlace" "I" ∈ g_TB := g_tw (i := 531) (by decide +kernel) (by decide +kernel)
theorem tw_88 : Cond.fieldLink "AsmDeskModel" 96 "AsmDeskModel" "at" "I" ∈ g_TB := g_tw (i := 536) (by decide +kernel) (by decide +kernel)
theorem tw_89 : Cond.constantLong "AsmDeskModel" 111 29184 ∈ g_TB := g_tw (i := 683) (by decide +kernel) (by decide +kernel)
theorem tw_90 : Cond.constantLong "AsmDeskModel" 81 48 ∈ g_TB := g_tw (i := 644) (by decide +kernel) (by decide +kernel)
theorem tw_91 : Cond.constantLong "AsmDeskModel" 113 7 ∈ g_TB := g_tw (i := 684) (by decide +kernel) (by decide +kernel)
theorem tw_92 : Cond.fieldLink "AsmDeskModel" 115 "AsmDeskModel" "made" "I" ∈ g_TB := g_tw (i := 554) (by decide +kernel) (by decide +kernel)
theorem tw_93 : Cond.fieldLink "AsmDeskModel" 156 "AsmDeskModel" "next" "I" ∈ g_TB := g_tw (i := 547) (by decide +kernel) (by decide +kernel)
theorem tw_94 : Cond.fieldLink "AsmDeskModel" 29 "AsmDeskModel" "partAddress" "[I" ∈ g_TB := g_tw (i := 541) (by decide +kernel) (by decide +kernel)
theorem tw_95 : Cond.fieldLink "AsmDeskModel" 121 "AsmDeskModel" "parts" "I" ∈ g_TB := g_tw (i := 540) (by decide +kernel) (by decide +kernel)
theorem tw_96 : Cond.fieldLink "AsmDeskModel" 32 "AsmDeskModel" "partWord" "[I" ∈ g_TB := g_tw (i := 542) (by decide +kernel) (by decide +kernel)
theorem tw_97 : Cond.fieldLink "AsmDeskModel" 47 "AsmDeskModel" "words" "[I" ∈ g_TB := g_tw (i := 548) (by decide +kernel) (by decide +kernel)
theorem tw_98 : Cond.fieldLink "AsmDeskModel" 50 "AsmDeskModel" "starts" "[I" ∈ g_TB := g_tw (i := 549) (by decide +kernel) (by decide +kernel)
theorem tw_99 : Cond.fieldLink "AsmDeskModel" 192 "AsmDeskModel" "known" "I" ∈ g_TB := g_tw (i := 550) (by decide +kernel) (by decide +kernel)
theorem tw_100 : Cond.fieldLink "AsmDeskModel" 195 "AsmDeskModel" "told" "I" ∈ g_TB := g_tw (i := 553) (by decide +kernel) (by decide +kernel)
theorem tw_101 : Cond.fieldLink "AsmDeskModel" 53 "AsmDeskModel" "knownName" "[J" ∈ g_TB := g_tw (i := 551) (by decide +kernel) (by decide +kernel)
theorem tw_102 : Cond.fieldLink "AsmDeskModel" 56 "AsmDeskModel" "knownAddress" "[I" ∈ g_TB := g_tw (i := 552) (by decide +kernel) (by decide +kernel)
theorem tw_103 : Cond.methodLink "AsmDeskModel" 1 objectInit ∈ g_TB := g_tw (i := 526) (by decide +kernel) (by decide +kernel)
theorem tw_104 : Cond.fieldLink "AsmDeskModel" 23 "AsmDeskModel" "labelName" "[J" ∈ g_TB := g_tw (i := 538) (by decide +kernel) (by decide +kernel)
theorem tw_105 : Cond.fieldLink "AsmDeskModel" 26 "AsmDeskModel" "labelAddress" "[I" ∈ g_TB := g_tw (i := 539) (by decide +kernel) (by decide +kernel)
theorem tw_106 : Cond.fieldLink "AsmDeskModel" 35 "AsmDeskModel" "partKind" "[I" ∈ g_TB := g_tw (i := 543) (by decide +kernel) (by decide +kernel)
theorem tw_107 : Cond.fieldLink "AsmDeskModel" 38 "AsmDeskModel" "partLabel" "[J" ∈ g_TB := g_tw (i := 544) (by decide +kernel) (by decide +kernel)
theorem tw_108 : Cond.fieldLink "AsmDeskModel" 41 "AsmDeskModel" "partPlace" "[I" ∈ g_TB := g_tw (i := 545) (by decide +kernel) (by decide +kernel)
theorem tw_109 : Cond.fieldLink "AsmDeskModel" 44 "AsmDeskModel" "beginning" "[I" ∈ g_TB := g_tw (i := 546) (by decide +kernel) (by decide +kernel)
theorem tw_110 : Cond.constantLong "AsmDeskModel" 79 10 ∈ g_TB := g_tw (i := 643) (by decide +kernel) (by decide +kernel)
theorem tw_111 : Cond.fieldLink "AsmDeskModel" 124 "AsmDeskModel" "given" "J" ∈ g_TB := g_tw (i := 555) (by decide +kernel) (by decide +kernel)
theorem tw_112 : Cond.constantLong "AsmDeskModel" 130 (-2048) ∈ g_TB := g_tw (i := 702) (by decide +kernel) (by decide +kernel)
theorem tw_113 : Cond.constantLong "AsmDeskModel" 136 2047 ∈ g_TB := g_tw (i := 705) (by decide +kernel) (by decide +kernel)
theorem tw_114 : Cond.constantLong "AsmDeskModel" 128 (-2147483648) ∈ g_TB := g_tw (i := 701) (by decide +kernel) (by decide +kernel)
theorem tw_115 : Cond.constantLong "AsmDeskModel" 132 2147483647 ∈ g_TB := g_tw (i := 703) (by decide +kernel) (by decide +kernel)
theorem tw_116 : Cond.constantLong "AsmDeskModel" 134 3 ∈ g_TB := g_tw (i := 704) (by decide +kernel) (by decide +kernel)
theorem tw_117 : Cond.constantLong "AsmDeskModel" 151 58 ∈ g_TB := g_tw (i := 660) (by decide +kernel) (by decide +kernel)
theorem tw_118 : Cond.fieldLink "AsmDeskModel" 153 "AsmDeskModel" "labels" "I" ∈ g_TB := g_tw (i := 537) (by decide +kernel) (by decide +kernel)
theorem tw_119 : Cond.constantLong "AsmDeskModel" 175 4 ∈ g_TB := g_tw (i := 711) (by decide +kernel) (by decide +kernel)
theorem tw_120 : Cond.constantLong "AsmDeskModel" 173 256 ∈ g_TB := g_tw (i := 710) (by decide +kernel) (by decide +kernel)
set_option maxRecDepth 20000 in
theorem cs_AsmDeskModel_99 : g_sV R_AsmDeskModel 99 R_AsmDeskModel y_Mod_note b_Mod_note 4 none 2 := ⟨⟨g_tw (i := 664) rfl (by decide +kernel), g_tw (i := 661) (by decide +kernel) (by decide +kernel), g_tw (i := 7) (by decide +kernel) (by decide +kernel), by decide +kernel, by decide +kernel, by decide +kernel⟩, g_tw (i := 663) (by decide +kernel) (by decide +kernel), g_pv ⟨"AsmDeskModel", "note", "(II)V"⟩ (by decide +kernel) (by decide +kernel)⟩
set_option maxRecDepth 20000 in
theorem cs_AsmDeskModel_103 : g_sV R_AsmDeskModel 103 R_AsmDeskModel y_Mod_refuse b_Mod_refuse 1 (some .boolean) 0 := ⟨⟨g_tw (i := 674) rfl (by decide +kernel), g_tw (i := 671) (by decide +kernel) (by decide +kernel), g_tw (i := 7) (by decide +kernel) (by decide +kernel), by decide +kernel, by decide +kernel, by decide +kernel⟩, g_tw (i := 673) (by decide +kernel) (by decide +kernel), g_pv ⟨"AsmDeskModel", "refuse", "()Z"⟩ (by decide +kernel) (by decide +kernel)⟩
set_option maxRecDepth 20000 in
theorem cs_AsmDeskModel_107 : g_sS R_AsmDeskModel 107 y_Mod_named b_Mod_named 7 (some .long) 5 := ⟨⟨g_tw (i := 670) rfl (by decide +kernel), g_tw (i := 668) (by decide +kernel) (by decide +kernel), g_tw (i := 7) (by decide +kernel) (by decide +kernel), by decide +kernel, by decide +kernel, by decide +kernel⟩, g_tw (i := 669) (by decide +kernel) (by decide +kernel)⟩
set_option maxRecDepth 20000 in
theorem cs_AsmDeskModel_138 : g_sV R_AsmDeskModel 138 R_AsmDeskModel y_Mod_wantSign b_Mod_wantSign 2 (some .boolean) 1 := ⟨⟨g_tw (i := 692) rfl (by decide +kernel), g_tw (i := 689) (by decide +kernel) (by decide +kernel), g_tw (i := 7) (by decide +kernel) (by decide +kernel), by decide +kernel, by decide +kernel, by decide +kernel⟩, g_tw (i := 691) (by decide +kernel) (by decide +kernel), g_pv ⟨"AsmDeskModel", "wantSign", "(I)Z"⟩ (by decide +kernel) (by decide +kernel)⟩
set_option maxRecDepth 20000 in
theorem cs_AsmDeskModel_189 : g_sV R_AsmDeskModel 189 R_AsmDeskModel y_Mod_raise b_Mod_raise 2 (some .int) 1 := ⟨⟨g_tw (i := 719) rfl (by decide +kernel), g_tw (i := 716) (by decide +kernel) (by decide +kernel), g_tw (i := 7) (by decide +kernel) (by decide +kernel), by decide +kernel, by decide +kernel, by decide +kernel⟩, g_tw (i := 718) (by decide +kernel) (by decide +kernel), g_pv ⟨"AsmDeskModel", "raise", "(I)I"⟩ (by decide +kernel) (by decide +kernel)⟩
set_option maxRecDepth 20000 in
theorem cs_AsmDeskModel_86 : g_sV R_AsmDeskModel 86 R_AsmDeskModel y_Mod_token b_Mod_token 5 none 3 := ⟨⟨g_tw (i := 651) rfl (by decide +kernel), g_tw (i := 648) (by decide +kernel) (by decide +kernel), g_tw (i := 7) (by decide +kernel) (by decide +kernel), by decide +kernel, by decide +kernel, by decide +kernel⟩, g_tw (i := 650) (by decide +kernel) (by decide +kernel), g_pv ⟨"AsmDeskModel", "token", "(IIJ)V"⟩ (by decide +kernel) (by decide +kernel)⟩
set_option maxRecDepth 20000 in
theorem cs_AsmDeskModel_71 : g_sS R_AsmDeskModel 71 y_Mod_isDigit b_Mod_isDigit 1 (some .boolean) 1 := ⟨⟨g_tw (i := 638) rfl (by decide +kernel), g_tw (i := 636) (by decide +kernel) (by decide +kernel), g_tw (i := 7) (by decide +kernel) (by decide +kernel), by decide +kernel, by decide +kernel, by decide +kernel⟩, g_tw (i := 637) (by decide +kernel) (by decide +kernel)⟩
set_option maxRecDepth 20000 in
theorem cs_AsmDeskModel_83 : g_sS R_AsmDeskModel 83 y_Mod_isSmall b_Mod_isSmall 1 (some .boolean) 1 := ⟨⟨g_tw (i := 647) rfl (by decide +kernel), g_tw (i := 645) (by decide +kernel) (by decide +kernel), g_tw (i := 7) (by decide +kernel) (by decide +kernel), by decide +kernel, by decide +kernel, by decide +kernel⟩, g_tw (i := 646) (by decide +kernel) (by decide +kernel)⟩
set_option maxRecDepth 20000 in
theorem cs_AsmDeskModel_75 : g_sV R_AsmDeskModel 75 R_AsmDeskModel y_Mod_see b_Mod_see 2 (some .int) 1 := ⟨⟨g_tw (i := 642) rfl (by decide +kernel), g_tw (i := 639) (by decide +kernel) (by decide +kernel), g_tw (i := 7) (by decide +kernel) (by decide +kernel), by decide +kernel, by decide +kernel, by decide +kernel⟩, g_tw (i := 641) (by decide +kernel) (by decide +kernel), g_pv ⟨"AsmDeskModel", "see", "(I)I"⟩ (by decide +kernel) (by decide +kernel)⟩
set_option maxRecDepth 20000 in
theorem cs_AsmDeskModel_118 : g_sV R_AsmDeskModel 118 R_AsmDeskModel y_Mod_isSign b_Mod_isSign 2 (some .boolean) 1 := ⟨⟨g_tw (i := 700) rfl (by decide +kernel), g_tw (i := 697) (by decide +kernel) (by decide +kernel), g_tw (i := 7) (by decide +kernel) (by decide +kernel), by decide +kernel, by decide +kernel, by decide +kernel⟩, g_tw (i := 699) (by decide +kernel) (by decide +kernel), g_pv ⟨"AsmDeskModel", "isSign", "(I)Z"⟩ (by decide +kernel) (by decide +kernel)⟩
set_option maxRecDepth 20000 in
theorem cs_AsmDeskModel_147 : g_sV R_AsmDeskModel 147 R_AsmDeskModel y_Mod_wn34 b_Mod_wn34 9 (some .boolean) 2 := ⟨⟨g_tw (i := 696) rfl (by decide +kernel), g_tw (i := 693) (by decide +kernel) (by decide +kernel), g_tw (i := 7) (by decide +kernel) (by decide +kernel), by decide +kernel, by decide +kernel, by decide +kernel⟩, g_tw (i := 695) (by decide +kernel) (by decide +kernel), g_pv ⟨"AsmDeskModel", "wantNumber", "(IZ)Z"⟩ (by decide +kernel) (by decide +kernel)⟩
set_option maxRecDepth 20000 in
theorem cs_AsmDeskModel_141 : g_sV R_AsmDeskModel 141 R_AsmDeskModel y_Mod_wantRegister b_Mod_wantRegister 4 (some .boolean) 1 := ⟨⟨g_tw (i := 682) rfl (by decide +kernel), g_tw (i := 679) (by decide +kernel) (by decide +kernel), g_tw (i := 7) (by decide +kernel) (by decide +kernel), by decide +kernel, by decide +kernel, by decide +kernel⟩, g_tw (i := 681) (by decide +kernel) (by decide +kernel), g_pv ⟨"AsmDeskModel", "wantRegister", "(I)Z"⟩ (by decide +kernel) (by decide +kernel)⟩
set_option maxRecDepth 20000 in
theorem cs_AsmDeskModel_144 : g_sV R_AsmDeskModel 144 R_AsmDeskModel y_Mod_wantComma b_Mod_wantComma 1 (some .boolean) 0 := ⟨⟨g_tw (i := 688) rfl (by decide +kernel), g_tw (i := 685) (by decide +kernel) (by decide +kernel), g_tw (i := 7) (by decide +kernel) (by decide +kernel), by decide +kernel, by decide +kernel, by decide +kernel⟩, g_tw (i := 687) (by decide +kernel) (by decide +kernel), g_pv ⟨"AsmDeskModel", "wantComma", "()Z"⟩ (by decide +kernel) (by decide +kernel)⟩
set_option maxRecDepth 20000 in
theorem cs_AsmDeskModel_159 : g_sV R_AsmDeskModel 159 R_AsmDeskModel y_Mod_readLabels b_Mod_readLabels 2 (some .boolean) 0 := ⟨⟨g_tw (i := 659) rfl (by decide +kernel), g_tw (i := 656) (by decide +kernel) (by decide +kernel), g_tw (i := 7) (by decide +kernel) (by decide +kernel), by decide +kernel, by decide +kernel, by decide +kernel⟩, g_tw (i := 658) (by decide +kernel) (by decide +kernel), g_pv ⟨"AsmDeskModel", "readLabels", "()Z"⟩ (by decide +kernel) (by decide +kernel)⟩
set_option maxRecDepth 20000 in
theorem cs_AsmDeskModel_162 : g_sS R_AsmDeskModel 162 y_Mod_opOf b_Mod_opOf 2 (some .int) 1 := ⟨⟨g_tw (i := 667) rfl (by decide +kernel), g_tw (i := 665) (by decide +kernel) (by decide +kernel), g_tw (i := 7) (by decide +kernel) (by decide +kernel), by decide +kernel, by decide +kernel, by decide +kernel⟩, g_tw (i := 666) (by decide +kernel) (by decide +kernel)⟩
set_option maxRecDepth 20000 in
theorem cs_AsmDeskModel_166 : g_sV R_AsmDeskModel 166 R_AsmDeskModel y_Mod_wantParts b_Mod_wantParts 2 (some .boolean) 1 := ⟨⟨g_tw (i := 678) rfl (by decide +kernel), g_tw (i := 675) (by decide +kernel) (by decide +kernel), g_tw (i := 7) (by decide +kernel) (by decide +kernel), by decide +kernel, by decide +kernel, by decide +kernel⟩, g_tw (i := 677) (by decide +kernel) (by decide +kernel), g_pv ⟨"AsmDeskModel", "wantParts", "(I)Z"⟩ (by decide +kernel) (by decide +kernel)⟩
set_option maxRecDepth 20000 in
theorem cs_AsmDeskModel_169 : g_sV R_AsmDeskModel 169 R_AsmDeskModel y_Mod_lay b_Mod_lay 2 none 1 := ⟨⟨g_tw (i := 709) rfl (by decide +kernel), g_tw (i := 706) (by decide +kernel) (by decide +kernel), g_tw (i := 7) (by decide +kernel) (by decide +kernel), by decide +kernel, by decide +kernel, by decide +kernel⟩, g_tw (i := 708) (by decide +kernel) (by decide +kernel), g_pv ⟨"AsmDeskModel", "lay", "(I)V"⟩ (by decide +kernel) (by decide +kernel)⟩
set_option maxRecDepth 20000 in
theorem cs_AsmDeskModel_177 : g_sV R_AsmDeskModel 177 R_AsmDeskModel y_Mod_tokenize b_Mod_tokenize 8 none 0 := ⟨⟨g_tw (i := 635) rfl (by decide +kernel), g_tw (i := 632) (by decide +kernel) (by decide +kernel), g_tw (i := 7) (by decide +kernel) (by decide +kernel), by decide +kernel, by decide +kernel, by decide +kernel⟩, g_tw (i := 634) (by decide +kernel) (by decide +kernel), g_pv ⟨"AsmDeskModel", "tokenize", "()V"⟩ (by decide +kernel) (by decide +kernel)⟩
set_option maxRecDepth 20000 in
theorem cs_AsmDeskModel_183 : g_sV R_AsmDeskModel 183 R_AsmDeskModel y_Mod_resolve b_Mod_resolve 4 none 1 := ⟨⟨g_tw (i := 715) rfl (by decide +kernel), g_tw (i := 712) (by decide +kernel) (by decide +kernel), g_tw (i := 7) (by decide +kernel) (by decide +kernel), by decide +kernel, by decide +kernel, by decide +kernel⟩, g_tw (i := 714) (by decide +kernel) (by decide +kernel), g_pv ⟨"AsmDeskModel", "resolve", "(I)V"⟩ (by decide +kernel) (by decide +kernel)⟩
set_option maxRecDepth 20000 in
theorem cs_AsmDeskModel_180 : g_sV R_AsmDeskModel 180 R_AsmDeskModel y_Mod_readStatement b_Mod_readStatement 3 (some .boolean) 0 := ⟨⟨g_tw (i := 655) rfl (by decide +kernel), g_tw (i := 652) (by decide +kernel) (by decide +kernel), g_tw (i := 7) (by decide +kernel) (by decide +kernel), by decide +kernel, by decide +kernel, by decide +kernel⟩, g_tw (i := 654) (by decide +kernel) (by decide +kernel), g_pv ⟨"AsmDeskModel", "readStatement", "()Z"⟩ (by decide +kernel) (by decide +kernel)⟩
set_option maxRecDepth 20000 in
theorem cs_AsmDeskModel_186 : g_sV R_AsmDeskModel 186 R_AsmDeskModel y_Mod_readAll b_Mod_readAll 3 none 0 := ⟨⟨g_tw (i := 631) rfl (by decide +kernel), g_tw (i := 628) (by decide +kernel) (by decide +kernel), g_tw (i := 7) (by decide +kernel) (by decide +kernel), by decide +kernel, by decide +kernel, by decide +kernel⟩, g_tw (i := 630) (by decide +kernel) (by decide +kernel), g_pv ⟨"AsmDeskModel", "readAll", "()V"⟩ (by decide +kernel) (by decide +kernel)⟩
