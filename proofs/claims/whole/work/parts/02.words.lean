theorem k_0 : Cond.initialized "PlainPortLaw" ∈ WD := wd_of 0 rfl rfl
theorem k_1 : Cond.initialized "PlainPort" ∈ WD := wd_of 1 rfl rfl
theorem k_2 : Cond.initialized "PlainPort$ActRow" ∈ WD := wd_of 2 rfl rfl
theorem k_3 : Cond.initialized "PlainPort$Order" ∈ WD := wd_of 3 rfl rfl
theorem k_4 : Cond.initialized "PlainPort$Picture" ∈ WD := wd_of 4 rfl rfl
theorem k_5 : Cond.initialized "PlainPort$Shares" ∈ WD := wd_of 5 rfl rfl
theorem k_6 : Cond.initialized "PlainPort$Bringing" ∈ WD := wd_of 6 rfl rfl
theorem k_7 : Cond.initialized "PlainPortModel" ∈ WD := wd_of 7 rfl rfl
theorem k_8 : Cond.initialized "java/lang/Throwable" ∈ WD := wd_of 8 rfl rfl
theorem k_9 : Cond.initialized "java/lang/Exception" ∈ WD := wd_of 9 rfl rfl
theorem k_10 : Cond.initialized "java/lang/RuntimeException" ∈ WD := wd_of 10 rfl rfl
theorem k_11 : Cond.initialized "java/lang/IllegalArgumentException" ∈ WD := wd_of 11 rfl rfl
theorem k_12 : Cond.initialized "java/util/Arrays" ∈ WD := wd_of 12 rfl rfl
theorem k_13 : Cond.initialized "java/lang/Math" ∈ WD := wd_of 13 rfl rfl
theorem k_14 : Cond.initialized "java/lang/Integer" ∈ WD := wd_of 14 rfl rfl
theorem k_15 : Cond.initialized "java/lang/IndexOutOfBoundsException" ∈ WD := wd_of 15 rfl rfl
theorem k_16 : Cond.classLink "PlainPortLaw" 8 "PlainPort" ∈ WD := wd_of 16 rfl rfl
theorem k_17 : Cond.instantiable "PlainPort" 8 ∈ WD := wd_of 17 rfl rfl
theorem k_18 : Cond.methodLink "PlainPortLaw" 43 y_X_init ∈ WD := wd_of 18 rfl rfl
theorem k_19 : Cond.instanceMethod y_X_init ∈ WD := wd_of 19 rfl rfl
theorem k_20 : Cond.code y_X_init prog_1_method_1_code 1 none ∈ WD := wd_of 20 rfl rfl
theorem k_21 : Cond.methodLink "PlainPort" 1 ⟨"java/lang/Object", "<init>", "()V"⟩ ∈ WD := wd_of 21 rfl rfl
theorem k_22 : Cond.instanceMethod ⟨"java/lang/Object", "<init>", "()V"⟩ ∈ WD := wd_of 22 rfl rfl
theorem k_23 : Cond.code ⟨"java/lang/Object", "<init>", "()V"⟩ object_method_1_code 1 none ∈ WD := wd_of 23 rfl rfl
theorem k_24 : Cond.classLink "PlainPort" 7 "PlainPort$ActRow" ∈ WD := wd_of 24 rfl rfl
theorem k_25 : Cond.instantiable "PlainPort$ActRow" 6 ∈ WD := wd_of 25 rfl rfl
theorem n_26 : Cond.methodLinkNest "PlainPort" 9 y_A_init "PlainPort" ∈ nws := List.mem_filter.mpr ⟨List.mem_of_getElem? (i := 26) rfl, rfl⟩
theorem k_27 : Cond.instanceMethod y_A_init ∈ WD := wd_of 27 rfl rfl
theorem k_28 : Cond.code y_A_init prog_2_method_1_code 1 none ∈ WD := wd_of 28 rfl rfl
theorem k_29 : Cond.methodLink "PlainPort$ActRow" 3 ⟨"java/lang/Object", "<init>", "()V"⟩ ∈ WD := wd_of 29 rfl rfl
theorem k_30 : Cond.fieldLink "PlainPort$ActRow" 9 "PlainPort$ActRow" "kinds" "[I" ∈ WD := wd_of 30 rfl rfl
theorem n_31 : Cond.fieldLinkNest "PlainPort$Picture" 36 "PlainPort$ActRow" "kinds" "[I" "PlainPort" ∈ nws := List.mem_filter.mpr ⟨List.mem_of_getElem? (i := 31) rfl, rfl⟩
theorem n_32 : Cond.fieldLinkNest "PlainPort$Shares" 47 "PlainPort$ActRow" "kinds" "[I" "PlainPort" ∈ nws := List.mem_filter.mpr ⟨List.mem_of_getElem? (i := 32) rfl, rfl⟩
theorem n_33 : Cond.fieldLinkNest "PlainPort" 120 "PlainPort$ActRow" "kinds" "[I" "PlainPort" ∈ nws := List.mem_filter.mpr ⟨List.mem_of_getElem? (i := 33) rfl, rfl⟩
theorem k_34 : Cond.fieldLink "PlainPort$ActRow" 15 "PlainPort$ActRow" "as" "[I" ∈ WD := wd_of 34 rfl rfl
theorem n_35 : Cond.fieldLinkNest "PlainPort$Picture" 41 "PlainPort$ActRow" "as" "[I" "PlainPort" ∈ nws := List.mem_filter.mpr ⟨List.mem_of_getElem? (i := 35) rfl, rfl⟩
theorem n_36 : Cond.fieldLinkNest "PlainPort$Shares" 65 "PlainPort$ActRow" "as" "[I" "PlainPort" ∈ nws := List.mem_filter.mpr ⟨List.mem_of_getElem? (i := 36) rfl, rfl⟩
theorem n_37 : Cond.fieldLinkNest "PlainPort" 123 "PlainPort$ActRow" "as" "[I" "PlainPort" ∈ nws := List.mem_filter.mpr ⟨List.mem_of_getElem? (i := 37) rfl, rfl⟩
theorem k_38 : Cond.fieldLink "PlainPort$ActRow" 18 "PlainPort$ActRow" "bs" "[I" ∈ WD := wd_of 38 rfl rfl
theorem n_39 : Cond.fieldLinkNest "PlainPort$Picture" 44 "PlainPort$ActRow" "bs" "[I" "PlainPort" ∈ nws := List.mem_filter.mpr ⟨List.mem_of_getElem? (i := 39) rfl, rfl⟩
theorem n_40 : Cond.fieldLinkNest "PlainPort$Shares" 58 "PlainPort$ActRow" "bs" "[I" "PlainPort" ∈ nws := List.mem_filter.mpr ⟨List.mem_of_getElem? (i := 40) rfl, rfl⟩
theorem n_41 : Cond.fieldLinkNest "PlainPort" 126 "PlainPort$ActRow" "bs" "[I" "PlainPort" ∈ nws := List.mem_filter.mpr ⟨List.mem_of_getElem? (i := 41) rfl, rfl⟩
theorem k_42 : Cond.fieldLink "PlainPort$ActRow" 21 "PlainPort$ActRow" "valids" "[I" ∈ WD := wd_of 42 rfl rfl
theorem n_43 : Cond.fieldLinkNest "PlainPort$Shares" 55 "PlainPort$ActRow" "valids" "[I" "PlainPort" ∈ nws := List.mem_filter.mpr ⟨List.mem_of_getElem? (i := 43) rfl, rfl⟩
theorem n_44 : Cond.fieldLinkNest "PlainPort" 129 "PlainPort$ActRow" "valids" "[I" "PlainPort" ∈ nws := List.mem_filter.mpr ⟨List.mem_of_getElem? (i := 44) rfl, rfl⟩
theorem k_45 : Cond.fieldLink "PlainPort$ActRow" 24 "PlainPort$ActRow" "knowns" "[I" ∈ WD := wd_of 45 rfl rfl
theorem n_46 : Cond.fieldLinkNest "PlainPort" 132 "PlainPort$ActRow" "knowns" "[I" "PlainPort" ∈ nws := List.mem_filter.mpr ⟨List.mem_of_getElem? (i := 46) rfl, rfl⟩
theorem k_47 : Cond.fieldLink "PlainPort$ActRow" 27 "PlainPort$ActRow" "size" "I" ∈ WD := wd_of 47 rfl rfl
theorem n_48 : Cond.fieldLinkNest "PlainPort$Order" 19 "PlainPort$ActRow" "size" "I" "PlainPort" ∈ nws := List.mem_filter.mpr ⟨List.mem_of_getElem? (i := 48) rfl, rfl⟩
theorem n_49 : Cond.fieldLinkNest "PlainPort" 144 "PlainPort$ActRow" "size" "I" "PlainPort" ∈ nws := List.mem_filter.mpr ⟨List.mem_of_getElem? (i := 49) rfl, rfl⟩
theorem k_50 : Cond.laysFinal "PlainPort$ActRow" "PlainPort$ActRow" "kinds" "[I" ∈ WD := wd_of 50 rfl rfl
theorem k_52 : Cond.laysFinal "PlainPort$ActRow" "PlainPort$ActRow" "as" "[I" ∈ WD := wd_of 52 rfl rfl
theorem k_54 : Cond.laysFinal "PlainPort$ActRow" "PlainPort$ActRow" "bs" "[I" ∈ WD := wd_of 54 rfl rfl
theorem k_56 : Cond.laysFinal "PlainPort$ActRow" "PlainPort$ActRow" "valids" "[I" ∈ WD := wd_of 56 rfl rfl
theorem k_58 : Cond.laysFinal "PlainPort$ActRow" "PlainPort$ActRow" "knowns" "[I" ∈ WD := wd_of 58 rfl rfl
theorem k_60 : Cond.lays "PlainPort$ActRow" "PlainPort$ActRow" "size" "I" ∈ WD := wd_of 60 rfl rfl
theorem k_62 : Cond.superclass "PlainPort$ActRow" "java/lang/Object" ∈ WD := wd_of 62 rfl rfl
theorem k_63 : Cond.arrayClass .int ∈ WD := wd_of 63 rfl rfl
theorem k_64 : Cond.classLink "PlainPort" 16 "PlainPort$Order" ∈ WD := wd_of 64 rfl rfl
theorem k_65 : Cond.instantiable "PlainPort$Order" 2 ∈ WD := wd_of 65 rfl rfl
theorem n_66 : Cond.methodLinkNest "PlainPort" 18 y_O_init "PlainPort" ∈ nws := List.mem_filter.mpr ⟨List.mem_of_getElem? (i := 66) rfl, rfl⟩
theorem k_67 : Cond.instanceMethod y_O_init ∈ WD := wd_of 67 rfl rfl
theorem k_68 : Cond.code y_O_init prog_4_method_1_code 1 none ∈ WD := wd_of 68 rfl rfl
theorem k_69 : Cond.methodLink "PlainPort$Order" 3 ⟨"java/lang/Object", "<init>", "()V"⟩ ∈ WD := wd_of 69 rfl rfl
theorem k_70 : Cond.fieldLink "PlainPort$Order" 9 "PlainPort$Order" "numbers" "[I" ∈ WD := wd_of 70 rfl rfl
theorem n_71 : Cond.fieldLinkNest "PlainPort$Picture" 33 "PlainPort$Order" "numbers" "[I" "PlainPort" ∈ nws := List.mem_filter.mpr ⟨List.mem_of_getElem? (i := 71) rfl, rfl⟩
theorem n_72 : Cond.fieldLinkNest "PlainPort$Shares" 52 "PlainPort$Order" "numbers" "[I" "PlainPort" ∈ nws := List.mem_filter.mpr ⟨List.mem_of_getElem? (i := 72) rfl, rfl⟩
theorem k_73 : Cond.fieldLink "PlainPort$Order" 15 "PlainPort$Order" "size" "I" ∈ WD := wd_of 73 rfl rfl
theorem n_74 : Cond.fieldLinkNest "PlainPort$Picture" 27 "PlainPort$Order" "size" "I" "PlainPort" ∈ nws := List.mem_filter.mpr ⟨List.mem_of_getElem? (i := 74) rfl, rfl⟩
theorem n_75 : Cond.fieldLinkNest "PlainPort$Shares" 44 "PlainPort$Order" "size" "I" "PlainPort" ∈ nws := List.mem_filter.mpr ⟨List.mem_of_getElem? (i := 75) rfl, rfl⟩
theorem k_76 : Cond.laysFinal "PlainPort$Order" "PlainPort$Order" "numbers" "[I" ∈ WD := wd_of 76 rfl rfl
theorem k_78 : Cond.lays "PlainPort$Order" "PlainPort$Order" "size" "I" ∈ WD := wd_of 78 rfl rfl
theorem k_80 : Cond.superclass "PlainPort$Order" "java/lang/Object" ∈ WD := wd_of 80 rfl rfl
theorem k_81 : Cond.classLink "PlainPort" 23 "PlainPort$Picture" ∈ WD := wd_of 81 rfl rfl
theorem k_82 : Cond.instantiable "PlainPort$Picture" 3 ∈ WD := wd_of 82 rfl rfl
theorem n_83 : Cond.methodLinkNest "PlainPort" 25 y_P_init "PlainPort" ∈ nws := List.mem_filter.mpr ⟨List.mem_of_getElem? (i := 83) rfl, rfl⟩
theorem k_84 : Cond.instanceMethod y_P_init ∈ WD := wd_of 84 rfl rfl
theorem k_85 : Cond.code y_P_init prog_5_method_1_code 1 none ∈ WD := wd_of 85 rfl rfl
theorem k_86 : Cond.methodLink "PlainPort$Picture" 3 ⟨"java/lang/Object", "<init>", "()V"⟩ ∈ WD := wd_of 86 rfl rfl
theorem k_87 : Cond.fieldLink "PlainPort$Picture" 9 "PlainPort$Picture" "slots" "[I" ∈ WD := wd_of 87 rfl rfl
theorem n_88 : Cond.fieldLinkNest "PlainPort$Bringing" 30 "PlainPort$Picture" "slots" "[I" "PlainPort" ∈ nws := List.mem_filter.mpr ⟨List.mem_of_getElem? (i := 88) rfl, rfl⟩
theorem n_89 : Cond.fieldLinkNest "PlainPort" 78 "PlainPort$Picture" "slots" "[I" "PlainPort" ∈ nws := List.mem_filter.mpr ⟨List.mem_of_getElem? (i := 89) rfl, rfl⟩
theorem k_90 : Cond.fieldLink "PlainPort$Picture" 15 "PlainPort$Picture" "states" "[I" ∈ WD := wd_of 90 rfl rfl
theorem n_91 : Cond.fieldLinkNest "PlainPort" 86 "PlainPort$Picture" "states" "[I" "PlainPort" ∈ nws := List.mem_filter.mpr ⟨List.mem_of_getElem? (i := 91) rfl, rfl⟩
theorem k_92 : Cond.fieldLink "PlainPort$Picture" 18 "PlainPort$Picture" "sums" "[I" ∈ WD := wd_of 92 rfl rfl
theorem n_93 : Cond.fieldLinkNest "PlainPort" 89 "PlainPort$Picture" "sums" "[I" "PlainPort" ∈ nws := List.mem_filter.mpr ⟨List.mem_of_getElem? (i := 93) rfl, rfl⟩
theorem k_94 : Cond.laysFinal "PlainPort$Picture" "PlainPort$Picture" "slots" "[I" ∈ WD := wd_of 94 rfl rfl
theorem k_96 : Cond.laysFinal "PlainPort$Picture" "PlainPort$Picture" "states" "[I" ∈ WD := wd_of 96 rfl rfl
theorem k_98 : Cond.laysFinal "PlainPort$Picture" "PlainPort$Picture" "sums" "[I" ∈ WD := wd_of 98 rfl rfl
theorem k_100 : Cond.superclass "PlainPort$Picture" "java/lang/Object" ∈ WD := wd_of 100 rfl rfl
theorem k_101 : Cond.classLink "PlainPort" 33 "PlainPort$Shares" ∈ WD := wd_of 101 rfl rfl
theorem k_102 : Cond.instantiable "PlainPort$Shares" 3 ∈ WD := wd_of 102 rfl rfl
theorem n_103 : Cond.methodLinkNest "PlainPort" 35 y_S_init "PlainPort" ∈ nws := List.mem_filter.mpr ⟨List.mem_of_getElem? (i := 103) rfl, rfl⟩
theorem k_104 : Cond.instanceMethod y_S_init ∈ WD := wd_of 104 rfl rfl
theorem k_105 : Cond.code y_S_init prog_6_method_1_code 1 none ∈ WD := wd_of 105 rfl rfl
theorem k_106 : Cond.methodLink "PlainPort$Shares" 3 ⟨"java/lang/Object", "<init>", "()V"⟩ ∈ WD := wd_of 106 rfl rfl
theorem k_107 : Cond.fieldLink "PlainPort$Shares" 9 "PlainPort$Shares" "given" "[I" ∈ WD := wd_of 107 rfl rfl
theorem n_108 : Cond.fieldLinkNest "PlainPort" 99 "PlainPort$Shares" "given" "[I" "PlainPort" ∈ nws := List.mem_filter.mpr ⟨List.mem_of_getElem? (i := 108) rfl, rfl⟩
theorem k_109 : Cond.fieldLink "PlainPort$Shares" 15 "PlainPort$Shares" "asks" "[I" ∈ WD := wd_of 109 rfl rfl
theorem k_110 : Cond.fieldLink "PlainPort$Shares" 18 "PlainPort$Shares" "size" "I" ∈ WD := wd_of 110 rfl rfl
theorem k_111 : Cond.laysFinal "PlainPort$Shares" "PlainPort$Shares" "given" "[I" ∈ WD := wd_of 111 rfl rfl
theorem k_113 : Cond.laysFinal "PlainPort$Shares" "PlainPort$Shares" "asks" "[I" ∈ WD := wd_of 113 rfl rfl
theorem k_115 : Cond.lays "PlainPort$Shares" "PlainPort$Shares" "size" "I" ∈ WD := wd_of 115 rfl rfl
theorem k_117 : Cond.superclass "PlainPort$Shares" "java/lang/Object" ∈ WD := wd_of 117 rfl rfl
theorem k_118 : Cond.classLink "PlainPort" 40 "PlainPort$Bringing" ∈ WD := wd_of 118 rfl rfl
theorem k_119 : Cond.instantiable "PlainPort$Bringing" 3 ∈ WD := wd_of 119 rfl rfl
theorem n_120 : Cond.methodLinkNest "PlainPort" 42 y_B_init "PlainPort" ∈ nws := List.mem_filter.mpr ⟨List.mem_of_getElem? (i := 120) rfl, rfl⟩
theorem k_121 : Cond.instanceMethod y_B_init ∈ WD := wd_of 121 rfl rfl
theorem k_122 : Cond.code y_B_init prog_3_method_1_code 1 none ∈ WD := wd_of 122 rfl rfl
theorem k_123 : Cond.methodLink "PlainPort$Bringing" 3 ⟨"java/lang/Object", "<init>", "()V"⟩ ∈ WD := wd_of 123 rfl rfl
theorem k_124 : Cond.fieldLink "PlainPort$Bringing" 9 "PlainPort$Bringing" "from" "[I" ∈ WD := wd_of 124 rfl rfl
theorem k_125 : Cond.fieldLink "PlainPort$Bringing" 15 "PlainPort$Bringing" "costs" "[I" ∈ WD := wd_of 125 rfl rfl
theorem k_126 : Cond.fieldLink "PlainPort$Bringing" 18 "PlainPort$Bringing" "size" "I" ∈ WD := wd_of 126 rfl rfl
theorem k_127 : Cond.laysFinal "PlainPort$Bringing" "PlainPort$Bringing" "from" "[I" ∈ WD := wd_of 127 rfl rfl
theorem k_129 : Cond.laysFinal "PlainPort$Bringing" "PlainPort$Bringing" "costs" "[I" ∈ WD := wd_of 129 rfl rfl
theorem k_131 : Cond.lays "PlainPort$Bringing" "PlainPort$Bringing" "size" "I" ∈ WD := wd_of 131 rfl rfl
theorem k_133 : Cond.superclass "PlainPort$Bringing" "java/lang/Object" ∈ WD := wd_of 133 rfl rfl
theorem k_134 : Cond.fieldLink "PlainPort" 10 "PlainPort" "acts" "LPlainPort$ActRow;" ∈ WD := wd_of 134 rfl rfl
theorem k_135 : Cond.fieldLink "PlainPort" 19 "PlainPort" "order" "LPlainPort$Order;" ∈ WD := wd_of 135 rfl rfl
theorem k_136 : Cond.fieldLink "PlainPort" 26 "PlainPort" "picture" "LPlainPort$Picture;" ∈ WD := wd_of 136 rfl rfl
theorem k_137 : Cond.fieldLink "PlainPort" 30 "PlainPort" "otherPicture" "LPlainPort$Picture;" ∈ WD := wd_of 137 rfl rfl
theorem k_138 : Cond.fieldLink "PlainPort" 36 "PlainPort" "shares" "LPlainPort$Shares;" ∈ WD := wd_of 138 rfl rfl
theorem k_139 : Cond.fieldLink "PlainPort" 43 "PlainPort" "bringing" "LPlainPort$Bringing;" ∈ WD := wd_of 139 rfl rfl
theorem k_140 : Cond.fieldLink "PlainPort" 47 "PlainPort" "now" "I" ∈ WD := wd_of 140 rfl rfl
theorem k_141 : Cond.fieldLink "PlainPort" 51 "PlainPort" "refused" "I" ∈ WD := wd_of 141 rfl rfl
theorem k_142 : Cond.laysFinal "PlainPort" "PlainPort" "acts" "LPlainPort$ActRow;" ∈ WD := wd_of 142 rfl rfl
theorem k_144 : Cond.laysFinal "PlainPort" "PlainPort" "order" "LPlainPort$Order;" ∈ WD := wd_of 144 rfl rfl
theorem k_146 : Cond.laysFinal "PlainPort" "PlainPort" "picture" "LPlainPort$Picture;" ∈ WD := wd_of 146 rfl rfl
theorem k_148 : Cond.laysFinal "PlainPort" "PlainPort" "otherPicture" "LPlainPort$Picture;" ∈ WD := wd_of 148 rfl rfl
theorem k_150 : Cond.laysFinal "PlainPort" "PlainPort" "shares" "LPlainPort$Shares;" ∈ WD := wd_of 150 rfl rfl
theorem k_152 : Cond.laysFinal "PlainPort" "PlainPort" "bringing" "LPlainPort$Bringing;" ∈ WD := wd_of 152 rfl rfl
theorem k_154 : Cond.lays "PlainPort" "PlainPort" "now" "I" ∈ WD := wd_of 154 rfl rfl
theorem k_156 : Cond.lays "PlainPort" "PlainPort" "refused" "I" ∈ WD := wd_of 156 rfl rfl
theorem k_158 : Cond.superclass "PlainPort" "java/lang/Object" ∈ WD := wd_of 158 rfl rfl
theorem k_159 : Cond.methodLink "PlainPortLaw" 47 y_X_event ∈ WD := wd_of 159 rfl rfl
theorem k_160 : Cond.instanceMethod y_X_event ∈ WD := wd_of 160 rfl rfl
theorem k_161 : Cond.selects "PlainPort" y_X_event y_X_event ∈ WD := wd_of 161 rfl rfl
theorem k_162 : Cond.code y_X_event prog_1_method_2_code 5 (some .int) ∈ WD := wd_of 162 rfl rfl
theorem n_163 : Cond.methodLinkNest "PlainPort" 54 y_A_isFull "PlainPort" ∈ nws := List.mem_filter.mpr ⟨List.mem_of_getElem? (i := 163) rfl, rfl⟩
theorem k_165 : Cond.instanceMethod y_A_isFull ∈ WD := wd_of 165 rfl rfl
theorem k_166 : Cond.code y_A_isFull prog_2_method_2_code 1 (some .boolean) ∈ WD := wd_of 166 rfl rfl
theorem k_167 : Cond.methodLink "PlainPort" 58 y_X_isTime ∈ WD := wd_of 167 rfl rfl
theorem k_168 : Cond.static y_X_isTime ∈ WD := wd_of 168 rfl rfl
theorem k_169 : Cond.code y_X_isTime prog_1_method_16_code 1 (some .boolean) ∈ WD := wd_of 169 rfl rfl
theorem k_170 : Cond.methodLink "PlainPort" 160 y_X_isWithin ∈ WD := wd_of 170 rfl rfl
theorem k_171 : Cond.static y_X_isWithin ∈ WD := wd_of 171 rfl rfl
theorem k_172 : Cond.code y_X_isWithin prog_1_method_17_code 3 (some .boolean) ∈ WD := wd_of 172 rfl rfl
theorem n_173 : Cond.methodLinkNest "PlainPort" 62 y_A_canTell "PlainPort" ∈ nws := List.mem_filter.mpr ⟨List.mem_of_getElem? (i := 173) rfl, rfl⟩
theorem k_175 : Cond.instanceMethod y_A_canTell ∈ WD := wd_of 175 rfl rfl
theorem k_176 : Cond.code y_A_canTell prog_2_method_4_code 4 (some .boolean) ∈ WD := wd_of 176 rfl rfl
theorem n_177 : Cond.methodLinkNest "PlainPort$ActRow" 31 y_X_isWithin "PlainPort" ∈ nws := List.mem_filter.mpr ⟨List.mem_of_getElem? (i := 177) rfl, rfl⟩
theorem k_178 : Cond.constant "PlainPort$ActRow" 35 (-1000000 : Int32) ∈ WD := wd_of 178 rfl rfl
theorem k_179 : Cond.constant "PlainPort$ActRow" 36 (1000000 : Int32) ∈ WD := wd_of 179 rfl rfl
theorem k_180 : Cond.methodLink "PlainPort$ActRow" 37 y_A_has ∈ WD := wd_of 180 rfl rfl
theorem k_182 : Cond.instanceMethod y_A_has ∈ WD := wd_of 182 rfl rfl
theorem k_183 : Cond.code y_A_has prog_2_method_3_code 2 (some .boolean) ∈ WD := wd_of 183 rfl rfl
theorem n_184 : Cond.methodLinkNest "PlainPort" 66 y_A_append "PlainPort" ∈ nws := List.mem_filter.mpr ⟨List.mem_of_getElem? (i := 184) rfl, rfl⟩
theorem k_186 : Cond.instanceMethod y_A_append ∈ WD := wd_of 186 rfl rfl
theorem k_187 : Cond.code y_A_append prog_2_method_5_code 7 (some .int) ∈ WD := wd_of 187 rfl rfl
theorem k_188 : Cond.methodLink "PlainPort$ActRow" 41 y_A_isFull ∈ WD := wd_of 188 rfl rfl
theorem k_189 : Cond.methodLink "PlainPortLaw" 51 y_X_known ∈ WD := wd_of 189 rfl rfl
theorem k_190 : Cond.instanceMethod y_X_known ∈ WD := wd_of 190 rfl rfl
theorem k_191 : Cond.selects "PlainPort" y_X_known y_X_known ∈ WD := wd_of 191 rfl rfl
theorem k_192 : Cond.code y_X_known prog_1_method_3_code 2 (some .boolean) ∈ WD := wd_of 192 rfl rfl
theorem k_193 : Cond.methodLink "PlainPortLaw" 92 y_X_count ∈ WD := wd_of 193 rfl rfl
theorem k_194 : Cond.instanceMethod y_X_count ∈ WD := wd_of 194 rfl rfl
theorem k_195 : Cond.selects "PlainPort" y_X_count y_X_count ∈ WD := wd_of 195 rfl rfl
theorem k_196 : Cond.code y_X_count prog_1_method_13_code 2 (some .int) ∈ WD := wd_of 196 rfl rfl
theorem n_197 : Cond.methodLinkNest "PlainPort" 147 y_A_voidsAsKnown "PlainPort" ∈ nws := List.mem_filter.mpr ⟨List.mem_of_getElem? (i := 197) rfl, rfl⟩
theorem k_199 : Cond.instanceMethod y_A_voidsAsKnown ∈ WD := wd_of 199 rfl rfl
theorem k_200 : Cond.code y_A_voidsAsKnown prog_2_method_7_code 4 (some .int) ∈ WD := wd_of 200 rfl rfl
theorem k_201 : Cond.methodLink "PlainPort$ActRow" 45 y_A_isVoid ∈ WD := wd_of 201 rfl rfl
theorem k_203 : Cond.instanceMethod y_A_isVoid ∈ WD := wd_of 203 rfl rfl
theorem k_204 : Cond.code y_A_isVoid prog_2_method_6_code 4 (some .boolean) ∈ WD := wd_of 204 rfl rfl
theorem k_205 : Cond.methodLink "PlainPortLaw" 56 y_L_place ∈ WD := wd_of 205 rfl rfl
theorem k_206 : Cond.static y_L_place ∈ WD := wd_of 206 rfl rfl
theorem k_207 : Cond.codeWith y_L_place method_3_code 6 (some .int) [(0, 12, 15, 13)] ∈ WD := wd_of 207 rfl rfl
theorem k_208 : Cond.classLink "PlainPortLaw" 13 "java/lang/IllegalArgumentException" ∈ WD := wd_of 208 rfl rfl
theorem k_209 : Cond.methodLink "PlainPortLaw" 7 y_X_place ∈ WD := wd_of 209 rfl rfl
theorem k_210 : Cond.instanceMethod y_X_place ∈ WD := wd_of 210 rfl rfl
theorem k_211 : Cond.selects "PlainPort" y_X_place y_X_place ∈ WD := wd_of 211 rfl rfl
theorem k_212 : Cond.code y_X_place prog_1_method_4_code 4 (some .int) ∈ WD := wd_of 212 rfl rfl
theorem k_213 : Cond.methodLink "PlainPort" 70 y_X_requireBelow ∈ WD := wd_of 213 rfl rfl
theorem k_214 : Cond.static y_X_requireBelow ∈ WD := wd_of 214 rfl rfl
theorem k_215 : Cond.code y_X_requireBelow prog_1_method_18_code 2 none ∈ WD := wd_of 215 rfl rfl
theorem k_216 : Cond.classLink "PlainPort" 152 "java/lang/IllegalArgumentException" ∈ WD := wd_of 216 rfl rfl
theorem k_217 : Cond.instantiable "java/lang/IllegalArgumentException" 6 ∈ WD := wd_of 217 rfl rfl
theorem n_218 : Cond.castable "java/lang/IllegalArgumentException" "java/lang/IllegalArgumentException" ∈ nws := List.mem_filter.mpr ⟨List.mem_of_getElem? (i := 218) rfl, rfl⟩
theorem n_219 : Cond.declares ⟨"java/lang/RuntimeException", "<init>", "()V"⟩ ∈ nws := List.mem_filter.mpr ⟨List.mem_of_getElem? (i := 219) rfl, rfl⟩
theorem n_220 : Cond.declares ⟨"java/lang/RuntimeException", "<init>", "(Ljava/lang/String;)V"⟩ ∈ nws := List.mem_filter.mpr ⟨List.mem_of_getElem? (i := 220) rfl, rfl⟩
theorem n_221 : Cond.declares ⟨"java/lang/Exception", "<init>", "()V"⟩ ∈ nws := List.mem_filter.mpr ⟨List.mem_of_getElem? (i := 221) rfl, rfl⟩
theorem n_222 : Cond.declares ⟨"java/lang/Exception", "<init>", "(Ljava/lang/String;)V"⟩ ∈ nws := List.mem_filter.mpr ⟨List.mem_of_getElem? (i := 222) rfl, rfl⟩
theorem n_223 : Cond.declares ⟨"java/lang/Throwable", "<init>", "()V"⟩ ∈ nws := List.mem_filter.mpr ⟨List.mem_of_getElem? (i := 223) rfl, rfl⟩
theorem n_224 : Cond.declares ⟨"java/lang/Throwable", "<init>", "(Ljava/lang/String;)V"⟩ ∈ nws := List.mem_filter.mpr ⟨List.mem_of_getElem? (i := 224) rfl, rfl⟩
theorem k_225 : Cond.selects "java/lang/IllegalArgumentException" ⟨"java/lang/Throwable", "fillInStackTrace", "(I)Ljava/lang/Throwable;"⟩ ⟨"java/lang/Throwable", "fillInStackTrace", "(I)Ljava/lang/Throwable;"⟩ ∈ WD := wd_of 225 rfl rfl
theorem k_226 : Cond.selects "java/lang/IllegalArgumentException" ⟨"java/lang/Throwable", "fillInStackTrace", "()Ljava/lang/Throwable;"⟩ ⟨"java/lang/Throwable", "fillInStackTrace", "()Ljava/lang/Throwable;"⟩ ∈ WD := wd_of 226 rfl rfl
theorem k_227 : Cond.lays "java/lang/IllegalArgumentException" "java/lang/Throwable" "cause" "Ljava/lang/Throwable;" ∈ WD := wd_of 227 rfl rfl
theorem k_228 : Cond.lays "java/lang/Throwable" "java/lang/Throwable" "cause" "Ljava/lang/Throwable;" ∈ WD := wd_of 228 rfl rfl
theorem k_229 : Cond.lays "java/lang/IllegalArgumentException" "java/lang/Throwable" "stackTrace" "[Ljava/lang/StackTraceElement;" ∈ WD := wd_of 229 rfl rfl
theorem k_230 : Cond.lays "java/lang/Throwable" "java/lang/Throwable" "stackTrace" "[Ljava/lang/StackTraceElement;" ∈ WD := wd_of 230 rfl rfl
theorem k_231 : Cond.lays "java/lang/IllegalArgumentException" "java/lang/Throwable" "suppressedExceptions" "Ljava/util/List;" ∈ WD := wd_of 231 rfl rfl
theorem k_232 : Cond.lays "java/lang/Throwable" "java/lang/Throwable" "suppressedExceptions" "Ljava/util/List;" ∈ WD := wd_of 232 rfl rfl
theorem k_233 : Cond.lays "java/lang/IllegalArgumentException" "java/lang/Throwable" "detailMessage" "Ljava/lang/String;" ∈ WD := wd_of 233 rfl rfl
theorem k_234 : Cond.lays "java/lang/Throwable" "java/lang/Throwable" "detailMessage" "Ljava/lang/String;" ∈ WD := wd_of 234 rfl rfl
theorem k_235 : Cond.lays "java/lang/IllegalArgumentException" "java/lang/Throwable" "backtrace" "Ljava/lang/Object;" ∈ WD := wd_of 235 rfl rfl
theorem k_236 : Cond.lays "java/lang/Throwable" "java/lang/Throwable" "backtrace" "Ljava/lang/Object;" ∈ WD := wd_of 236 rfl rfl
theorem k_237 : Cond.fieldLink "java/lang/Throwable" 198 "java/lang/Throwable" "backtrace" "Ljava/lang/Object;" ∈ WD := wd_of 237 rfl rfl
theorem k_238 : Cond.superclass "java/lang/Throwable" "java/lang/Object" ∈ WD := wd_of 238 rfl rfl
theorem k_239 : Cond.instanceMethod ⟨"java/lang/Throwable", "<init>", "()V"⟩ ∈ WD := wd_of 239 rfl rfl
theorem k_240 : Cond.code ⟨"java/lang/Throwable", "<init>", "()V"⟩ prog_16_method_1_code 1 none ∈ WD := wd_of 240 rfl rfl
theorem k_241 : Cond.methodLink "java/lang/Throwable" 1 ⟨"java/lang/Object", "<init>", "()V"⟩ ∈ WD := wd_of 241 rfl rfl
theorem k_242 : Cond.fieldLink "java/lang/Throwable" 13 "java/lang/Throwable" "UNASSIGNED_STACK" "[Ljava/lang/StackTraceElement;" ∈ WD := wd_of 242 rfl rfl
theorem k_244 : Cond.fieldLink "java/lang/Throwable" 20 "java/lang/Throwable" "SUPPRESSED_SENTINEL" "Ljava/util/List;" ∈ WD := wd_of 244 rfl rfl
theorem k_246 : Cond.methodLink "java/lang/Throwable" 27 ⟨"java/lang/Throwable", "fillInStackTrace", "()Ljava/lang/Throwable;"⟩ ∈ WD := wd_of 246 rfl rfl
theorem k_247 : Cond.instanceMethod ⟨"java/lang/Throwable", "fillInStackTrace", "()Ljava/lang/Throwable;"⟩ ∈ WD := wd_of 247 rfl rfl
theorem k_248 : Cond.sameMethod "java/lang/Throwable" "java/lang/Throwable" "fillInStackTrace" "()Ljava/lang/Throwable;" ∈ WD := wd_of 248 rfl rfl
theorem k_249 : Cond.selects "java/lang/IndexOutOfBoundsException" ⟨"java/lang/Throwable", "fillInStackTrace", "()Ljava/lang/Throwable;"⟩ ⟨"java/lang/Throwable", "fillInStackTrace", "()Ljava/lang/Throwable;"⟩ ∈ WD := wd_of 249 rfl rfl
theorem k_251 : Cond.methodLink "java/lang/Throwable" 202 ⟨"java/lang/Throwable", "fillInStackTrace", "(I)Ljava/lang/Throwable;"⟩ ∈ WD := wd_of 251 rfl rfl
theorem k_253 : Cond.instanceMethod ⟨"java/lang/Throwable", "fillInStackTrace", "(I)Ljava/lang/Throwable;"⟩ ∈ WD := wd_of 253 rfl rfl
theorem k_254 : Cond.instantiable "java/lang/Throwable" 6 ∈ WD := wd_of 254 rfl rfl
theorem k_257 : Cond.methodLink "PlainPort" 156 ⟨"java/lang/IllegalArgumentException", "<init>", "(Ljava/lang/String;)V"⟩ ∈ WD := wd_of 257 rfl rfl
theorem k_258 : Cond.instanceMethod ⟨"java/lang/IllegalArgumentException", "<init>", "(Ljava/lang/String;)V"⟩ ∈ WD := wd_of 258 rfl rfl
theorem k_259 : Cond.code ⟨"java/lang/IllegalArgumentException", "<init>", "(Ljava/lang/String;)V"⟩ prog_10_method_2_code 2 none ∈ WD := wd_of 259 rfl rfl
theorem k_260 : Cond.methodLink "java/lang/IllegalArgumentException" 7 ⟨"java/lang/RuntimeException", "<init>", "(Ljava/lang/String;)V"⟩ ∈ WD := wd_of 260 rfl rfl
theorem k_261 : Cond.instanceMethod ⟨"java/lang/RuntimeException", "<init>", "(Ljava/lang/String;)V"⟩ ∈ WD := wd_of 261 rfl rfl
theorem k_262 : Cond.code ⟨"java/lang/RuntimeException", "<init>", "(Ljava/lang/String;)V"⟩ prog_14_method_2_code 2 none ∈ WD := wd_of 262 rfl rfl
theorem k_263 : Cond.methodLink "java/lang/RuntimeException" 7 ⟨"java/lang/Exception", "<init>", "(Ljava/lang/String;)V"⟩ ∈ WD := wd_of 263 rfl rfl
theorem k_264 : Cond.instanceMethod ⟨"java/lang/Exception", "<init>", "(Ljava/lang/String;)V"⟩ ∈ WD := wd_of 264 rfl rfl
theorem k_265 : Cond.code ⟨"java/lang/Exception", "<init>", "(Ljava/lang/String;)V"⟩ prog_9_method_2_code 2 none ∈ WD := wd_of 265 rfl rfl
theorem k_266 : Cond.methodLink "java/lang/Exception" 7 ⟨"java/lang/Throwable", "<init>", "(Ljava/lang/String;)V"⟩ ∈ WD := wd_of 266 rfl rfl
theorem k_267 : Cond.instanceMethod ⟨"java/lang/Throwable", "<init>", "(Ljava/lang/String;)V"⟩ ∈ WD := wd_of 267 rfl rfl
theorem k_268 : Cond.code ⟨"java/lang/Throwable", "<init>", "(Ljava/lang/String;)V"⟩ prog_16_method_2_code 2 none ∈ WD := wd_of 268 rfl rfl
theorem k_269 : Cond.fieldLink "java/lang/Throwable" 198 "java/lang/Throwable" "backtrace" "Ljava/lang/Object;" ∈ WD := wd_of 269 rfl rfl
theorem k_270 : Cond.fieldLink "java/lang/Throwable" 31 "java/lang/Throwable" "detailMessage" "Ljava/lang/String;" ∈ WD := wd_of 270 rfl rfl
theorem k_271 : Cond.fieldLink "java/lang/Throwable" 7 "java/lang/Throwable" "cause" "Ljava/lang/Throwable;" ∈ WD := wd_of 271 rfl rfl
theorem k_272 : Cond.fieldLink "java/lang/Throwable" 17 "java/lang/Throwable" "stackTrace" "[Ljava/lang/StackTraceElement;" ∈ WD := wd_of 272 rfl rfl
theorem k_273 : Cond.fieldLink "java/lang/Throwable" 24 "java/lang/Throwable" "suppressedExceptions" "Ljava/util/List;" ∈ WD := wd_of 273 rfl rfl
theorem k_278 : Cond.lays "java/lang/IllegalArgumentException" "java/lang/Throwable" "depth" "I" ∈ WD := wd_of 278 rfl rfl
theorem k_281 : Cond.superclass "java/lang/IllegalArgumentException" "java/lang/RuntimeException" ∈ WD := wd_of 281 rfl rfl
theorem k_282 : Cond.arrayClass .byte ∈ WD := wd_of 282 rfl rfl
theorem k_283 : Cond.methodLink "PlainPort" 74 y_X_draw ∈ WD := wd_of 283 rfl rfl
theorem k_285 : Cond.instanceMethod y_X_draw ∈ WD := wd_of 285 rfl rfl
theorem k_286 : Cond.code y_X_draw prog_1_method_14_code 4 none ∈ WD := wd_of 286 rfl rfl
theorem k_287 : Cond.methodLink "PlainPort" 92 y_X_gather ∈ WD := wd_of 287 rfl rfl
theorem k_289 : Cond.instanceMethod y_X_gather ∈ WD := wd_of 289 rfl rfl
theorem k_290 : Cond.code y_X_gather prog_1_method_15_code 3 none ∈ WD := wd_of 290 rfl rfl
theorem n_292 : Cond.methodLinkNest "PlainPort" 157 y_O_gather "PlainPort" ∈ nws := List.mem_filter.mpr ⟨List.mem_of_getElem? (i := 292) rfl, rfl⟩
theorem k_294 : Cond.instanceMethod y_O_gather ∈ WD := wd_of 294 rfl rfl
theorem k_295 : Cond.code y_O_gather prog_4_method_2_code 5 none ∈ WD := wd_of 295 rfl rfl
theorem n_296 : Cond.methodLinkNest "PlainPort$Order" 22 y_A_holds "PlainPort" ∈ nws := List.mem_filter.mpr ⟨List.mem_of_getElem? (i := 296) rfl, rfl⟩
theorem k_298 : Cond.instanceMethod y_A_holds ∈ WD := wd_of 298 rfl rfl
theorem k_299 : Cond.code y_A_holds prog_2_method_8_code 4 (some .boolean) ∈ WD := wd_of 299 rfl rfl
theorem k_300 : Cond.methodLink "PlainPort$Order" 26 y_O_insert ∈ WD := wd_of 300 rfl rfl
set_option maxRecDepth 20000 in
theorem k_302 : Cond.instanceMethod y_O_insert ∈ WD := wd_of 302 rfl rfl
set_option maxRecDepth 20000 in
theorem k_303 : Cond.code y_O_insert prog_4_method_3_code 4 none ∈ WD := wd_of 303 rfl rfl
set_option maxRecDepth 20000 in
theorem n_304 : Cond.methodLinkNest "PlainPort$Order" 30 y_A_goesAhead "PlainPort" ∈ nws := List.mem_filter.mpr ⟨List.mem_of_getElem? (i := 304) rfl, rfl⟩
set_option maxRecDepth 20000 in
theorem k_306 : Cond.instanceMethod y_A_goesAhead ∈ WD := wd_of 306 rfl rfl
set_option maxRecDepth 20000 in
theorem k_307 : Cond.code y_A_goesAhead prog_2_method_9_code 3 (some .boolean) ∈ WD := wd_of 307 rfl rfl
set_option maxRecDepth 20000 in
theorem n_308 : Cond.methodLinkNest "PlainPort" 150 y_P_draw "PlainPort" ∈ nws := List.mem_filter.mpr ⟨List.mem_of_getElem? (i := 308) rfl, rfl⟩
set_option maxRecDepth 20000 in
theorem k_310 : Cond.instanceMethod y_P_draw ∈ WD := wd_of 310 rfl rfl
set_option maxRecDepth 20000 in
theorem k_311 : Cond.code y_P_draw prog_5_method_2_code 5 none ∈ WD := wd_of 311 rfl rfl
set_option maxRecDepth 20000 in
theorem k_312 : Cond.methodLink "PlainPort$Picture" 21 y_Ar_fill ∈ WD := wd_of 312 rfl rfl
set_option maxRecDepth 20000 in
theorem k_313 : Cond.static y_Ar_fill ∈ WD := wd_of 313 rfl rfl
set_option maxRecDepth 20000 in
theorem k_314 : Cond.code y_Ar_fill prog_17_method_103_code 4 none ∈ WD := wd_of 314 rfl rfl
set_option maxRecDepth 20000 in
theorem k_315 : Cond.methodLink "PlainPort$Picture" 47 y_P_apply ∈ WD := wd_of 315 rfl rfl
set_option maxRecDepth 20000 in
theorem k_317 : Cond.instanceMethod y_P_apply ∈ WD := wd_of 317 rfl rfl
set_option maxRecDepth 20000 in
theorem k_318 : Cond.code y_P_apply prog_5_method_3_code 4 none ∈ WD := wd_of 318 rfl rfl
set_option maxRecDepth 20000 in
theorem k_319 : Cond.methodLink "PlainPort$Picture" 51 y_P_boxIn ∈ WD := wd_of 319 rfl rfl
set_option maxRecDepth 20000 in
theorem k_321 : Cond.instanceMethod y_P_boxIn ∈ WD := wd_of 321 rfl rfl
set_option maxRecDepth 20000 in
theorem k_322 : Cond.code y_P_boxIn prog_5_method_4_code 3 (some .int) ∈ WD := wd_of 322 rfl rfl
set_option maxRecDepth 20000 in
theorem k_323 : Cond.methodLink "PlainPort$Picture" 55 y_Ma_max ∈ WD := wd_of 323 rfl rfl
set_option maxRecDepth 20000 in
theorem k_324 : Cond.static y_Ma_max ∈ WD := wd_of 324 rfl rfl
set_option maxRecDepth 20000 in
theorem k_325 : Cond.code y_Ma_max prog_13_method_65_code 2 (some .int) ∈ WD := wd_of 325 rfl rfl
set_option maxRecDepth 20000 in
theorem k_326 : Cond.methodLink "PlainPortLaw" 66 y_L_at ∈ WD := wd_of 326 rfl rfl
set_option maxRecDepth 20000 in
theorem k_327 : Cond.static y_L_at ∈ WD := wd_of 327 rfl rfl
set_option maxRecDepth 20000 in
theorem k_328 : Cond.codeWith y_L_at method_4_code 6 (some .int) [(0, 12, 15, 13)] ∈ WD := wd_of 328 rfl rfl
set_option maxRecDepth 20000 in
theorem k_329 : Cond.methodLink "PlainPortLaw" 15 y_X_at ∈ WD := wd_of 329 rfl rfl
set_option maxRecDepth 20000 in
theorem k_330 : Cond.instanceMethod y_X_at ∈ WD := wd_of 330 rfl rfl
set_option maxRecDepth 20000 in
theorem k_331 : Cond.selects "PlainPort" y_X_at y_X_at ∈ WD := wd_of 331 rfl rfl
set_option maxRecDepth 20000 in
theorem k_332 : Cond.code y_X_at prog_1_method_5_code 4 (some .int) ∈ WD := wd_of 332 rfl rfl
set_option maxRecDepth 20000 in
theorem n_333 : Cond.methodLinkNest "PlainPort" 82 y_P_boxIn "PlainPort" ∈ nws := List.mem_filter.mpr ⟨List.mem_of_getElem? (i := 333) rfl, rfl⟩
set_option maxRecDepth 20000 in
theorem k_334 : Cond.methodLink "PlainPortLaw" 69 y_L_state ∈ WD := wd_of 334 rfl rfl
set_option maxRecDepth 20000 in
theorem k_335 : Cond.static y_L_state ∈ WD := wd_of 335 rfl rfl
set_option maxRecDepth 20000 in
theorem k_336 : Cond.codeWith y_L_state method_5_code 6 (some .int) [(0, 12, 15, 13)] ∈ WD := wd_of 336 rfl rfl
set_option maxRecDepth 20000 in
theorem k_337 : Cond.methodLink "PlainPortLaw" 18 y_X_state ∈ WD := wd_of 337 rfl rfl
set_option maxRecDepth 20000 in
theorem k_338 : Cond.instanceMethod y_X_state ∈ WD := wd_of 338 rfl rfl
set_option maxRecDepth 20000 in
theorem k_339 : Cond.selects "PlainPort" y_X_state y_X_state ∈ WD := wd_of 339 rfl rfl
set_option maxRecDepth 20000 in
theorem k_340 : Cond.code y_X_state prog_1_method_6_code 4 (some .int) ∈ WD := wd_of 340 rfl rfl
set_option maxRecDepth 20000 in
theorem k_341 : Cond.methodLink "PlainPortLaw" 72 y_L_sum ∈ WD := wd_of 341 rfl rfl
set_option maxRecDepth 20000 in
theorem k_342 : Cond.static y_L_sum ∈ WD := wd_of 342 rfl rfl
set_option maxRecDepth 20000 in
theorem k_343 : Cond.codeWith y_L_sum method_6_code 6 (some .int) [(0, 12, 15, 13)] ∈ WD := wd_of 343 rfl rfl
set_option maxRecDepth 20000 in
theorem k_344 : Cond.methodLink "PlainPortLaw" 21 y_X_sum ∈ WD := wd_of 344 rfl rfl
set_option maxRecDepth 20000 in
theorem k_345 : Cond.instanceMethod y_X_sum ∈ WD := wd_of 345 rfl rfl
set_option maxRecDepth 20000 in
theorem k_346 : Cond.selects "PlainPort" y_X_sum y_X_sum ∈ WD := wd_of 346 rfl rfl
set_option maxRecDepth 20000 in
theorem k_347 : Cond.code y_X_sum prog_1_method_7_code 4 (some .int) ∈ WD := wd_of 347 rfl rfl
set_option maxRecDepth 20000 in
theorem k_348 : Cond.methodLink "PlainPortLaw" 75 y_L_quota ∈ WD := wd_of 348 rfl rfl
set_option maxRecDepth 20000 in
theorem k_349 : Cond.static y_L_quota ∈ WD := wd_of 349 rfl rfl
set_option maxRecDepth 20000 in
theorem k_350 : Cond.codeWith y_L_quota method_7_code 6 (some .int) [(0, 12, 15, 13)] ∈ WD := wd_of 350 rfl rfl
set_option maxRecDepth 20000 in
theorem k_351 : Cond.methodLink "PlainPortLaw" 24 y_X_quota ∈ WD := wd_of 351 rfl rfl
set_option maxRecDepth 20000 in
theorem k_352 : Cond.instanceMethod y_X_quota ∈ WD := wd_of 352 rfl rfl
set_option maxRecDepth 20000 in
theorem k_353 : Cond.selects "PlainPort" y_X_quota y_X_quota ∈ WD := wd_of 353 rfl rfl
set_option maxRecDepth 20000 in
theorem k_354 : Cond.code y_X_quota prog_1_method_8_code 4 (some .int) ∈ WD := wd_of 354 rfl rfl
set_option maxRecDepth 20000 in
theorem n_355 : Cond.methodLinkNest "PlainPort" 95 y_S_serveAll "PlainPort" ∈ nws := List.mem_filter.mpr ⟨List.mem_of_getElem? (i := 355) rfl, rfl⟩
set_option maxRecDepth 20000 in
theorem k_357 : Cond.instanceMethod y_S_serveAll ∈ WD := wd_of 357 rfl rfl
set_option maxRecDepth 20000 in
theorem k_358 : Cond.code y_S_serveAll prog_6_method_2_code 5 none ∈ WD := wd_of 358 rfl rfl
set_option maxRecDepth 20000 in
theorem k_359 : Cond.methodLink "PlainPort$Shares" 22 y_Ar_fill ∈ WD := wd_of 359 rfl rfl
set_option maxRecDepth 20000 in
theorem k_360 : Cond.methodLink "PlainPort$Shares" 28 y_S_gatherAsks ∈ WD := wd_of 360 rfl rfl
set_option maxRecDepth 20000 in
theorem k_362 : Cond.instanceMethod y_S_gatherAsks ∈ WD := wd_of 362 rfl rfl
set_option maxRecDepth 20000 in
theorem k_363 : Cond.code y_S_gatherAsks prog_6_method_3_code 4 none ∈ WD := wd_of 363 rfl rfl
set_option maxRecDepth 20000 in
theorem k_364 : Cond.methodLink "PlainPort$Shares" 32 y_S_startsTime ∈ WD := wd_of 364 rfl rfl
set_option maxRecDepth 20000 in
theorem k_366 : Cond.instanceMethod y_S_startsTime ∈ WD := wd_of 366 rfl rfl
set_option maxRecDepth 20000 in
theorem k_367 : Cond.code y_S_startsTime prog_6_method_4_code 3 (some .boolean) ∈ WD := wd_of 367 rfl rfl
set_option maxRecDepth 20000 in
theorem k_368 : Cond.methodLink "PlainPort$Shares" 36 y_S_endOfTime ∈ WD := wd_of 368 rfl rfl
set_option maxRecDepth 20000 in
theorem k_370 : Cond.instanceMethod y_S_endOfTime ∈ WD := wd_of 370 rfl rfl
set_option maxRecDepth 20000 in
theorem k_371 : Cond.code y_S_endOfTime prog_6_method_5_code 4 (some .int) ∈ WD := wd_of 371 rfl rfl
set_option maxRecDepth 20000 in
theorem k_372 : Cond.methodLink "PlainPort$Shares" 40 y_S_serveTime ∈ WD := wd_of 372 rfl rfl
set_option maxRecDepth 20000 in
theorem k_374 : Cond.instanceMethod y_S_serveTime ∈ WD := wd_of 374 rfl rfl
set_option maxRecDepth 20000 in
theorem k_375 : Cond.code y_S_serveTime prog_6_method_6_code 9 (some .int) ∈ WD := wd_of 375 rfl rfl
set_option maxRecDepth 20000 in
theorem k_376 : Cond.methodLink "PlainPort$Shares" 61 y_S_share ∈ WD := wd_of 376 rfl rfl
set_option maxRecDepth 20000 in
theorem k_377 : Cond.static y_S_share ∈ WD := wd_of 377 rfl rfl
set_option maxRecDepth 20000 in
theorem k_378 : Cond.code y_S_share prog_6_method_7_code 3 (some .int) ∈ WD := wd_of 378 rfl rfl
set_option maxRecDepth 20000 in
theorem k_379 : Cond.methodLink "PlainPort$Shares" 68 y_Ma_min ∈ WD := wd_of 379 rfl rfl
set_option maxRecDepth 20000 in
theorem k_380 : Cond.static y_Ma_min ∈ WD := wd_of 380 rfl rfl
set_option maxRecDepth 20000 in
theorem k_381 : Cond.code y_Ma_min prog_13_method_69_code 2 (some .int) ∈ WD := wd_of 381 rfl rfl
set_option maxRecDepth 20000 in
theorem k_382 : Cond.methodLink "PlainPortLaw" 78 y_L_apart ∈ WD := wd_of 382 rfl rfl
set_option maxRecDepth 20000 in
theorem k_383 : Cond.static y_L_apart ∈ WD := wd_of 383 rfl rfl
set_option maxRecDepth 20000 in
theorem k_384 : Cond.codeWith y_L_apart method_8_code 7 (some .int) [(0, 14, 17, 13)] ∈ WD := wd_of 384 rfl rfl
set_option maxRecDepth 20000 in
theorem k_385 : Cond.methodLink "PlainPortLaw" 27 y_X_apart ∈ WD := wd_of 385 rfl rfl
set_option maxRecDepth 20000 in
theorem k_386 : Cond.instanceMethod y_X_apart ∈ WD := wd_of 386 rfl rfl
set_option maxRecDepth 20000 in
theorem k_387 : Cond.selects "PlainPort" y_X_apart y_X_apart ∈ WD := wd_of 387 rfl rfl
set_option maxRecDepth 20000 in
theorem k_388 : Cond.code y_X_apart prog_1_method_9_code 7 (some .int) ∈ WD := wd_of 388 rfl rfl
set_option maxRecDepth 20000 in
theorem k_389 : Cond.methodLink "PlainPort" 102 y_X_distance ∈ WD := wd_of 389 rfl rfl
set_option maxRecDepth 20000 in
theorem k_390 : Cond.static y_X_distance ∈ WD := wd_of 390 rfl rfl
set_option maxRecDepth 20000 in
theorem k_391 : Cond.code y_X_distance prog_1_method_19_code 2 (some .int) ∈ WD := wd_of 391 rfl rfl
set_option maxRecDepth 20000 in
theorem k_392 : Cond.methodLink "PlainPort" 165 y_Ma_abs ∈ WD := wd_of 392 rfl rfl
set_option maxRecDepth 20000 in
theorem k_393 : Cond.static y_Ma_abs ∈ WD := wd_of 393 rfl rfl
set_option maxRecDepth 20000 in
theorem k_394 : Cond.code y_Ma_abs prog_13_method_59_code 1 (some .int) ∈ WD := wd_of 394 rfl rfl
set_option maxRecDepth 20000 in
theorem k_395 : Cond.methodLink "PlainPortLaw" 82 y_L_least ∈ WD := wd_of 395 rfl rfl
set_option maxRecDepth 20000 in
theorem k_396 : Cond.static y_L_least ∈ WD := wd_of 396 rfl rfl
set_option maxRecDepth 20000 in
theorem k_397 : Cond.codeWith y_L_least method_9_code 5 (some .int) [(0, 10, 13, 13)] ∈ WD := wd_of 397 rfl rfl
set_option maxRecDepth 20000 in
theorem k_398 : Cond.methodLink "PlainPortLaw" 31 y_X_least ∈ WD := wd_of 398 rfl rfl
set_option maxRecDepth 20000 in
theorem k_399 : Cond.instanceMethod y_X_least ∈ WD := wd_of 399 rfl rfl
set_option maxRecDepth 20000 in
theorem k_400 : Cond.selects "PlainPort" y_X_least y_X_least ∈ WD := wd_of 400 rfl rfl
set_option maxRecDepth 20000 in
theorem k_401 : Cond.code y_X_least prog_1_method_10_code 3 (some .int) ∈ WD := wd_of 401 rfl rfl
set_option maxRecDepth 20000 in
theorem n_402 : Cond.methodLinkNest "PlainPort" 106 y_B_leastWay "PlainPort" ∈ nws := List.mem_filter.mpr ⟨List.mem_of_getElem? (i := 402) rfl, rfl⟩
set_option maxRecDepth 20000 in
theorem k_404 : Cond.instanceMethod y_B_leastWay ∈ WD := wd_of 404 rfl rfl
set_option maxRecDepth 20000 in
theorem k_405 : Cond.code y_B_leastWay prog_3_method_2_code 4 (some .int) ∈ WD := wd_of 405 rfl rfl
set_option maxRecDepth 20000 in
theorem k_406 : Cond.methodLink "PlainPort$Bringing" 22 y_B_gatherBoxes ∈ WD := wd_of 406 rfl rfl
set_option maxRecDepth 20000 in
theorem k_408 : Cond.instanceMethod y_B_gatherBoxes ∈ WD := wd_of 408 rfl rfl
set_option maxRecDepth 20000 in
theorem k_409 : Cond.code y_B_gatherBoxes prog_3_method_3_code 3 (some .boolean) ∈ WD := wd_of 409 rfl rfl
set_option maxRecDepth 20000 in
theorem k_410 : Cond.methodLink "PlainPort$Bringing" 26 y_B_leastFor ∈ WD := wd_of 410 rfl rfl
set_option maxRecDepth 20000 in
theorem k_412 : Cond.instanceMethod y_B_leastFor ∈ WD := wd_of 412 rfl rfl
set_option maxRecDepth 20000 in
theorem k_413 : Cond.code y_B_leastFor prog_3_method_4_code 7 (some .int) ∈ WD := wd_of 413 rfl rfl
set_option maxRecDepth 20000 in
theorem k_414 : Cond.methodLink "PlainPort$Bringing" 35 y_In_bitCount ∈ WD := wd_of 414 rfl rfl
set_option maxRecDepth 20000 in
theorem k_415 : Cond.static y_In_bitCount ∈ WD := wd_of 415 rfl rfl
set_option maxRecDepth 20000 in
theorem k_416 : Cond.code y_In_bitCount prog_12_method_49_code 1 (some .int) ∈ WD := wd_of 416 rfl rfl
set_option maxRecDepth 20000 in
theorem k_417 : Cond.constant "java/lang/Integer" 265 (1431655765 : Int32) ∈ WD := wd_of 417 rfl rfl
set_option maxRecDepth 20000 in
theorem k_418 : Cond.constant "java/lang/Integer" 266 (858993459 : Int32) ∈ WD := wd_of 418 rfl rfl
set_option maxRecDepth 20000 in
theorem k_419 : Cond.constant "java/lang/Integer" 267 (252645135 : Int32) ∈ WD := wd_of 419 rfl rfl
set_option maxRecDepth 20000 in
theorem n_420 : Cond.methodLinkNest "PlainPort$Bringing" 40 y_X_distance "PlainPort" ∈ nws := List.mem_filter.mpr ⟨List.mem_of_getElem? (i := 420) rfl, rfl⟩
set_option maxRecDepth 20000 in
theorem k_421 : Cond.methodLink "PlainPort$Bringing" 44 y_Ma_min ∈ WD := wd_of 421 rfl rfl
set_option maxRecDepth 20000 in
theorem k_422 : Cond.methodLink "PlainPortLaw" 86 y_L_look ∈ WD := wd_of 422 rfl rfl
set_option maxRecDepth 20000 in
theorem k_423 : Cond.static y_L_look ∈ WD := wd_of 423 rfl rfl
set_option maxRecDepth 20000 in
theorem k_424 : Cond.codeWith y_L_look method_10_code 5 (some .int) [(0, 10, 13, 38)] ∈ WD := wd_of 424 rfl rfl
set_option maxRecDepth 20000 in
theorem k_425 : Cond.classLink "PlainPortLaw" 38 "java/lang/IndexOutOfBoundsException" ∈ WD := wd_of 425 rfl rfl
set_option maxRecDepth 20000 in
theorem k_426 : Cond.methodLink "PlainPortLaw" 35 y_X_look ∈ WD := wd_of 426 rfl rfl
set_option maxRecDepth 20000 in
theorem k_427 : Cond.instanceMethod y_X_look ∈ WD := wd_of 427 rfl rfl
set_option maxRecDepth 20000 in
theorem k_428 : Cond.selects "PlainPort" y_X_look y_X_look ∈ WD := wd_of 428 rfl rfl
set_option maxRecDepth 20000 in
theorem k_429 : Cond.code y_X_look prog_1_method_11_code 3 (some .int) ∈ WD := wd_of 429 rfl rfl
set_option maxRecDepth 20000 in
theorem n_430 : Cond.methodLinkNest "PlainPort" 110 y_A_has "PlainPort" ∈ nws := List.mem_filter.mpr ⟨List.mem_of_getElem? (i := 430) rfl, rfl⟩
set_option maxRecDepth 20000 in
theorem k_431 : Cond.classLink "PlainPort" 113 "java/lang/IndexOutOfBoundsException" ∈ WD := wd_of 431 rfl rfl
set_option maxRecDepth 20000 in
theorem k_432 : Cond.instantiable "java/lang/IndexOutOfBoundsException" 6 ∈ WD := wd_of 432 rfl rfl
set_option maxRecDepth 20000 in
theorem n_433 : Cond.castable "java/lang/IndexOutOfBoundsException" "java/lang/IndexOutOfBoundsException" ∈ nws := List.mem_filter.mpr ⟨List.mem_of_getElem? (i := 433) rfl, rfl⟩
set_option maxRecDepth 20000 in
theorem k_434 : Cond.selects "java/lang/IndexOutOfBoundsException" ⟨"java/lang/Throwable", "fillInStackTrace", "(I)Ljava/lang/Throwable;"⟩ ⟨"java/lang/Throwable", "fillInStackTrace", "(I)Ljava/lang/Throwable;"⟩ ∈ WD := wd_of 434 rfl rfl
set_option maxRecDepth 20000 in
theorem k_435 : Cond.lays "java/lang/IndexOutOfBoundsException" "java/lang/Throwable" "cause" "Ljava/lang/Throwable;" ∈ WD := wd_of 435 rfl rfl
set_option maxRecDepth 20000 in
theorem k_436 : Cond.lays "java/lang/IndexOutOfBoundsException" "java/lang/Throwable" "stackTrace" "[Ljava/lang/StackTraceElement;" ∈ WD := wd_of 436 rfl rfl
set_option maxRecDepth 20000 in
theorem k_437 : Cond.lays "java/lang/IndexOutOfBoundsException" "java/lang/Throwable" "suppressedExceptions" "Ljava/util/List;" ∈ WD := wd_of 437 rfl rfl
set_option maxRecDepth 20000 in
theorem k_438 : Cond.lays "java/lang/IndexOutOfBoundsException" "java/lang/Throwable" "detailMessage" "Ljava/lang/String;" ∈ WD := wd_of 438 rfl rfl
set_option maxRecDepth 20000 in
theorem k_439 : Cond.lays "java/lang/IndexOutOfBoundsException" "java/lang/Throwable" "backtrace" "Ljava/lang/Object;" ∈ WD := wd_of 439 rfl rfl
set_option maxRecDepth 20000 in
theorem k_441 : Cond.methodLink "PlainPort" 117 ⟨"java/lang/IndexOutOfBoundsException", "<init>", "(Ljava/lang/String;)V"⟩ ∈ WD := wd_of 441 rfl rfl
set_option maxRecDepth 20000 in
theorem k_442 : Cond.instanceMethod ⟨"java/lang/IndexOutOfBoundsException", "<init>", "(Ljava/lang/String;)V"⟩ ∈ WD := wd_of 442 rfl rfl
set_option maxRecDepth 20000 in
theorem k_443 : Cond.code ⟨"java/lang/IndexOutOfBoundsException", "<init>", "(Ljava/lang/String;)V"⟩ prog_11_method_2_code 2 none ∈ WD := wd_of 443 rfl rfl
set_option maxRecDepth 20000 in
theorem k_444 : Cond.methodLink "java/lang/IndexOutOfBoundsException" 7 ⟨"java/lang/RuntimeException", "<init>", "(Ljava/lang/String;)V"⟩ ∈ WD := wd_of 444 rfl rfl
set_option maxRecDepth 20000 in
theorem k_445 : Cond.lays "java/lang/IndexOutOfBoundsException" "java/lang/Throwable" "depth" "I" ∈ WD := wd_of 445 rfl rfl
set_option maxRecDepth 20000 in
theorem k_446 : Cond.superclass "java/lang/IndexOutOfBoundsException" "java/lang/RuntimeException" ∈ WD := wd_of 446 rfl rfl
set_option maxRecDepth 20000 in
theorem n_447 : Cond.methodLinkNest "PlainPort" 135 y_A_isVoid "PlainPort" ∈ nws := List.mem_filter.mpr ⟨List.mem_of_getElem? (i := 447) rfl, rfl⟩
set_option maxRecDepth 20000 in
theorem k_449 : Cond.methodLink "PlainPortLaw" 89 y_L_changed ∈ WD := wd_of 449 rfl rfl
set_option maxRecDepth 20000 in
theorem k_450 : Cond.static y_L_changed ∈ WD := wd_of 450 rfl rfl
set_option maxRecDepth 20000 in
theorem k_451 : Cond.codeWith y_L_changed method_11_code 6 (some .int) [(0, 12, 15, 13)] ∈ WD := wd_of 451 rfl rfl
set_option maxRecDepth 20000 in
theorem k_452 : Cond.methodLink "PlainPortLaw" 40 y_X_changed ∈ WD := wd_of 452 rfl rfl
set_option maxRecDepth 20000 in
theorem k_453 : Cond.instanceMethod y_X_changed ∈ WD := wd_of 453 rfl rfl
set_option maxRecDepth 20000 in
theorem k_454 : Cond.selects "PlainPort" y_X_changed y_X_changed ∈ WD := wd_of 454 rfl rfl
set_option maxRecDepth 20000 in
theorem k_455 : Cond.code y_X_changed prog_1_method_12_code 4 (some .int) ∈ WD := wd_of 455 rfl rfl
set_option maxRecDepth 20000 in
theorem n_456 : Cond.methodLinkNest "PlainPort" 141 y_P_differencesFrom "PlainPort" ∈ nws := List.mem_filter.mpr ⟨List.mem_of_getElem? (i := 456) rfl, rfl⟩
set_option maxRecDepth 20000 in
theorem k_458 : Cond.instanceMethod y_P_differencesFrom ∈ WD := wd_of 458 rfl rfl
set_option maxRecDepth 20000 in
theorem k_459 : Cond.code y_P_differencesFrom prog_5_method_5_code 4 (some .int) ∈ WD := wd_of 459 rfl rfl
set_option maxRecDepth 20000 in
theorem k_460 : Cond.classLink "PlainPortLaw" 44 "PlainPortModel" ∈ WD := wd_of 460 rfl rfl
set_option maxRecDepth 20000 in
theorem k_461 : Cond.instantiable "PlainPortModel" 14 ∈ WD := wd_of 461 rfl rfl
set_option maxRecDepth 20000 in
theorem k_462 : Cond.methodLink "PlainPortLaw" 46 y_M_init ∈ WD := wd_of 462 rfl rfl
set_option maxRecDepth 20000 in
theorem k_463 : Cond.instanceMethod y_M_init ∈ WD := wd_of 463 rfl rfl
set_option maxRecDepth 20000 in
theorem k_464 : Cond.code y_M_init prog_8_method_1_code 1 none ∈ WD := wd_of 464 rfl rfl
set_option maxRecDepth 20000 in
theorem k_465 : Cond.methodLink "PlainPortModel" 1 ⟨"java/lang/Object", "<init>", "()V"⟩ ∈ WD := wd_of 465 rfl rfl
set_option maxRecDepth 20000 in
theorem k_466 : Cond.fieldLink "PlainPortModel" 40 "PlainPortModel" "thrown" "I" ∈ WD := wd_of 466 rfl rfl
set_option maxRecDepth 20000 in
theorem k_467 : Cond.fieldLink "PlainPortModel" 63 "PlainPortModel" "now" "I" ∈ WD := wd_of 467 rfl rfl
set_option maxRecDepth 20000 in
theorem k_468 : Cond.fieldLink "PlainPortModel" 50 "PlainPortModel" "acts" "I" ∈ WD := wd_of 468 rfl rfl
set_option maxRecDepth 20000 in
theorem k_469 : Cond.fieldLink "PlainPortModel" 60 "PlainPortModel" "refused" "I" ∈ WD := wd_of 469 rfl rfl
set_option maxRecDepth 20000 in
theorem k_470 : Cond.fieldLink "PlainPortModel" 7 "PlainPortModel" "kind" "[I" ∈ WD := wd_of 470 rfl rfl
set_option maxRecDepth 20000 in
theorem k_471 : Cond.fieldLink "PlainPortModel" 13 "PlainPortModel" "first" "[I" ∈ WD := wd_of 471 rfl rfl
set_option maxRecDepth 20000 in
theorem k_472 : Cond.fieldLink "PlainPortModel" 16 "PlainPortModel" "second" "[I" ∈ WD := wd_of 472 rfl rfl
set_option maxRecDepth 20000 in
theorem k_473 : Cond.fieldLink "PlainPortModel" 19 "PlainPortModel" "valid" "[I" ∈ WD := wd_of 473 rfl rfl
set_option maxRecDepth 20000 in
theorem k_474 : Cond.fieldLink "PlainPortModel" 22 "PlainPortModel" "told" "[I" ∈ WD := wd_of 474 rfl rfl
set_option maxRecDepth 20000 in
theorem k_475 : Cond.fieldLink "PlainPortModel" 25 "PlainPortModel" "slotOf" "[I" ∈ WD := wd_of 475 rfl rfl
set_option maxRecDepth 20000 in
theorem k_476 : Cond.fieldLink "PlainPortModel" 28 "PlainPortModel" "states" "[I" ∈ WD := wd_of 476 rfl rfl
set_option maxRecDepth 20000 in
theorem k_477 : Cond.fieldLink "PlainPortModel" 31 "PlainPortModel" "sums" "[I" ∈ WD := wd_of 477 rfl rfl
set_option maxRecDepth 20000 in
theorem k_478 : Cond.fieldLink "PlainPortModel" 34 "PlainPortModel" "has" "[I" ∈ WD := wd_of 478 rfl rfl
set_option maxRecDepth 20000 in
theorem k_479 : Cond.fieldLink "PlainPortModel" 37 "PlainPortModel" "leastTo" "[I" ∈ WD := wd_of 479 rfl rfl
set_option maxRecDepth 20000 in
theorem k_480 : Cond.lays "PlainPortModel" "PlainPortModel" "thrown" "I" ∈ WD := wd_of 480 rfl rfl
set_option maxRecDepth 20000 in
theorem k_482 : Cond.lays "PlainPortModel" "PlainPortModel" "now" "I" ∈ WD := wd_of 482 rfl rfl
set_option maxRecDepth 20000 in
theorem k_484 : Cond.lays "PlainPortModel" "PlainPortModel" "acts" "I" ∈ WD := wd_of 484 rfl rfl
set_option maxRecDepth 20000 in
theorem k_486 : Cond.lays "PlainPortModel" "PlainPortModel" "refused" "I" ∈ WD := wd_of 486 rfl rfl
set_option maxRecDepth 20000 in
theorem k_488 : Cond.laysFinal "PlainPortModel" "PlainPortModel" "kind" "[I" ∈ WD := wd_of 488 rfl rfl
set_option maxRecDepth 20000 in
theorem k_490 : Cond.laysFinal "PlainPortModel" "PlainPortModel" "first" "[I" ∈ WD := wd_of 490 rfl rfl
set_option maxRecDepth 20000 in
theorem k_492 : Cond.laysFinal "PlainPortModel" "PlainPortModel" "second" "[I" ∈ WD := wd_of 492 rfl rfl
set_option maxRecDepth 20000 in
theorem k_494 : Cond.laysFinal "PlainPortModel" "PlainPortModel" "valid" "[I" ∈ WD := wd_of 494 rfl rfl
set_option maxRecDepth 20000 in
theorem k_496 : Cond.laysFinal "PlainPortModel" "PlainPortModel" "told" "[I" ∈ WD := wd_of 496 rfl rfl
set_option maxRecDepth 20000 in
theorem k_498 : Cond.laysFinal "PlainPortModel" "PlainPortModel" "slotOf" "[I" ∈ WD := wd_of 498 rfl rfl
set_option maxRecDepth 20000 in
theorem k_500 : Cond.laysFinal "PlainPortModel" "PlainPortModel" "states" "[I" ∈ WD := wd_of 500 rfl rfl
set_option maxRecDepth 20000 in
theorem k_502 : Cond.laysFinal "PlainPortModel" "PlainPortModel" "sums" "[I" ∈ WD := wd_of 502 rfl rfl
set_option maxRecDepth 20000 in
theorem k_504 : Cond.laysFinal "PlainPortModel" "PlainPortModel" "has" "[I" ∈ WD := wd_of 504 rfl rfl
set_option maxRecDepth 20000 in
theorem k_506 : Cond.laysFinal "PlainPortModel" "PlainPortModel" "leastTo" "[I" ∈ WD := wd_of 506 rfl rfl
set_option maxRecDepth 20000 in
theorem k_508 : Cond.superclass "PlainPortModel" "java/lang/Object" ∈ WD := wd_of 508 rfl rfl
set_option maxRecDepth 20000 in
theorem k_509 : Cond.methodLink "PlainPortLaw" 62 y_M_thrown ∈ WD := wd_of 509 rfl rfl
set_option maxRecDepth 20000 in
theorem k_510 : Cond.instanceMethod y_M_thrown ∈ WD := wd_of 510 rfl rfl
set_option maxRecDepth 20000 in
theorem k_511 : Cond.selects "PlainPortModel" y_M_thrown y_M_thrown ∈ WD := wd_of 511 rfl rfl
set_option maxRecDepth 20000 in
theorem k_512 : Cond.code y_M_thrown prog_8_method_2_code 1 (some .int) ∈ WD := wd_of 512 rfl rfl
set_option maxRecDepth 20000 in
theorem k_513 : Cond.methodLink "PlainPortLaw" 50 y_M_event ∈ WD := wd_of 513 rfl rfl
set_option maxRecDepth 20000 in
theorem k_514 : Cond.instanceMethod y_M_event ∈ WD := wd_of 514 rfl rfl
set_option maxRecDepth 20000 in
theorem k_515 : Cond.selects "PlainPortModel" y_M_event y_M_event ∈ WD := wd_of 515 rfl rfl
set_option maxRecDepth 20000 in
theorem k_516 : Cond.code y_M_event prog_8_method_7_code 5 (some .int) ∈ WD := wd_of 516 rfl rfl
set_option maxRecDepth 20000 in
theorem k_517 : Cond.methodLink "PlainPortModel" 53 y_M_fits ∈ WD := wd_of 517 rfl rfl
set_option maxRecDepth 20000 in
theorem k_519 : Cond.instanceMethod y_M_fits ∈ WD := wd_of 519 rfl rfl
set_option maxRecDepth 20000 in
theorem k_520 : Cond.code y_M_fits prog_8_method_6_code 4 (some .boolean) ∈ WD := wd_of 520 rfl rfl
set_option maxRecDepth 20000 in
theorem k_521 : Cond.methodLink "PlainPortModel" 44 y_M_in ∈ WD := wd_of 521 rfl rfl
set_option maxRecDepth 20000 in
theorem k_522 : Cond.static y_M_in ∈ WD := wd_of 522 rfl rfl
set_option maxRecDepth 20000 in
theorem k_523 : Cond.code y_M_in prog_8_method_4_code 3 (some .boolean) ∈ WD := wd_of 523 rfl rfl
set_option maxRecDepth 20000 in
theorem k_524 : Cond.constant "PlainPortModel" 48 (-1000000 : Int32) ∈ WD := wd_of 524 rfl rfl
set_option maxRecDepth 20000 in
theorem k_525 : Cond.constant "PlainPortModel" 49 (1000000 : Int32) ∈ WD := wd_of 525 rfl rfl
set_option maxRecDepth 20000 in
theorem k_526 : Cond.methodLink "PlainPortModel" 56 y_M_isTime ∈ WD := wd_of 526 rfl rfl
set_option maxRecDepth 20000 in
theorem k_527 : Cond.static y_M_isTime ∈ WD := wd_of 527 rfl rfl
set_option maxRecDepth 20000 in
theorem k_528 : Cond.code y_M_isTime prog_8_method_5_code 1 (some .boolean) ∈ WD := wd_of 528 rfl rfl
set_option maxRecDepth 20000 in
theorem k_529 : Cond.methodLink "PlainPortLaw" 55 y_M_known ∈ WD := wd_of 529 rfl rfl
set_option maxRecDepth 20000 in
theorem k_530 : Cond.instanceMethod y_M_known ∈ WD := wd_of 530 rfl rfl
set_option maxRecDepth 20000 in
theorem k_531 : Cond.selects "PlainPortModel" y_M_known y_M_known ∈ WD := wd_of 531 rfl rfl
set_option maxRecDepth 20000 in
theorem k_532 : Cond.code y_M_known prog_8_method_8_code 2 (some .boolean) ∈ WD := wd_of 532 rfl rfl
set_option maxRecDepth 20000 in
theorem k_533 : Cond.methodLink "PlainPortLaw" 61 y_M_place ∈ WD := wd_of 533 rfl rfl
set_option maxRecDepth 20000 in
theorem k_534 : Cond.instanceMethod y_M_place ∈ WD := wd_of 534 rfl rfl
set_option maxRecDepth 20000 in
theorem k_535 : Cond.selects "PlainPortModel" y_M_place y_M_place ∈ WD := wd_of 535 rfl rfl
set_option maxRecDepth 20000 in
theorem k_536 : Cond.code y_M_place prog_8_method_17_code 4 (some .int) ∈ WD := wd_of 536 rfl rfl
set_option maxRecDepth 20000 in
theorem k_537 : Cond.methodLink "PlainPortModel" 88 y_M_isAsked ∈ WD := wd_of 537 rfl rfl
set_option maxRecDepth 20000 in
theorem k_539 : Cond.instanceMethod y_M_isAsked ∈ WD := wd_of 539 rfl rfl
set_option maxRecDepth 20000 in
theorem k_540 : Cond.code y_M_isAsked prog_8_method_16_code 4 (some .boolean) ∈ WD := wd_of 540 rfl rfl
set_option maxRecDepth 20000 in
theorem k_541 : Cond.methodLink "PlainPortModel" 92 y_M_finds ∈ WD := wd_of 541 rfl rfl
set_option maxRecDepth 20000 in
theorem k_543 : Cond.instanceMethod y_M_finds ∈ WD := wd_of 543 rfl rfl
set_option maxRecDepth 20000 in
theorem k_544 : Cond.code y_M_finds prog_8_method_15_code 4 none ∈ WD := wd_of 544 rfl rfl
set_option maxRecDepth 20000 in
theorem k_545 : Cond.methodLink "PlainPortModel" 80 y_M_next ∈ WD := wd_of 545 rfl rfl
set_option maxRecDepth 20000 in
theorem k_547 : Cond.instanceMethod y_M_next ∈ WD := wd_of 547 rfl rfl
set_option maxRecDepth 20000 in
theorem k_548 : Cond.code y_M_next prog_8_method_12_code 7 (some .int) ∈ WD := wd_of 548 rfl rfl
set_option maxRecDepth 20000 in
theorem k_549 : Cond.methodLink "PlainPortModel" 70 y_M_counts ∈ WD := wd_of 549 rfl rfl
set_option maxRecDepth 20000 in
theorem k_551 : Cond.instanceMethod y_M_counts ∈ WD := wd_of 551 rfl rfl
set_option maxRecDepth 20000 in
theorem k_552 : Cond.code y_M_counts prog_8_method_10_code 4 (some .boolean) ∈ WD := wd_of 552 rfl rfl
set_option maxRecDepth 20000 in
theorem k_553 : Cond.methodLink "PlainPortModel" 66 y_M_isVoid ∈ WD := wd_of 553 rfl rfl
set_option maxRecDepth 20000 in
theorem k_555 : Cond.instanceMethod y_M_isVoid ∈ WD := wd_of 555 rfl rfl
set_option maxRecDepth 20000 in
theorem k_556 : Cond.code y_M_isVoid prog_8_method_9_code 5 (some .boolean) ∈ WD := wd_of 556 rfl rfl
set_option maxRecDepth 20000 in
theorem k_557 : Cond.methodLink "PlainPortModel" 73 y_M_order ∈ WD := wd_of 557 rfl rfl
set_option maxRecDepth 20000 in
theorem k_559 : Cond.instanceMethod y_M_order ∈ WD := wd_of 559 rfl rfl
set_option maxRecDepth 20000 in
theorem k_560 : Cond.code y_M_order prog_8_method_11_code 2 (some .int) ∈ WD := wd_of 560 rfl rfl
set_option maxRecDepth 20000 in
theorem k_561 : Cond.methodLink "PlainPortModel" 84 y_M_holds ∈ WD := wd_of 561 rfl rfl
set_option maxRecDepth 20000 in
theorem k_563 : Cond.instanceMethod y_M_holds ∈ WD := wd_of 563 rfl rfl
set_option maxRecDepth 20000 in
theorem k_564 : Cond.code y_M_holds prog_8_method_14_code 4 none ∈ WD := wd_of 564 rfl rfl
set_option maxRecDepth 20000 in
theorem k_565 : Cond.methodLink "PlainPortModel" 77 y_M_boxAt ∈ WD := wd_of 565 rfl rfl
set_option maxRecDepth 20000 in
theorem k_567 : Cond.instanceMethod y_M_boxAt ∈ WD := wd_of 567 rfl rfl
set_option maxRecDepth 20000 in
theorem k_568 : Cond.code y_M_boxAt prog_8_method_13_code 4 (some .int) ∈ WD := wd_of 568 rfl rfl
set_option maxRecDepth 20000 in
theorem k_569 : Cond.methodLink "PlainPortLaw" 68 y_M_at ∈ WD := wd_of 569 rfl rfl
set_option maxRecDepth 20000 in
theorem k_570 : Cond.instanceMethod y_M_at ∈ WD := wd_of 570 rfl rfl
set_option maxRecDepth 20000 in
theorem k_571 : Cond.selects "PlainPortModel" y_M_at y_M_at ∈ WD := wd_of 571 rfl rfl
set_option maxRecDepth 20000 in
theorem k_572 : Cond.code y_M_at prog_8_method_18_code 4 (some .int) ∈ WD := wd_of 572 rfl rfl
set_option maxRecDepth 20000 in
theorem k_573 : Cond.methodLink "PlainPortLaw" 71 y_M_state ∈ WD := wd_of 573 rfl rfl
set_option maxRecDepth 20000 in
theorem k_574 : Cond.instanceMethod y_M_state ∈ WD := wd_of 574 rfl rfl
set_option maxRecDepth 20000 in
theorem k_575 : Cond.selects "PlainPortModel" y_M_state y_M_state ∈ WD := wd_of 575 rfl rfl
set_option maxRecDepth 20000 in
theorem k_576 : Cond.code y_M_state prog_8_method_19_code 4 (some .int) ∈ WD := wd_of 576 rfl rfl
set_option maxRecDepth 20000 in
theorem k_577 : Cond.methodLink "PlainPortLaw" 74 y_M_sum ∈ WD := wd_of 577 rfl rfl
set_option maxRecDepth 20000 in
theorem k_578 : Cond.instanceMethod y_M_sum ∈ WD := wd_of 578 rfl rfl
set_option maxRecDepth 20000 in
theorem k_579 : Cond.selects "PlainPortModel" y_M_sum y_M_sum ∈ WD := wd_of 579 rfl rfl
set_option maxRecDepth 20000 in
theorem k_580 : Cond.code y_M_sum prog_8_method_20_code 4 (some .int) ∈ WD := wd_of 580 rfl rfl
set_option maxRecDepth 20000 in
theorem k_581 : Cond.methodLink "PlainPortLaw" 77 y_M_quota ∈ WD := wd_of 581 rfl rfl
set_option maxRecDepth 20000 in
theorem k_582 : Cond.instanceMethod y_M_quota ∈ WD := wd_of 582 rfl rfl
set_option maxRecDepth 20000 in
theorem k_583 : Cond.selects "PlainPortModel" y_M_quota y_M_quota ∈ WD := wd_of 583 rfl rfl
set_option maxRecDepth 20000 in
theorem k_584 : Cond.code y_M_quota prog_8_method_23_code 7 (some .int) ∈ WD := wd_of 584 rfl rfl
set_option maxRecDepth 20000 in
theorem k_585 : Cond.methodLink "PlainPortModel" 100 y_M_serves ∈ WD := wd_of 585 rfl rfl
set_option maxRecDepth 20000 in
theorem k_587 : Cond.instanceMethod y_M_serves ∈ WD := wd_of 587 rfl rfl
set_option maxRecDepth 20000 in
theorem k_588 : Cond.code y_M_serves prog_8_method_22_code 9 (some .int) ∈ WD := wd_of 588 rfl rfl
set_option maxRecDepth 20000 in
theorem k_589 : Cond.methodLink "PlainPortModel" 96 y_M_asks ∈ WD := wd_of 589 rfl rfl
set_option maxRecDepth 20000 in
theorem k_591 : Cond.instanceMethod y_M_asks ∈ WD := wd_of 591 rfl rfl
set_option maxRecDepth 20000 in
theorem k_592 : Cond.code y_M_asks prog_8_method_21_code 5 (some .boolean) ∈ WD := wd_of 592 rfl rfl
set_option maxRecDepth 20000 in
theorem k_593 : Cond.methodLink "PlainPortLaw" 81 y_M_apart ∈ WD := wd_of 593 rfl rfl
set_option maxRecDepth 20000 in
theorem k_594 : Cond.instanceMethod y_M_apart ∈ WD := wd_of 594 rfl rfl
set_option maxRecDepth 20000 in
theorem k_595 : Cond.selects "PlainPortModel" y_M_apart y_M_apart ∈ WD := wd_of 595 rfl rfl
set_option maxRecDepth 20000 in
theorem k_596 : Cond.code y_M_apart prog_8_method_26_code 5 (some .int) ∈ WD := wd_of 596 rfl rfl
set_option maxRecDepth 20000 in
theorem k_597 : Cond.methodLink "PlainPortModel" 107 y_M_distance ∈ WD := wd_of 597 rfl rfl
set_option maxRecDepth 20000 in
theorem k_598 : Cond.static y_M_distance ∈ WD := wd_of 598 rfl rfl
set_option maxRecDepth 20000 in
theorem k_599 : Cond.code y_M_distance prog_8_method_25_code 2 (some .int) ∈ WD := wd_of 599 rfl rfl
set_option maxRecDepth 20000 in
theorem k_600 : Cond.methodLink "PlainPortModel" 104 y_M_far ∈ WD := wd_of 600 rfl rfl
set_option maxRecDepth 20000 in
theorem k_601 : Cond.static y_M_far ∈ WD := wd_of 601 rfl rfl
set_option maxRecDepth 20000 in
theorem k_602 : Cond.code y_M_far prog_8_method_24_code 1 (some .int) ∈ WD := wd_of 602 rfl rfl
set_option maxRecDepth 20000 in
theorem k_603 : Cond.methodLink "PlainPortLaw" 85 y_M_least ∈ WD := wd_of 603 rfl rfl
set_option maxRecDepth 20000 in
theorem k_604 : Cond.instanceMethod y_M_least ∈ WD := wd_of 604 rfl rfl
set_option maxRecDepth 20000 in
theorem k_605 : Cond.selects "PlainPortModel" y_M_least y_M_least ∈ WD := wd_of 605 rfl rfl
set_option maxRecDepth 20000 in
theorem k_606 : Cond.code y_M_least prog_8_method_30_code 5 (some .int) ∈ WD := wd_of 606 rfl rfl
set_option maxRecDepth 20000 in
theorem k_607 : Cond.methodLink "PlainPortModel" 118 y_M_leastOf ∈ WD := wd_of 607 rfl rfl
set_option maxRecDepth 20000 in
theorem k_609 : Cond.instanceMethod y_M_leastOf ∈ WD := wd_of 609 rfl rfl
set_option maxRecDepth 20000 in
theorem k_610 : Cond.code y_M_leastOf prog_8_method_29_code 6 (some .int) ∈ WD := wd_of 610 rfl rfl
set_option maxRecDepth 20000 in
theorem k_611 : Cond.methodLink "PlainPortModel" 111 y_M_ones ∈ WD := wd_of 611 rfl rfl
set_option maxRecDepth 20000 in
theorem k_612 : Cond.static y_M_ones ∈ WD := wd_of 612 rfl rfl
set_option maxRecDepth 20000 in
theorem k_613 : Cond.code y_M_ones prog_8_method_28_code 3 (some .int) ∈ WD := wd_of 613 rfl rfl
set_option maxRecDepth 20000 in
theorem k_614 : Cond.methodLink "PlainPortModel" 114 y_M_lying ∈ WD := wd_of 614 rfl rfl
set_option maxRecDepth 20000 in
theorem k_616 : Cond.instanceMethod y_M_lying ∈ WD := wd_of 616 rfl rfl
set_option maxRecDepth 20000 in
theorem k_617 : Cond.code y_M_lying prog_8_method_27_code 4 (some .int) ∈ WD := wd_of 617 rfl rfl
set_option maxRecDepth 20000 in
theorem k_618 : Cond.constant "PlainPortModel" 117 (100000 : Int32) ∈ WD := wd_of 618 rfl rfl
set_option maxRecDepth 20000 in
theorem k_619 : Cond.methodLink "PlainPortLaw" 88 y_M_look ∈ WD := wd_of 619 rfl rfl
set_option maxRecDepth 20000 in
theorem k_620 : Cond.instanceMethod y_M_look ∈ WD := wd_of 620 rfl rfl
set_option maxRecDepth 20000 in
theorem k_621 : Cond.selects "PlainPortModel" y_M_look y_M_look ∈ WD := wd_of 621 rfl rfl
set_option maxRecDepth 20000 in
theorem k_622 : Cond.code y_M_look prog_8_method_31_code 3 (some .int) ∈ WD := wd_of 622 rfl rfl
set_option maxRecDepth 20000 in
theorem k_623 : Cond.methodLink "PlainPortModel" 121 y_M_refuse ∈ WD := wd_of 623 rfl rfl
set_option maxRecDepth 20000 in
theorem k_625 : Cond.instanceMethod y_M_refuse ∈ WD := wd_of 625 rfl rfl
set_option maxRecDepth 20000 in
theorem k_626 : Cond.code y_M_refuse prog_8_method_3_code 2 (some .int) ∈ WD := wd_of 626 rfl rfl
set_option maxRecDepth 20000 in
theorem k_627 : Cond.methodLink "PlainPortLaw" 91 y_M_changed ∈ WD := wd_of 627 rfl rfl
set_option maxRecDepth 20000 in
theorem k_628 : Cond.instanceMethod y_M_changed ∈ WD := wd_of 628 rfl rfl
set_option maxRecDepth 20000 in
theorem k_629 : Cond.selects "PlainPortModel" y_M_changed y_M_changed ∈ WD := wd_of 629 rfl rfl
set_option maxRecDepth 20000 in
theorem k_630 : Cond.code y_M_changed prog_8_method_32_code 8 (some .int) ∈ WD := wd_of 630 rfl rfl
set_option maxRecDepth 20000 in
theorem k_631 : Cond.methodLink "PlainPortLaw" 96 y_M_count ∈ WD := wd_of 631 rfl rfl
set_option maxRecDepth 20000 in
theorem k_632 : Cond.instanceMethod y_M_count ∈ WD := wd_of 632 rfl rfl
set_option maxRecDepth 20000 in
theorem k_633 : Cond.selects "PlainPortModel" y_M_count y_M_count ∈ WD := wd_of 633 rfl rfl
set_option maxRecDepth 20000 in
theorem k_634 : Cond.code y_M_count prog_8_method_33_code 4 (some .int) ∈ WD := wd_of 634 rfl rfl
set_option maxRecDepth 20000 in
theorem k_635 : Cond.arrayClass .long ∈ WD := wd_of 635 rfl rfl
set_option maxRecDepth 20000 in
theorem k_636 : Cond.sameMethod "java/lang/Throwable" "java/lang/Throwable" "fillInStackTrace" "(I)Ljava/lang/Throwable;" ∈ WD := wd_of 636 rfl rfl
theorem ks_0 : Cond.selects y_A_isFull.cls y_A_isFull y_A_isFull ∈ WD := wd_sel (n := 6) 0 rfl rfl
theorem ks_1 : Cond.selects y_A_canTell.cls y_A_canTell y_A_canTell ∈ WD := wd_sel (n := 6) 1 rfl rfl
theorem ks_2 : Cond.selects y_A_has.cls y_A_has y_A_has ∈ WD := wd_sel (n := 6) 2 rfl rfl
theorem ks_3 : Cond.selects y_A_append.cls y_A_append y_A_append ∈ WD := wd_sel (n := 6) 3 rfl rfl
theorem ks_4 : Cond.selects y_A_voidsAsKnown.cls y_A_voidsAsKnown y_A_voidsAsKnown ∈ WD := wd_sel (n := 6) 4 rfl rfl
theorem ks_5 : Cond.selects y_A_isVoid.cls y_A_isVoid y_A_isVoid ∈ WD := wd_sel (n := 6) 5 rfl rfl
theorem ks_7 : Cond.selects y_X_draw.cls y_X_draw y_X_draw ∈ WD := wd_sel (n := 8) 7 rfl rfl
theorem ks_8 : Cond.selects y_X_gather.cls y_X_gather y_X_gather ∈ WD := wd_sel (n := 8) 8 rfl rfl
theorem ks_9 : Cond.selects y_O_gather.cls y_O_gather y_O_gather ∈ WD := wd_sel (n := 2) 9 rfl rfl
theorem ks_10 : Cond.selects y_A_holds.cls y_A_holds y_A_holds ∈ WD := wd_sel (n := 6) 10 rfl rfl
theorem ks_11 : Cond.selects y_O_insert.cls y_O_insert y_O_insert ∈ WD := wd_sel (n := 2) 11 rfl rfl
theorem ks_12 : Cond.selects y_A_goesAhead.cls y_A_goesAhead y_A_goesAhead ∈ WD := wd_sel (n := 6) 12 rfl rfl
theorem ks_13 : Cond.selects y_P_draw.cls y_P_draw y_P_draw ∈ WD := wd_sel (n := 3) 13 rfl rfl
theorem ks_14 : Cond.selects y_P_apply.cls y_P_apply y_P_apply ∈ WD := wd_sel (n := 3) 14 rfl rfl
theorem ks_15 : Cond.selects y_P_boxIn.cls y_P_boxIn y_P_boxIn ∈ WD := wd_sel (n := 3) 15 rfl rfl
theorem ks_16 : Cond.selects y_S_serveAll.cls y_S_serveAll y_S_serveAll ∈ WD := wd_sel (n := 3) 16 rfl rfl
theorem ks_17 : Cond.selects y_S_gatherAsks.cls y_S_gatherAsks y_S_gatherAsks ∈ WD := wd_sel (n := 3) 17 rfl rfl
theorem ks_18 : Cond.selects y_S_startsTime.cls y_S_startsTime y_S_startsTime ∈ WD := wd_sel (n := 3) 18 rfl rfl
theorem ks_19 : Cond.selects y_S_endOfTime.cls y_S_endOfTime y_S_endOfTime ∈ WD := wd_sel (n := 3) 19 rfl rfl
theorem ks_20 : Cond.selects y_S_serveTime.cls y_S_serveTime y_S_serveTime ∈ WD := wd_sel (n := 3) 20 rfl rfl
theorem ks_21 : Cond.selects y_B_leastWay.cls y_B_leastWay y_B_leastWay ∈ WD := wd_sel (n := 3) 21 rfl rfl
theorem ks_22 : Cond.selects y_B_gatherBoxes.cls y_B_gatherBoxes y_B_gatherBoxes ∈ WD := wd_sel (n := 3) 22 rfl rfl
theorem ks_23 : Cond.selects y_B_leastFor.cls y_B_leastFor y_B_leastFor ∈ WD := wd_sel (n := 3) 23 rfl rfl
theorem ks_24 : Cond.selects y_P_differencesFrom.cls y_P_differencesFrom y_P_differencesFrom ∈ WD := wd_sel (n := 3) 24 rfl rfl
theorem ks_25 : Cond.selects y_M_fits.cls y_M_fits y_M_fits ∈ WD := wd_sel (n := 14) 25 rfl rfl
theorem ks_26 : Cond.selects y_M_isAsked.cls y_M_isAsked y_M_isAsked ∈ WD := wd_sel (n := 14) 26 rfl rfl
theorem ks_27 : Cond.selects y_M_finds.cls y_M_finds y_M_finds ∈ WD := wd_sel (n := 14) 27 rfl rfl
theorem ks_28 : Cond.selects y_M_next.cls y_M_next y_M_next ∈ WD := wd_sel (n := 14) 28 rfl rfl
theorem ks_29 : Cond.selects y_M_counts.cls y_M_counts y_M_counts ∈ WD := wd_sel (n := 14) 29 rfl rfl
theorem ks_30 : Cond.selects y_M_isVoid.cls y_M_isVoid y_M_isVoid ∈ WD := wd_sel (n := 14) 30 rfl rfl
theorem ks_31 : Cond.selects y_M_order.cls y_M_order y_M_order ∈ WD := wd_sel (n := 14) 31 rfl rfl
theorem ks_32 : Cond.selects y_M_holds.cls y_M_holds y_M_holds ∈ WD := wd_sel (n := 14) 32 rfl rfl
theorem ks_33 : Cond.selects y_M_boxAt.cls y_M_boxAt y_M_boxAt ∈ WD := wd_sel (n := 14) 33 rfl rfl
theorem ks_34 : Cond.selects y_M_serves.cls y_M_serves y_M_serves ∈ WD := wd_sel (n := 14) 34 rfl rfl
theorem ks_35 : Cond.selects y_M_asks.cls y_M_asks y_M_asks ∈ WD := wd_sel (n := 14) 35 rfl rfl
theorem ks_36 : Cond.selects y_M_leastOf.cls y_M_leastOf y_M_leastOf ∈ WD := wd_sel (n := 14) 36 rfl rfl
theorem ks_37 : Cond.selects y_M_lying.cls y_M_lying y_M_lying ∈ WD := wd_sel (n := 14) 37 rfl rfl
theorem ks_38 : Cond.selects y_M_refuse.cls y_M_refuse y_M_refuse ∈ WD := wd_sel (n := 14) 38 rfl rfl
theorem in_A {x : Cond} : ∀ w ∈ u_ws R_A T_A 6, w ∈ x :: WD := by
  have h : ∀ w ∈ u_ws R_A T_A 6, w ∈ WD := List.forall_mem_cons.mpr ⟨k_50, List.forall_mem_cons.mpr ⟨k_52, List.forall_mem_cons.mpr ⟨k_54, List.forall_mem_cons.mpr ⟨k_56, List.forall_mem_cons.mpr ⟨k_58, List.forall_mem_cons.mpr ⟨k_60, fun _ h => absurd h List.not_mem_nil⟩⟩⟩⟩⟩⟩
  exact fun w hw => wm (h w hw)
theorem in_B {x : Cond} : ∀ w ∈ u_ws R_B T_B 3, w ∈ x :: WD := by
  have h : ∀ w ∈ u_ws R_B T_B 3, w ∈ WD := List.forall_mem_cons.mpr ⟨k_127, List.forall_mem_cons.mpr ⟨k_129, List.forall_mem_cons.mpr ⟨k_131, fun _ h => absurd h List.not_mem_nil⟩⟩⟩
  exact fun w hw => wm (h w hw)
theorem in_O {x : Cond} : ∀ w ∈ u_ws R_O T_O 2, w ∈ x :: WD := by
  have h : ∀ w ∈ u_ws R_O T_O 2, w ∈ WD := List.forall_mem_cons.mpr ⟨k_76, List.forall_mem_cons.mpr ⟨k_78, fun _ h => absurd h List.not_mem_nil⟩⟩
  exact fun w hw => wm (h w hw)
theorem in_P {x : Cond} : ∀ w ∈ u_ws R_P T_P 3, w ∈ x :: WD := by
  have h : ∀ w ∈ u_ws R_P T_P 3, w ∈ WD := List.forall_mem_cons.mpr ⟨k_94, List.forall_mem_cons.mpr ⟨k_96, List.forall_mem_cons.mpr ⟨k_98, fun _ h => absurd h List.not_mem_nil⟩⟩⟩
  exact fun w hw => wm (h w hw)
theorem in_S {x : Cond} : ∀ w ∈ u_ws R_S T_S 3, w ∈ x :: WD := by
  have h : ∀ w ∈ u_ws R_S T_S 3, w ∈ WD := List.forall_mem_cons.mpr ⟨k_111, List.forall_mem_cons.mpr ⟨k_113, List.forall_mem_cons.mpr ⟨k_115, fun _ h => absurd h List.not_mem_nil⟩⟩⟩
  exact fun w hw => wm (h w hw)
theorem in_X {x : Cond} : ∀ w ∈ u_ws R_X T_X 8, w ∈ x :: WD := by
  have h : ∀ w ∈ u_ws R_X T_X 8, w ∈ WD := List.forall_mem_cons.mpr ⟨k_142, List.forall_mem_cons.mpr ⟨k_144, List.forall_mem_cons.mpr ⟨k_146, List.forall_mem_cons.mpr ⟨k_148, List.forall_mem_cons.mpr ⟨k_150, List.forall_mem_cons.mpr ⟨k_152, List.forall_mem_cons.mpr ⟨k_154, List.forall_mem_cons.mpr ⟨k_156, fun _ h => absurd h List.not_mem_nil⟩⟩⟩⟩⟩⟩⟩⟩
  exact fun w hw => wm (h w hw)
theorem in_M {x : Cond} : ∀ w ∈ u_ws R_M T_M 14, w ∈ x :: WD := by
  have h : ∀ w ∈ u_ws R_M T_M 14, w ∈ WD := List.forall_mem_cons.mpr ⟨k_480, List.forall_mem_cons.mpr ⟨k_482, List.forall_mem_cons.mpr ⟨k_484, List.forall_mem_cons.mpr ⟨k_486, List.forall_mem_cons.mpr ⟨k_488, List.forall_mem_cons.mpr ⟨k_490, List.forall_mem_cons.mpr ⟨k_492, List.forall_mem_cons.mpr ⟨k_494, List.forall_mem_cons.mpr ⟨k_496, List.forall_mem_cons.mpr ⟨k_498, List.forall_mem_cons.mpr ⟨k_500, List.forall_mem_cons.mpr ⟨k_502, List.forall_mem_cons.mpr ⟨k_504, List.forall_mem_cons.mpr ⟨k_506, fun _ h => absurd h List.not_mem_nil⟩⟩⟩⟩⟩⟩⟩⟩⟩⟩⟩⟩⟩⟩
  exact fun w hw => wm (h w hw)
