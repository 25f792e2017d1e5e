/-! the tables' words, each by its place -/
theorem jin_1 {i : Nat} {w : Cond} (hi : tables_1_1[i]? = some w) (hg : goodWord w = true) : w ∈ jTG := by
  have h := List.mem_of_getElem? hi
  exact List.mem_filter.mpr ⟨List.mem_append_right _ (List.mem_append_left _ h), hg⟩
theorem jin_2 {i : Nat} {w : Cond} (hi : tables_1_2[i]? = some w) (hg : goodWord w = true) : w ∈ jTG := by
  have h := List.mem_of_getElem? hi
  exact List.mem_filter.mpr ⟨List.mem_append_right _ (List.mem_append_right _ (List.mem_append_left _ h)), hg⟩
theorem jin_3 {i : Nat} {w : Cond} (hi : tables_1_3[i]? = some w) (hg : goodWord w = true) : w ∈ jTG := by
  have h := List.mem_of_getElem? hi
  exact List.mem_filter.mpr ⟨List.mem_append_right _ (List.mem_append_right _ (List.mem_append_right _ (h))), hg⟩
theorem w_1_0 : (Cond.initialized "MailAgentLaw") ∈ jTG := jin_1 (i := 0) rfl rfl
theorem w_1_1 : (Cond.initialized "MailAgent") ∈ jTG := jin_1 (i := 1) rfl rfl
theorem w_1_2 : (Cond.initialized "java/lang/Math") ∈ jTG := jin_1 (i := 2) rfl rfl
theorem w_1_3 : (Cond.initialized "MailAgent$Aliases") ∈ jTG := jin_1 (i := 3) rfl rfl
theorem w_1_4 : (Cond.initialized "MailAgent$Routes") ∈ jTG := jin_1 (i := 4) rfl rfl
theorem w_1_5 : (Cond.initialized "MailAgent$Transaction") ∈ jTG := jin_1 (i := 5) rfl rfl
theorem w_1_6 : (Cond.initialized "MailAgent$Recipients") ∈ jTG := jin_1 (i := 6) rfl rfl
theorem w_1_7 : (Cond.initialized "MailAgent$Queue") ∈ jTG := jin_1 (i := 7) rfl rfl
theorem w_1_8 : (Cond.initialized "MailAgent$Message") ∈ jTG := jin_1 (i := 8) rfl rfl
theorem w_1_9 : (Cond.initialized "MailAgent$Deliveries") ∈ jTG := jin_1 (i := 9) rfl rfl
theorem w_1_10 : (Cond.initialized "MailAgentModel") ∈ jTG := jin_1 (i := 10) rfl rfl
theorem w_1_11 : (Cond.initialized "java/lang/Long") ∈ jTG := jin_1 (i := 11) rfl rfl
theorem w_1_12 : (Cond.classLink "MailAgentLaw" (7 : Nat) "MailAgent") ∈ jTG := jin_1 (i := 12) rfl rfl
theorem w_1_13 : (Cond.instantiable "MailAgent" (13 : Nat)) ∈ jTG := jin_1 (i := 13) rfl rfl
theorem w_1_14 : (Cond.methodLink "MailAgentLaw" (15 : Nat) ({ cls := "MailAgent", name := "<init>", desc := "(III)V" } : MethodName)) ∈ jTG := jin_1 (i := 14) rfl rfl
theorem w_1_15 : (Cond.instanceMethod ({ cls := "MailAgent", name := "<init>", desc := "(III)V" } : MethodName)) ∈ jTG := jin_1 (i := 15) rfl rfl
theorem w_1_16 : (Cond.code ({ cls := "MailAgent", name := "<init>", desc := "(III)V" } : MethodName) prog_1_method_1_code (5 : Nat) (Option.none : Option FieldType)) ∈ jTG := jin_1 (i := 16) rfl rfl
theorem w_1_17 : (Cond.methodLink "MailAgent" (1 : Nat) ({ cls := "java/lang/Object", name := "<init>", desc := "()V" } : MethodName)) ∈ jTG := jin_1 (i := 17) rfl rfl
theorem w_1_18 : (Cond.instanceMethod ({ cls := "java/lang/Object", name := "<init>", desc := "()V" } : MethodName)) ∈ jTG := jin_1 (i := 18) rfl rfl
theorem w_1_19 : (Cond.code ({ cls := "java/lang/Object", name := "<init>", desc := "()V" } : MethodName) object_method_1_code (1 : Nat) (Option.none : Option FieldType)) ∈ jTG := jin_1 (i := 19) rfl rfl
theorem w_1_20 : (Cond.methodLink "MailAgent" (7 : Nat) ({ cls := "MailAgent", name := "clamp", desc := "(III)I" } : MethodName)) ∈ jTG := jin_1 (i := 20) rfl rfl
theorem w_1_21 : (Cond.static ({ cls := "MailAgent", name := "clamp", desc := "(III)I" } : MethodName)) ∈ jTG := jin_1 (i := 21) rfl rfl
theorem w_1_22 : (Cond.code ({ cls := "MailAgent", name := "clamp", desc := "(III)I" } : MethodName) prog_1_method_21_code (3 : Nat) (Option.some FieldType.int)) ∈ jTG := jin_1 (i := 22) rfl rfl
theorem w_1_23 : (Cond.methodLink "MailAgent" (218 : Nat) ({ cls := "java/lang/Math", name := "min", desc := "(II)I" } : MethodName)) ∈ jTG := jin_1 (i := 23) rfl rfl
theorem w_1_24 : (Cond.static ({ cls := "java/lang/Math", name := "min", desc := "(II)I" } : MethodName)) ∈ jTG := jin_1 (i := 24) rfl rfl
theorem w_1_25 : (Cond.code ({ cls := "java/lang/Math", name := "min", desc := "(II)I" } : MethodName) prog_12_method_69_code (2 : Nat) (Option.some FieldType.int)) ∈ jTG := jin_1 (i := 25) rfl rfl
theorem w_1_26 : (Cond.methodLink "MailAgent" (223 : Nat) ({ cls := "java/lang/Math", name := "max", desc := "(II)I" } : MethodName)) ∈ jTG := jin_1 (i := 26) rfl rfl
theorem w_1_27 : (Cond.static ({ cls := "java/lang/Math", name := "max", desc := "(II)I" } : MethodName)) ∈ jTG := jin_1 (i := 27) rfl rfl
theorem w_1_28 : (Cond.code ({ cls := "java/lang/Math", name := "max", desc := "(II)I" } : MethodName) prog_12_method_65_code (2 : Nat) (Option.some FieldType.int)) ∈ jTG := jin_1 (i := 28) rfl rfl
theorem w_1_29 : (Cond.classLink "MailAgent" (23 : Nat) "MailAgent$Aliases") ∈ jTG := jin_1 (i := 29) rfl rfl
theorem w_1_30 : (Cond.instantiable "MailAgent$Aliases" (1 : Nat)) ∈ jTG := jin_1 (i := 30) rfl rfl
theorem w_1_32 : (Cond.instanceMethod ({ cls := "MailAgent$Aliases", name := "<init>", desc := "()V" } : MethodName)) ∈ jTG := jin_1 (i := 32) rfl rfl
theorem w_1_33 : (Cond.code ({ cls := "MailAgent$Aliases", name := "<init>", desc := "()V" } : MethodName) prog_2_method_1_code (1 : Nat) (Option.none : Option FieldType)) ∈ jTG := jin_1 (i := 33) rfl rfl
theorem w_1_34 : (Cond.methodLink "MailAgent$Aliases" (3 : Nat) ({ cls := "java/lang/Object", name := "<init>", desc := "()V" } : MethodName)) ∈ jTG := jin_1 (i := 34) rfl rfl
theorem w_1_35 : (Cond.fieldLink "MailAgent$Aliases" (9 : Nat) "MailAgent$Aliases" "goals" "[J") ∈ jTG := jin_1 (i := 35) rfl rfl
theorem w_1_36 : (Cond.laysFinal "MailAgent$Aliases" "MailAgent$Aliases" "goals" "[J") ∈ jTG := jin_1 (i := 36) rfl rfl
theorem w_1_39 : (Cond.arrayClass FieldType.long) ∈ jTG := jin_1 (i := 39) rfl rfl
theorem w_1_40 : (Cond.classLink "MailAgent" (30 : Nat) "MailAgent$Routes") ∈ jTG := jin_1 (i := 40) rfl rfl
theorem w_1_42 : (Cond.instantiable "MailAgent$Routes" (3 : Nat)) ∈ jTG := jin_1 (i := 42) rfl rfl
theorem w_1_44 : (Cond.instanceMethod ({ cls := "MailAgent$Routes", name := "<init>", desc := "()V" } : MethodName)) ∈ jTG := jin_1 (i := 44) rfl rfl
theorem w_1_45 : (Cond.code ({ cls := "MailAgent$Routes", name := "<init>", desc := "()V" } : MethodName) prog_7_method_1_code (1 : Nat) (Option.none : Option FieldType)) ∈ jTG := jin_1 (i := 45) rfl rfl
theorem w_1_46 : (Cond.methodLink "MailAgent$Routes" (3 : Nat) ({ cls := "java/lang/Object", name := "<init>", desc := "()V" } : MethodName)) ∈ jTG := jin_1 (i := 46) rfl rfl
theorem w_1_47 : (Cond.fieldLink "MailAgent$Routes" (9 : Nat) "MailAgent$Routes" "hosts" "[I") ∈ jTG := jin_1 (i := 47) rfl rfl
theorem w_1_48 : (Cond.fieldLink "MailAgent" (240 : Nat) "MailAgent$Routes" "hosts" "[I") ∈ jTG := jin_1 (i := 48) rfl rfl
theorem w_1_49 : (Cond.fieldLink "MailAgent$Routes" (15 : Nat) "MailAgent$Routes" "preferences" "[I") ∈ jTG := jin_1 (i := 49) rfl rfl
theorem w_1_50 : (Cond.fieldLink "MailAgent$Routes" (18 : Nat) "MailAgent$Routes" "size" "I") ∈ jTG := jin_1 (i := 50) rfl rfl
theorem w_1_51 : (Cond.fieldLink "MailAgent" (239 : Nat) "MailAgent$Routes" "size" "I") ∈ jTG := jin_1 (i := 51) rfl rfl
theorem w_1_52 : (Cond.laysFinal "MailAgent$Routes" "MailAgent$Routes" "hosts" "[I") ∈ jTG := jin_1 (i := 52) rfl rfl
theorem w_1_54 : (Cond.laysFinal "MailAgent$Routes" "MailAgent$Routes" "preferences" "[I") ∈ jTG := jin_1 (i := 54) rfl rfl
theorem w_1_56 : (Cond.lays "MailAgent$Routes" "MailAgent$Routes" "size" "I") ∈ jTG := jin_1 (i := 56) rfl rfl
theorem w_1_59 : (Cond.arrayClass FieldType.int) ∈ jTG := jin_1 (i := 59) rfl rfl
theorem w_1_60 : (Cond.classLink "MailAgent" (41 : Nat) "MailAgent$Transaction") ∈ jTG := jin_1 (i := 60) rfl rfl
theorem w_1_61 : (Cond.instantiable "MailAgent$Transaction" (3 : Nat)) ∈ jTG := jin_1 (i := 61) rfl rfl
theorem w_1_63 : (Cond.instanceMethod ({ cls := "MailAgent$Transaction", name := "<init>", desc := "()V" } : MethodName)) ∈ jTG := jin_1 (i := 63) rfl rfl
theorem w_1_64 : (Cond.code ({ cls := "MailAgent$Transaction", name := "<init>", desc := "()V" } : MethodName) prog_8_method_1_code (1 : Nat) (Option.none : Option FieldType)) ∈ jTG := jin_1 (i := 64) rfl rfl
theorem w_1_65 : (Cond.methodLink "MailAgent$Transaction" (3 : Nat) ({ cls := "java/lang/Object", name := "<init>", desc := "()V" } : MethodName)) ∈ jTG := jin_1 (i := 65) rfl rfl
theorem w_1_66 : (Cond.classLink "MailAgent$Transaction" (9 : Nat) "MailAgent$Recipients") ∈ jTG := jin_1 (i := 66) rfl rfl
theorem w_1_67 : (Cond.instantiable "MailAgent$Recipients" (3 : Nat)) ∈ jTG := jin_1 (i := 67) rfl rfl
theorem w_1_69 : (Cond.instanceMethod ({ cls := "MailAgent$Recipients", name := "<init>", desc := "()V" } : MethodName)) ∈ jTG := jin_1 (i := 69) rfl rfl
theorem w_1_70 : (Cond.code ({ cls := "MailAgent$Recipients", name := "<init>", desc := "()V" } : MethodName) prog_6_method_1_code (1 : Nat) (Option.none : Option FieldType)) ∈ jTG := jin_1 (i := 70) rfl rfl
theorem w_1_71 : (Cond.methodLink "MailAgent$Recipients" (3 : Nat) ({ cls := "java/lang/Object", name := "<init>", desc := "()V" } : MethodName)) ∈ jTG := jin_1 (i := 71) rfl rfl
theorem w_1_72 : (Cond.fieldLink "MailAgent$Recipients" (9 : Nat) "MailAgent$Recipients" "addresses" "[I") ∈ jTG := jin_1 (i := 72) rfl rfl
theorem w_1_73 : (Cond.fieldLink "MailAgent" (229 : Nat) "MailAgent$Recipients" "addresses" "[I") ∈ jTG := jin_1 (i := 73) rfl rfl
theorem w_1_74 : (Cond.fieldLink "MailAgent$Recipients" (15 : Nat) "MailAgent$Recipients" "states" "[I") ∈ jTG := jin_1 (i := 74) rfl rfl
theorem w_1_75 : (Cond.fieldLink "MailAgent" (226 : Nat) "MailAgent$Recipients" "states" "[I") ∈ jTG := jin_1 (i := 75) rfl rfl
theorem w_1_76 : (Cond.fieldLink "MailAgent$Recipients" (18 : Nat) "MailAgent$Recipients" "size" "I") ∈ jTG := jin_1 (i := 76) rfl rfl
theorem w_1_77 : (Cond.fieldLink "MailAgent$Transaction" (26 : Nat) "MailAgent$Recipients" "size" "I") ∈ jTG := jin_1 (i := 77) rfl rfl
theorem w_1_78 : (Cond.fieldLink "MailAgent$Message" (55 : Nat) "MailAgent$Recipients" "size" "I") ∈ jTG := jin_1 (i := 78) rfl rfl
theorem w_1_79 : (Cond.fieldLink "MailAgent$Queue" (30 : Nat) "MailAgent$Recipients" "size" "I") ∈ jTG := jin_1 (i := 79) rfl rfl
theorem w_1_80 : (Cond.fieldLink "MailAgent" (129 : Nat) "MailAgent$Recipients" "size" "I") ∈ jTG := jin_1 (i := 80) rfl rfl
theorem w_1_81 : (Cond.laysFinal "MailAgent$Recipients" "MailAgent$Recipients" "addresses" "[I") ∈ jTG := jin_1 (i := 81) rfl rfl
theorem w_1_83 : (Cond.laysFinal "MailAgent$Recipients" "MailAgent$Recipients" "states" "[I") ∈ jTG := jin_1 (i := 83) rfl rfl
theorem w_1_85 : (Cond.lays "MailAgent$Recipients" "MailAgent$Recipients" "size" "I") ∈ jTG := jin_1 (i := 85) rfl rfl
theorem w_1_88 : (Cond.fieldLink "MailAgent$Transaction" (12 : Nat) "MailAgent$Transaction" "recipients" "LMailAgent$Recipients;") ∈ jTG := jin_1 (i := 88) rfl rfl
theorem w_1_89 : (Cond.fieldLink "MailAgent$Message" (35 : Nat) "MailAgent$Transaction" "recipients" "LMailAgent$Recipients;") ∈ jTG := jin_1 (i := 89) rfl rfl
theorem w_1_90 : (Cond.fieldLink "MailAgent" (111 : Nat) "MailAgent$Transaction" "recipients" "LMailAgent$Recipients;") ∈ jTG := jin_1 (i := 90) rfl rfl
theorem w_1_91 : (Cond.fieldLink "MailAgent$Transaction" (18 : Nat) "MailAgent$Transaction" "open" "Z") ∈ jTG := jin_1 (i := 91) rfl rfl
theorem w_1_92 : (Cond.fieldLink "MailAgent" (103 : Nat) "MailAgent$Transaction" "open" "Z") ∈ jTG := jin_1 (i := 92) rfl rfl
theorem w_1_93 : (Cond.fieldLink "MailAgent$Transaction" (22 : Nat) "MailAgent$Transaction" "sender" "I") ∈ jTG := jin_1 (i := 93) rfl rfl
theorem w_1_94 : (Cond.fieldLink "MailAgent$Message" (22 : Nat) "MailAgent$Transaction" "sender" "I") ∈ jTG := jin_1 (i := 94) rfl rfl
theorem w_1_95 : (Cond.laysFinal "MailAgent$Transaction" "MailAgent$Transaction" "recipients" "LMailAgent$Recipients;") ∈ jTG := jin_1 (i := 95) rfl rfl
theorem w_1_97 : (Cond.lays "MailAgent$Transaction" "MailAgent$Transaction" "open" "Z") ∈ jTG := jin_1 (i := 97) rfl rfl
theorem w_1_99 : (Cond.lays "MailAgent$Transaction" "MailAgent$Transaction" "sender" "I") ∈ jTG := jin_1 (i := 99) rfl rfl
theorem w_1_102 : (Cond.classLink "MailAgent" (48 : Nat) "MailAgent$Queue") ∈ jTG := jin_1 (i := 102) rfl rfl
theorem w_1_103 : (Cond.instantiable "MailAgent$Queue" (2 : Nat)) ∈ jTG := jin_1 (i := 103) rfl rfl
theorem w_1_104 : (Cond.methodLink "MailAgent" (50 : Nat) ({ cls := "MailAgent$Queue", name := "<init>", desc := "()V" } : MethodName)) ∈ jTG := jin_1 (i := 104) rfl rfl
theorem w_1_105 : (Cond.instanceMethod ({ cls := "MailAgent$Queue", name := "<init>", desc := "()V" } : MethodName)) ∈ jTG := jin_1 (i := 105) rfl rfl
theorem w_1_106 : (Cond.code ({ cls := "MailAgent$Queue", name := "<init>", desc := "()V" } : MethodName) prog_5_method_1_code (2 : Nat) (Option.none : Option FieldType)) ∈ jTG := jin_1 (i := 106) rfl rfl
theorem w_1_107 : (Cond.methodLink "MailAgent$Queue" (3 : Nat) ({ cls := "java/lang/Object", name := "<init>", desc := "()V" } : MethodName)) ∈ jTG := jin_1 (i := 107) rfl rfl
theorem w_1_108 : (Cond.classLink "MailAgent$Queue" (9 : Nat) "MailAgent$Message") ∈ jTG := jin_1 (i := 108) rfl rfl
theorem w_1_110 : (Cond.instantiable "MailAgent$Message" (8 : Nat)) ∈ jTG := jin_1 (i := 110) rfl rfl
theorem w_1_112 : (Cond.instanceMethod ({ cls := "MailAgent$Message", name := "<init>", desc := "()V" } : MethodName)) ∈ jTG := jin_1 (i := 112) rfl rfl
theorem w_1_113 : (Cond.code ({ cls := "MailAgent$Message", name := "<init>", desc := "()V" } : MethodName) prog_4_method_1_code (1 : Nat) (Option.none : Option FieldType)) ∈ jTG := jin_1 (i := 113) rfl rfl
theorem w_1_114 : (Cond.methodLink "MailAgent$Message" (3 : Nat) ({ cls := "java/lang/Object", name := "<init>", desc := "()V" } : MethodName)) ∈ jTG := jin_1 (i := 114) rfl rfl
theorem w_1_115 : (Cond.classLink "MailAgent$Message" (9 : Nat) "MailAgent$Recipients") ∈ jTG := jin_1 (i := 115) rfl rfl
theorem w_1_117 : (Cond.fieldLink "MailAgent$Message" (12 : Nat) "MailAgent$Message" "recipients" "LMailAgent$Recipients;") ∈ jTG := jin_1 (i := 117) rfl rfl
theorem w_1_118 : (Cond.fieldLink "MailAgent$Queue" (26 : Nat) "MailAgent$Message" "recipients" "LMailAgent$Recipients;") ∈ jTG := jin_1 (i := 118) rfl rfl
theorem w_1_119 : (Cond.fieldLink "MailAgent" (199 : Nat) "MailAgent$Message" "recipients" "LMailAgent$Recipients;") ∈ jTG := jin_1 (i := 119) rfl rfl
theorem w_1_120 : (Cond.fieldLink "MailAgent$Message" (18 : Nat) "MailAgent$Message" "number" "I") ∈ jTG := jin_1 (i := 120) rfl rfl
theorem w_1_121 : (Cond.fieldLink "MailAgent$Deliveries" (30 : Nat) "MailAgent$Message" "number" "I") ∈ jTG := jin_1 (i := 121) rfl rfl
theorem w_1_122 : (Cond.fieldLink "MailAgent$Queue" (22 : Nat) "MailAgent$Message" "number" "I") ∈ jTG := jin_1 (i := 122) rfl rfl
theorem w_1_123 : (Cond.fieldLink "MailAgent" (196 : Nat) "MailAgent$Message" "number" "I") ∈ jTG := jin_1 (i := 123) rfl rfl
theorem w_1_124 : (Cond.fieldLink "MailAgent$Message" (27 : Nat) "MailAgent$Message" "sender" "I") ∈ jTG := jin_1 (i := 124) rfl rfl
theorem w_1_125 : (Cond.fieldLink "MailAgent" (203 : Nat) "MailAgent$Message" "sender" "I") ∈ jTG := jin_1 (i := 125) rfl rfl
theorem w_1_126 : (Cond.fieldLink "MailAgent$Message" (28 : Nat) "MailAgent$Message" "size" "I") ∈ jTG := jin_1 (i := 126) rfl rfl
theorem w_1_127 : (Cond.fieldLink "MailAgent$Queue" (25 : Nat) "MailAgent$Message" "size" "I") ∈ jTG := jin_1 (i := 127) rfl rfl
theorem w_1_128 : (Cond.fieldLink "MailAgent$Message" (40 : Nat) "MailAgent$Message" "start" "I") ∈ jTG := jin_1 (i := 128) rfl rfl
theorem w_1_129 : (Cond.fieldLink "MailAgent" (243 : Nat) "MailAgent$Message" "start" "I") ∈ jTG := jin_1 (i := 129) rfl rfl
theorem w_1_130 : (Cond.fieldLink "MailAgent$Message" (43 : Nat) "MailAgent$Message" "due" "I") ∈ jTG := jin_1 (i := 130) rfl rfl
theorem w_1_131 : (Cond.fieldLink "MailAgent" (165 : Nat) "MailAgent$Message" "due" "I") ∈ jTG := jin_1 (i := 131) rfl rfl
theorem w_1_132 : (Cond.fieldLink "MailAgent$Message" (46 : Nat) "MailAgent$Message" "gap" "I") ∈ jTG := jin_1 (i := 132) rfl rfl
theorem w_1_133 : (Cond.fieldLink "MailAgent$Deliveries" (24 : Nat) "MailAgent$Message" "isReport" "Z") ∈ jTG := jin_1 (i := 133) rfl rfl
theorem w_1_134 : (Cond.fieldLink "MailAgent$Message" (31 : Nat) "MailAgent$Message" "isReport" "Z") ∈ jTG := jin_1 (i := 134) rfl rfl
theorem w_1_135 : (Cond.laysFinal "MailAgent$Message" "MailAgent$Message" "recipients" "LMailAgent$Recipients;") ∈ jTG := jin_1 (i := 135) rfl rfl
theorem w_1_137 : (Cond.lays "MailAgent$Message" "MailAgent$Message" "number" "I") ∈ jTG := jin_1 (i := 137) rfl rfl
theorem w_1_139 : (Cond.lays "MailAgent$Message" "MailAgent$Message" "sender" "I") ∈ jTG := jin_1 (i := 139) rfl rfl
theorem w_1_141 : (Cond.lays "MailAgent$Message" "MailAgent$Message" "size" "I") ∈ jTG := jin_1 (i := 141) rfl rfl
theorem w_1_143 : (Cond.lays "MailAgent$Message" "MailAgent$Message" "start" "I") ∈ jTG := jin_1 (i := 143) rfl rfl
theorem w_1_145 : (Cond.lays "MailAgent$Message" "MailAgent$Message" "due" "I") ∈ jTG := jin_1 (i := 145) rfl rfl
theorem w_1_147 : (Cond.lays "MailAgent$Message" "MailAgent$Message" "gap" "I") ∈ jTG := jin_1 (i := 147) rfl rfl
theorem w_1_149 : (Cond.lays "MailAgent$Message" "MailAgent$Message" "isReport" "Z") ∈ jTG := jin_1 (i := 149) rfl rfl
theorem w_1_152 : (Cond.fieldLink "MailAgent$Queue" (11 : Nat) "MailAgent$Queue" "messages" "[LMailAgent$Message;") ∈ jTG := jin_1 (i := 152) rfl rfl
theorem w_1_153 : (Cond.fieldLink "MailAgent" (161 : Nat) "MailAgent$Queue" "messages" "[LMailAgent$Message;") ∈ jTG := jin_1 (i := 153) rfl rfl
theorem w_1_154 : (Cond.fieldLink "MailAgent$Queue" (17 : Nat) "MailAgent$Queue" "size" "I") ∈ jTG := jin_1 (i := 154) rfl rfl
theorem w_1_155 : (Cond.fieldLink "MailAgent" (139 : Nat) "MailAgent$Queue" "size" "I") ∈ jTG := jin_1 (i := 155) rfl rfl
theorem w_1_156 : (Cond.laysFinal "MailAgent$Queue" "MailAgent$Queue" "messages" "[LMailAgent$Message;") ∈ jTG := jin_1 (i := 156) rfl rfl
theorem w_1_158 : (Cond.lays "MailAgent$Queue" "MailAgent$Queue" "size" "I") ∈ jTG := jin_1 (i := 158) rfl rfl
theorem w_1_161 : (Cond.classLink "MailAgent" (58 : Nat) "MailAgent$Deliveries") ∈ jTG := jin_1 (i := 161) rfl rfl
theorem w_1_162 : (Cond.instantiable "MailAgent$Deliveries" (4 : Nat)) ∈ jTG := jin_1 (i := 162) rfl rfl
theorem w_1_164 : (Cond.instanceMethod ({ cls := "MailAgent$Deliveries", name := "<init>", desc := "()V" } : MethodName)) ∈ jTG := jin_1 (i := 164) rfl rfl
theorem w_1_165 : (Cond.code ({ cls := "MailAgent$Deliveries", name := "<init>", desc := "()V" } : MethodName) prog_3_method_1_code (1 : Nat) (Option.none : Option FieldType)) ∈ jTG := jin_1 (i := 165) rfl rfl
theorem w_1_166 : (Cond.methodLink "MailAgent$Deliveries" (3 : Nat) ({ cls := "java/lang/Object", name := "<init>", desc := "()V" } : MethodName)) ∈ jTG := jin_1 (i := 166) rfl rfl
theorem w_1_167 : (Cond.fieldLink "MailAgent$Deliveries" (9 : Nat) "MailAgent$Deliveries" "letters" "[I") ∈ jTG := jin_1 (i := 167) rfl rfl
theorem w_1_168 : (Cond.fieldLink "MailAgent" (206 : Nat) "MailAgent$Deliveries" "letters" "[I") ∈ jTG := jin_1 (i := 168) rfl rfl
theorem w_1_169 : (Cond.fieldLink "MailAgent$Deliveries" (15 : Nat) "MailAgent$Deliveries" "reports" "[I") ∈ jTG := jin_1 (i := 169) rfl rfl
theorem w_1_170 : (Cond.fieldLink "MailAgent" (209 : Nat) "MailAgent$Deliveries" "reports" "[I") ∈ jTG := jin_1 (i := 170) rfl rfl
theorem w_1_171 : (Cond.fieldLink "MailAgent$Deliveries" (18 : Nat) "MailAgent$Deliveries" "lastNumbers" "[I") ∈ jTG := jin_1 (i := 171) rfl rfl
theorem w_1_172 : (Cond.fieldLink "MailAgent" (212 : Nat) "MailAgent$Deliveries" "lastNumbers" "[I") ∈ jTG := jin_1 (i := 172) rfl rfl
theorem w_1_173 : (Cond.fieldLink "MailAgent$Deliveries" (21 : Nat) "MailAgent$Deliveries" "carried" "[I") ∈ jTG := jin_1 (i := 173) rfl rfl
theorem w_1_174 : (Cond.fieldLink "MailAgent" (215 : Nat) "MailAgent$Deliveries" "carried" "[I") ∈ jTG := jin_1 (i := 174) rfl rfl
theorem w_1_175 : (Cond.laysFinal "MailAgent$Deliveries" "MailAgent$Deliveries" "letters" "[I") ∈ jTG := jin_1 (i := 175) rfl rfl
theorem w_1_177 : (Cond.laysFinal "MailAgent$Deliveries" "MailAgent$Deliveries" "reports" "[I") ∈ jTG := jin_1 (i := 177) rfl rfl
theorem w_1_179 : (Cond.laysFinal "MailAgent$Deliveries" "MailAgent$Deliveries" "lastNumbers" "[I") ∈ jTG := jin_1 (i := 179) rfl rfl
theorem w_1_181 : (Cond.laysFinal "MailAgent$Deliveries" "MailAgent$Deliveries" "carried" "[I") ∈ jTG := jin_1 (i := 181) rfl rfl
theorem w_1_184 : (Cond.fieldLink "MailAgent" (13 : Nat) "MailAgent" "minGap" "I") ∈ jTG := jin_1 (i := 184) rfl rfl
theorem w_1_185 : (Cond.fieldLink "MailAgent" (17 : Nat) "MailAgent" "maxGap" "I") ∈ jTG := jin_1 (i := 185) rfl rfl
theorem w_1_186 : (Cond.fieldLink "MailAgent" (20 : Nat) "MailAgent" "giveUp" "I") ∈ jTG := jin_1 (i := 186) rfl rfl
theorem w_1_187 : (Cond.fieldLink "MailAgent" (26 : Nat) "MailAgent" "aliases" "LMailAgent$Aliases;") ∈ jTG := jin_1 (i := 187) rfl rfl
theorem w_1_188 : (Cond.fieldLink "MailAgent" (32 : Nat) "MailAgent" "routes" "[LMailAgent$Routes;") ∈ jTG := jin_1 (i := 188) rfl rfl
theorem w_1_189 : (Cond.fieldLink "MailAgent" (37 : Nat) "MailAgent" "hostStates" "[I") ∈ jTG := jin_1 (i := 189) rfl rfl
theorem w_1_190 : (Cond.fieldLink "MailAgent" (44 : Nat) "MailAgent" "transaction" "LMailAgent$Transaction;") ∈ jTG := jin_1 (i := 190) rfl rfl
theorem w_1_191 : (Cond.fieldLink "MailAgent" (51 : Nat) "MailAgent" "queue" "LMailAgent$Queue;") ∈ jTG := jin_1 (i := 191) rfl rfl
theorem w_1_192 : (Cond.fieldLink "MailAgent" (55 : Nat) "MailAgent" "durable" "LMailAgent$Queue;") ∈ jTG := jin_1 (i := 192) rfl rfl
theorem w_1_193 : (Cond.fieldLink "MailAgent" (61 : Nat) "MailAgent" "deliveries" "LMailAgent$Deliveries;") ∈ jTG := jin_1 (i := 193) rfl rfl
theorem w_1_194 : (Cond.fieldLink "MailAgent" (65 : Nat) "MailAgent" "clock" "I") ∈ jTG := jin_1 (i := 194) rfl rfl
theorem w_1_195 : (Cond.fieldLink "MailAgent" (68 : Nat) "MailAgent" "lastNumber" "I") ∈ jTG := jin_1 (i := 195) rfl rfl
theorem w_1_196 : (Cond.fieldLink "MailAgent" (71 : Nat) "MailAgent" "changes" "I") ∈ jTG := jin_1 (i := 196) rfl rfl
theorem w_1_197 : (Cond.laysFinal "MailAgent" "MailAgent" "minGap" "I") ∈ jTG := jin_1 (i := 197) rfl rfl
theorem w_1_199 : (Cond.laysFinal "MailAgent" "MailAgent" "maxGap" "I") ∈ jTG := jin_1 (i := 199) rfl rfl
theorem w_1_201 : (Cond.laysFinal "MailAgent" "MailAgent" "giveUp" "I") ∈ jTG := jin_1 (i := 201) rfl rfl
theorem w_1_203 : (Cond.laysFinal "MailAgent" "MailAgent" "aliases" "LMailAgent$Aliases;") ∈ jTG := jin_1 (i := 203) rfl rfl
theorem w_1_205 : (Cond.laysFinal "MailAgent" "MailAgent" "routes" "[LMailAgent$Routes;") ∈ jTG := jin_1 (i := 205) rfl rfl
theorem w_1_207 : (Cond.laysFinal "MailAgent" "MailAgent" "hostStates" "[I") ∈ jTG := jin_1 (i := 207) rfl rfl
theorem w_1_209 : (Cond.laysFinal "MailAgent" "MailAgent" "transaction" "LMailAgent$Transaction;") ∈ jTG := jin_1 (i := 209) rfl rfl
theorem w_1_211 : (Cond.laysFinal "MailAgent" "MailAgent" "queue" "LMailAgent$Queue;") ∈ jTG := jin_1 (i := 211) rfl rfl
theorem w_1_213 : (Cond.laysFinal "MailAgent" "MailAgent" "durable" "LMailAgent$Queue;") ∈ jTG := jin_1 (i := 213) rfl rfl
theorem w_1_215 : (Cond.laysFinal "MailAgent" "MailAgent" "deliveries" "LMailAgent$Deliveries;") ∈ jTG := jin_1 (i := 215) rfl rfl
theorem w_1_217 : (Cond.lays "MailAgent" "MailAgent" "clock" "I") ∈ jTG := jin_1 (i := 217) rfl rfl
theorem w_1_219 : (Cond.lays "MailAgent" "MailAgent" "lastNumber" "I") ∈ jTG := jin_1 (i := 219) rfl rfl
theorem w_1_221 : (Cond.lays "MailAgent" "MailAgent" "changes" "I") ∈ jTG := jin_1 (i := 221) rfl rfl
theorem w_1_224 : (Cond.methodLink "MailAgentLaw" (21 : Nat) ({ cls := "MailAgent", name := "alias", desc := "(II)I" } : MethodName)) ∈ jTG := jin_1 (i := 224) rfl rfl
theorem w_1_225 : (Cond.instanceMethod ({ cls := "MailAgent", name := "alias", desc := "(II)I" } : MethodName)) ∈ jTG := jin_1 (i := 225) rfl rfl
theorem w_1_226 : (Cond.selects "MailAgent" ({ cls := "MailAgent", name := "alias", desc := "(II)I" } : MethodName) ({ cls := "MailAgent", name := "alias", desc := "(II)I" } : MethodName)) ∈ jTG := jin_1 (i := 226) rfl rfl
theorem w_1_227 : (Cond.code ({ cls := "MailAgent", name := "alias", desc := "(II)I" } : MethodName) prog_1_method_2_code (3 : Nat) (Option.some FieldType.int)) ∈ jTG := jin_1 (i := 227) rfl rfl
theorem w_1_228 : (Cond.methodLink "MailAgent" (74 : Nat) ({ cls := "MailAgent", name := "isBelow", desc := "(II)Z" } : MethodName)) ∈ jTG := jin_1 (i := 228) rfl rfl
theorem w_1_229 : (Cond.static ({ cls := "MailAgent", name := "isBelow", desc := "(II)Z" } : MethodName)) ∈ jTG := jin_1 (i := 229) rfl rfl
theorem w_1_230 : (Cond.code ({ cls := "MailAgent", name := "isBelow", desc := "(II)Z" } : MethodName) prog_1_method_22_code (2 : Nat) (Option.some FieldType.boolean)) ∈ jTG := jin_1 (i := 230) rfl rfl
theorem w_1_231 : (Cond.methodLink "MailAgent" (78 : Nat) ({ cls := "MailAgent$Aliases", name := "hasRoomFor", desc := "(II)Z" } : MethodName)) ∈ jTG := jin_1 (i := 231) rfl rfl
theorem w_1_232 : (Cond.instanceMethod ({ cls := "MailAgent$Aliases", name := "hasRoomFor", desc := "(II)Z" } : MethodName)) ∈ jTG := jin_1 (i := 232) rfl rfl
theorem w_1_233 : (Cond.selects "MailAgent$Aliases" ({ cls := "MailAgent$Aliases", name := "hasRoomFor", desc := "(II)Z" } : MethodName) ({ cls := "MailAgent$Aliases", name := "hasRoomFor", desc := "(II)Z" } : MethodName)) ∈ jTG := jin_1 (i := 233) rfl rfl
theorem w_1_234 : (Cond.code ({ cls := "MailAgent$Aliases", name := "hasRoomFor", desc := "(II)Z" } : MethodName) prog_2_method_2_code (3 : Nat) (Option.some FieldType.boolean)) ∈ jTG := jin_1 (i := 234) rfl rfl
theorem w_1_235 : (Cond.methodLink "MailAgent$Aliases" (15 : Nat) ({ cls := "java/lang/Long", name := "bitCount", desc := "(J)I" } : MethodName)) ∈ jTG := jin_1 (i := 235) rfl rfl
theorem w_1_236 : (Cond.static ({ cls := "java/lang/Long", name := "bitCount", desc := "(J)I" } : MethodName)) ∈ jTG := jin_1 (i := 236) rfl rfl
theorem w_1_237 : (Cond.code ({ cls := "java/lang/Long", name := "bitCount", desc := "(J)I" } : MethodName) prog_11_method_50_code (2 : Nat) (Option.some FieldType.int)) ∈ jTG := jin_1 (i := 237) rfl rfl
theorem w_1_238 : (Cond.constantLong "java/lang/Long" (314 : Nat) (6148914691236517205 : Int64)) ∈ jTG := jin_1 (i := 238) rfl rfl
theorem w_1_239 : (Cond.constantLong "java/lang/Long" (316 : Nat) (3689348814741910323 : Int64)) ∈ jTG := jin_1 (i := 239) rfl rfl
theorem w_2_0 : (Cond.constantLong "java/lang/Long" (318 : Nat) (1085102592571150095 : Int64)) ∈ jTG := jin_2 (i := 0) rfl rfl
theorem w_2_1 : (Cond.methodLink "MailAgent" (81 : Nat) ({ cls := "MailAgent$Aliases", name := "add", desc := "(II)I" } : MethodName)) ∈ jTG := jin_2 (i := 1) rfl rfl
theorem w_2_2 : (Cond.instanceMethod ({ cls := "MailAgent$Aliases", name := "add", desc := "(II)I" } : MethodName)) ∈ jTG := jin_2 (i := 2) rfl rfl
theorem w_2_3 : (Cond.selects "MailAgent$Aliases" ({ cls := "MailAgent$Aliases", name := "add", desc := "(II)I" } : MethodName) ({ cls := "MailAgent$Aliases", name := "add", desc := "(II)I" } : MethodName)) ∈ jTG := jin_2 (i := 3) rfl rfl
theorem w_2_4 : (Cond.code ({ cls := "MailAgent$Aliases", name := "add", desc := "(II)I" } : MethodName) prog_2_method_3_code (3 : Nat) (Option.some FieldType.int)) ∈ jTG := jin_2 (i := 4) rfl rfl
theorem w_2_5 : (Cond.methodLink "MailAgentLaw" (26 : Nat) ({ cls := "MailAgent", name := "unalias", desc := "(I)I" } : MethodName)) ∈ jTG := jin_2 (i := 5) rfl rfl
theorem w_2_6 : (Cond.instanceMethod ({ cls := "MailAgent", name := "unalias", desc := "(I)I" } : MethodName)) ∈ jTG := jin_2 (i := 6) rfl rfl
theorem w_2_7 : (Cond.selects "MailAgent" ({ cls := "MailAgent", name := "unalias", desc := "(I)I" } : MethodName) ({ cls := "MailAgent", name := "unalias", desc := "(I)I" } : MethodName)) ∈ jTG := jin_2 (i := 7) rfl rfl
theorem w_2_8 : (Cond.code ({ cls := "MailAgent", name := "unalias", desc := "(I)I" } : MethodName) prog_1_method_3_code (2 : Nat) (Option.some FieldType.int)) ∈ jTG := jin_2 (i := 8) rfl rfl
theorem w_2_9 : (Cond.methodLink "MailAgent" (85 : Nat) ({ cls := "MailAgent$Aliases", name := "clear", desc := "(I)I" } : MethodName)) ∈ jTG := jin_2 (i := 9) rfl rfl
theorem w_2_10 : (Cond.instanceMethod ({ cls := "MailAgent$Aliases", name := "clear", desc := "(I)I" } : MethodName)) ∈ jTG := jin_2 (i := 10) rfl rfl
theorem w_2_11 : (Cond.selects "MailAgent$Aliases" ({ cls := "MailAgent$Aliases", name := "clear", desc := "(I)I" } : MethodName) ({ cls := "MailAgent$Aliases", name := "clear", desc := "(I)I" } : MethodName)) ∈ jTG := jin_2 (i := 11) rfl rfl
theorem w_2_12 : (Cond.code ({ cls := "MailAgent$Aliases", name := "clear", desc := "(I)I" } : MethodName) prog_2_method_4_code (3 : Nat) (Option.some FieldType.int)) ∈ jTG := jin_2 (i := 12) rfl rfl
theorem w_2_13 : (Cond.methodLink "MailAgentLaw" (31 : Nat) ({ cls := "MailAgent", name := "route", desc := "(III)I" } : MethodName)) ∈ jTG := jin_2 (i := 13) rfl rfl
theorem w_2_14 : (Cond.instanceMethod ({ cls := "MailAgent", name := "route", desc := "(III)I" } : MethodName)) ∈ jTG := jin_2 (i := 14) rfl rfl
theorem w_2_15 : (Cond.selects "MailAgent" ({ cls := "MailAgent", name := "route", desc := "(III)I" } : MethodName) ({ cls := "MailAgent", name := "route", desc := "(III)I" } : MethodName)) ∈ jTG := jin_2 (i := 15) rfl rfl
theorem w_2_16 : (Cond.code ({ cls := "MailAgent", name := "route", desc := "(III)I" } : MethodName) prog_1_method_4_code (4 : Nat) (Option.some FieldType.int)) ∈ jTG := jin_2 (i := 16) rfl rfl
theorem w_2_17 : (Cond.methodLink "MailAgent" (89 : Nat) ({ cls := "MailAgent", name := "isForeign", desc := "(I)Z" } : MethodName)) ∈ jTG := jin_2 (i := 17) rfl rfl
theorem w_2_18 : (Cond.static ({ cls := "MailAgent", name := "isForeign", desc := "(I)Z" } : MethodName)) ∈ jTG := jin_2 (i := 18) rfl rfl
theorem w_2_19 : (Cond.code ({ cls := "MailAgent", name := "isForeign", desc := "(I)Z" } : MethodName) prog_1_method_23_code (1 : Nat) (Option.some FieldType.boolean)) ∈ jTG := jin_2 (i := 19) rfl rfl
theorem w_2_20 : (Cond.methodLink "MailAgent" (93 : Nat) ({ cls := "MailAgent$Routes", name := "hasRoomFor", desc := "(I)Z" } : MethodName)) ∈ jTG := jin_2 (i := 20) rfl rfl
theorem w_2_21 : (Cond.instanceMethod ({ cls := "MailAgent$Routes", name := "hasRoomFor", desc := "(I)Z" } : MethodName)) ∈ jTG := jin_2 (i := 21) rfl rfl
theorem w_2_22 : (Cond.selects "MailAgent$Routes" ({ cls := "MailAgent$Routes", name := "hasRoomFor", desc := "(I)Z" } : MethodName) ({ cls := "MailAgent$Routes", name := "hasRoomFor", desc := "(I)Z" } : MethodName)) ∈ jTG := jin_2 (i := 22) rfl rfl
theorem w_2_23 : (Cond.code ({ cls := "MailAgent$Routes", name := "hasRoomFor", desc := "(I)Z" } : MethodName) prog_7_method_2_code (3 : Nat) (Option.some FieldType.boolean)) ∈ jTG := jin_2 (i := 23) rfl rfl
theorem w_2_24 : (Cond.methodLink "MailAgent" (95 : Nat) ({ cls := "MailAgent$Routes", name := "add", desc := "(II)I" } : MethodName)) ∈ jTG := jin_2 (i := 24) rfl rfl
theorem w_2_25 : (Cond.instanceMethod ({ cls := "MailAgent$Routes", name := "add", desc := "(II)I" } : MethodName)) ∈ jTG := jin_2 (i := 25) rfl rfl
theorem w_2_26 : (Cond.selects "MailAgent$Routes" ({ cls := "MailAgent$Routes", name := "add", desc := "(II)I" } : MethodName) ({ cls := "MailAgent$Routes", name := "add", desc := "(II)I" } : MethodName)) ∈ jTG := jin_2 (i := 26) rfl rfl
theorem w_2_27 : (Cond.code ({ cls := "MailAgent$Routes", name := "add", desc := "(II)I" } : MethodName) prog_7_method_3_code (4 : Nat) (Option.some FieldType.int)) ∈ jTG := jin_2 (i := 27) rfl rfl
theorem w_2_28 : (Cond.methodLink "MailAgentLaw" (36 : Nat) ({ cls := "MailAgent", name := "unroute", desc := "(I)I" } : MethodName)) ∈ jTG := jin_2 (i := 28) rfl rfl
theorem w_2_29 : (Cond.instanceMethod ({ cls := "MailAgent", name := "unroute", desc := "(I)I" } : MethodName)) ∈ jTG := jin_2 (i := 29) rfl rfl
theorem w_2_30 : (Cond.selects "MailAgent" ({ cls := "MailAgent", name := "unroute", desc := "(I)I" } : MethodName) ({ cls := "MailAgent", name := "unroute", desc := "(I)I" } : MethodName)) ∈ jTG := jin_2 (i := 30) rfl rfl
theorem w_2_31 : (Cond.code ({ cls := "MailAgent", name := "unroute", desc := "(I)I" } : MethodName) prog_1_method_5_code (2 : Nat) (Option.some FieldType.int)) ∈ jTG := jin_2 (i := 31) rfl rfl
theorem w_2_32 : (Cond.methodLink "MailAgent" (96 : Nat) ({ cls := "MailAgent$Routes", name := "clear", desc := "()I" } : MethodName)) ∈ jTG := jin_2 (i := 32) rfl rfl
theorem w_2_33 : (Cond.instanceMethod ({ cls := "MailAgent$Routes", name := "clear", desc := "()I" } : MethodName)) ∈ jTG := jin_2 (i := 33) rfl rfl
theorem w_2_34 : (Cond.selects "MailAgent$Routes" ({ cls := "MailAgent$Routes", name := "clear", desc := "()I" } : MethodName) ({ cls := "MailAgent$Routes", name := "clear", desc := "()I" } : MethodName)) ∈ jTG := jin_2 (i := 34) rfl rfl
theorem w_2_35 : (Cond.code ({ cls := "MailAgent$Routes", name := "clear", desc := "()I" } : MethodName) prog_7_method_4_code (2 : Nat) (Option.some FieldType.int)) ∈ jTG := jin_2 (i := 35) rfl rfl
theorem w_2_36 : (Cond.methodLink "MailAgentLaw" (40 : Nat) ({ cls := "MailAgent", name := "host", desc := "(II)I" } : MethodName)) ∈ jTG := jin_2 (i := 36) rfl rfl
theorem w_2_37 : (Cond.instanceMethod ({ cls := "MailAgent", name := "host", desc := "(II)I" } : MethodName)) ∈ jTG := jin_2 (i := 37) rfl rfl
theorem w_2_38 : (Cond.selects "MailAgent" ({ cls := "MailAgent", name := "host", desc := "(II)I" } : MethodName) ({ cls := "MailAgent", name := "host", desc := "(II)I" } : MethodName)) ∈ jTG := jin_2 (i := 38) rfl rfl
theorem w_2_39 : (Cond.code ({ cls := "MailAgent", name := "host", desc := "(II)I" } : MethodName) prog_1_method_6_code (4 : Nat) (Option.some FieldType.int)) ∈ jTG := jin_2 (i := 39) rfl rfl
theorem w_2_40 : (Cond.methodLink "MailAgentLaw" (44 : Nat) ({ cls := "MailAgent", name := "from", desc := "(I)I" } : MethodName)) ∈ jTG := jin_2 (i := 40) rfl rfl
theorem w_2_41 : (Cond.instanceMethod ({ cls := "MailAgent", name := "from", desc := "(I)I" } : MethodName)) ∈ jTG := jin_2 (i := 41) rfl rfl
theorem w_2_42 : (Cond.selects "MailAgent" ({ cls := "MailAgent", name := "from", desc := "(I)I" } : MethodName) ({ cls := "MailAgent", name := "from", desc := "(I)I" } : MethodName)) ∈ jTG := jin_2 (i := 42) rfl rfl
theorem w_2_43 : (Cond.code ({ cls := "MailAgent", name := "from", desc := "(I)I" } : MethodName) prog_1_method_7_code (2 : Nat) (Option.some FieldType.int)) ∈ jTG := jin_2 (i := 43) rfl rfl
theorem w_2_44 : (Cond.methodLink "MailAgent" (99 : Nat) ({ cls := "MailAgent$Transaction", name := "start", desc := "(I)V" } : MethodName)) ∈ jTG := jin_2 (i := 44) rfl rfl
theorem w_2_45 : (Cond.instanceMethod ({ cls := "MailAgent$Transaction", name := "start", desc := "(I)V" } : MethodName)) ∈ jTG := jin_2 (i := 45) rfl rfl
theorem w_2_46 : (Cond.selects "MailAgent$Transaction" ({ cls := "MailAgent$Transaction", name := "start", desc := "(I)V" } : MethodName) ({ cls := "MailAgent$Transaction", name := "start", desc := "(I)V" } : MethodName)) ∈ jTG := jin_2 (i := 46) rfl rfl
theorem w_2_47 : (Cond.code ({ cls := "MailAgent$Transaction", name := "start", desc := "(I)V" } : MethodName) prog_8_method_2_code (2 : Nat) (Option.none : Option FieldType)) ∈ jTG := jin_2 (i := 47) rfl rfl
theorem w_2_48 : (Cond.methodLink "MailAgentLaw" (48 : Nat) ({ cls := "MailAgent", name := "to", desc := "(I)I" } : MethodName)) ∈ jTG := jin_2 (i := 48) rfl rfl
theorem w_2_49 : (Cond.instanceMethod ({ cls := "MailAgent", name := "to", desc := "(I)I" } : MethodName)) ∈ jTG := jin_2 (i := 49) rfl rfl
theorem w_2_50 : (Cond.selects "MailAgent" ({ cls := "MailAgent", name := "to", desc := "(I)I" } : MethodName) ({ cls := "MailAgent", name := "to", desc := "(I)I" } : MethodName)) ∈ jTG := jin_2 (i := 50) rfl rfl
theorem w_2_51 : (Cond.code ({ cls := "MailAgent", name := "to", desc := "(I)I" } : MethodName) prog_1_method_8_code (7 : Nat) (Option.some FieldType.int)) ∈ jTG := jin_2 (i := 51) rfl rfl
theorem w_2_52 : (Cond.methodLink "MailAgent" (107 : Nat) ({ cls := "MailAgent$Aliases", name := "finalsOf", desc := "(I)J" } : MethodName)) ∈ jTG := jin_2 (i := 52) rfl rfl
theorem w_2_53 : (Cond.instanceMethod ({ cls := "MailAgent$Aliases", name := "finalsOf", desc := "(I)J" } : MethodName)) ∈ jTG := jin_2 (i := 53) rfl rfl
theorem w_2_54 : (Cond.selects "MailAgent$Aliases" ({ cls := "MailAgent$Aliases", name := "finalsOf", desc := "(I)J" } : MethodName) ({ cls := "MailAgent$Aliases", name := "finalsOf", desc := "(I)J" } : MethodName)) ∈ jTG := jin_2 (i := 54) rfl rfl
theorem w_2_55 : (Cond.code ({ cls := "MailAgent$Aliases", name := "finalsOf", desc := "(I)J" } : MethodName) prog_2_method_5_code (5 : Nat) (Option.some FieldType.long)) ∈ jTG := jin_2 (i := 55) rfl rfl
theorem w_2_56 : (Cond.methodLink "MailAgent$Aliases" (21 : Nat) ({ cls := "MailAgent$Aliases", name := "reachedFrom", desc := "(I)J" } : MethodName)) ∈ jTG := jin_2 (i := 56) rfl rfl
theorem w_2_58 : (Cond.instanceMethod ({ cls := "MailAgent$Aliases", name := "reachedFrom", desc := "(I)J" } : MethodName)) ∈ jTG := jin_2 (i := 58) rfl rfl
theorem w_2_59 : (Cond.code ({ cls := "MailAgent$Aliases", name := "reachedFrom", desc := "(I)J" } : MethodName) prog_2_method_6_code (6 : Nat) (Option.some FieldType.long)) ∈ jTG := jin_2 (i := 59) rfl rfl
theorem w_2_60 : (Cond.constantLong "MailAgent$Aliases" (25 : Nat) (-1 : Int64)) ∈ jTG := jin_2 (i := 60) rfl rfl
theorem w_2_61 : (Cond.methodLink "MailAgent" (115 : Nat) ({ cls := "MailAgent$Recipients", name := "asBits", desc := "()J" } : MethodName)) ∈ jTG := jin_2 (i := 61) rfl rfl
theorem w_2_62 : (Cond.instanceMethod ({ cls := "MailAgent$Recipients", name := "asBits", desc := "()J" } : MethodName)) ∈ jTG := jin_2 (i := 62) rfl rfl
theorem w_2_63 : (Cond.selects "MailAgent$Recipients" ({ cls := "MailAgent$Recipients", name := "asBits", desc := "()J" } : MethodName) ({ cls := "MailAgent$Recipients", name := "asBits", desc := "()J" } : MethodName)) ∈ jTG := jin_2 (i := 63) rfl rfl
theorem w_2_64 : (Cond.code ({ cls := "MailAgent$Recipients", name := "asBits", desc := "()J" } : MethodName) prog_6_method_4_code (4 : Nat) (Option.some FieldType.long)) ∈ jTG := jin_2 (i := 64) rfl rfl
theorem w_2_65 : (Cond.constantLong "MailAgent" (121 : Nat) (-1 : Int64)) ∈ jTG := jin_2 (i := 65) rfl rfl
theorem w_2_66 : (Cond.methodLink "MailAgent" (123 : Nat) ({ cls := "java/lang/Long", name := "bitCount", desc := "(J)I" } : MethodName)) ∈ jTG := jin_2 (i := 66) rfl rfl
theorem w_2_67 : (Cond.methodLink "MailAgent" (132 : Nat) ({ cls := "MailAgent$Recipients", name := "addRising", desc := "(J)V" } : MethodName)) ∈ jTG := jin_2 (i := 67) rfl rfl
theorem w_2_68 : (Cond.instanceMethod ({ cls := "MailAgent$Recipients", name := "addRising", desc := "(J)V" } : MethodName)) ∈ jTG := jin_2 (i := 68) rfl rfl
theorem w_2_69 : (Cond.selects "MailAgent$Recipients" ({ cls := "MailAgent$Recipients", name := "addRising", desc := "(J)V" } : MethodName) ({ cls := "MailAgent$Recipients", name := "addRising", desc := "(J)V" } : MethodName)) ∈ jTG := jin_2 (i := 69) rfl rfl
theorem w_2_70 : (Cond.code ({ cls := "MailAgent$Recipients", name := "addRising", desc := "(J)V" } : MethodName) prog_6_method_3_code (4 : Nat) (Option.none : Option FieldType)) ∈ jTG := jin_2 (i := 70) rfl rfl
theorem w_2_71 : (Cond.methodLink "MailAgent$Recipients" (22 : Nat) ({ cls := "MailAgent$Recipients", name := "add", desc := "(I)V" } : MethodName)) ∈ jTG := jin_2 (i := 71) rfl rfl
theorem w_2_72 : (Cond.instanceMethod ({ cls := "MailAgent$Recipients", name := "add", desc := "(I)V" } : MethodName)) ∈ jTG := jin_2 (i := 72) rfl rfl
theorem w_2_73 : (Cond.selects "MailAgent$Recipients" ({ cls := "MailAgent$Recipients", name := "add", desc := "(I)V" } : MethodName) ({ cls := "MailAgent$Recipients", name := "add", desc := "(I)V" } : MethodName)) ∈ jTG := jin_2 (i := 73) rfl rfl
theorem w_2_74 : (Cond.code ({ cls := "MailAgent$Recipients", name := "add", desc := "(I)V" } : MethodName) prog_6_method_2_code (2 : Nat) (Option.none : Option FieldType)) ∈ jTG := jin_2 (i := 74) rfl rfl
theorem w_2_75 : (Cond.methodLink "MailAgentLaw" (52 : Nat) ({ cls := "MailAgent", name := "data", desc := "(I)I" } : MethodName)) ∈ jTG := jin_2 (i := 75) rfl rfl
theorem w_2_76 : (Cond.instanceMethod ({ cls := "MailAgent", name := "data", desc := "(I)I" } : MethodName)) ∈ jTG := jin_2 (i := 76) rfl rfl
theorem w_2_77 : (Cond.selects "MailAgent" ({ cls := "MailAgent", name := "data", desc := "(I)I" } : MethodName) ({ cls := "MailAgent", name := "data", desc := "(I)I" } : MethodName)) ∈ jTG := jin_2 (i := 77) rfl rfl
theorem w_2_78 : (Cond.code ({ cls := "MailAgent", name := "data", desc := "(I)I" } : MethodName) prog_1_method_9_code (4 : Nat) (Option.some FieldType.int)) ∈ jTG := jin_2 (i := 78) rfl rfl
theorem w_2_79 : (Cond.methodLink "MailAgent" (136 : Nat) ({ cls := "MailAgent", name := "costOf", desc := "(II)I" } : MethodName)) ∈ jTG := jin_2 (i := 79) rfl rfl
theorem w_2_80 : (Cond.static ({ cls := "MailAgent", name := "costOf", desc := "(II)I" } : MethodName)) ∈ jTG := jin_2 (i := 80) rfl rfl
theorem w_2_81 : (Cond.code ({ cls := "MailAgent", name := "costOf", desc := "(II)I" } : MethodName) prog_1_method_24_code (2 : Nat) (Option.some FieldType.int)) ∈ jTG := jin_2 (i := 81) rfl rfl
theorem w_2_82 : (Cond.methodLink "MailAgent" (140 : Nat) ({ cls := "MailAgent$Queue", name := "costs", desc := "()I" } : MethodName)) ∈ jTG := jin_2 (i := 82) rfl rfl
theorem w_2_83 : (Cond.instanceMethod ({ cls := "MailAgent$Queue", name := "costs", desc := "()I" } : MethodName)) ∈ jTG := jin_2 (i := 83) rfl rfl
theorem w_2_84 : (Cond.selects "MailAgent$Queue" ({ cls := "MailAgent$Queue", name := "costs", desc := "()I" } : MethodName) ({ cls := "MailAgent$Queue", name := "costs", desc := "()I" } : MethodName)) ∈ jTG := jin_2 (i := 84) rfl rfl
theorem w_2_85 : (Cond.code ({ cls := "MailAgent$Queue", name := "costs", desc := "()I" } : MethodName) prog_5_method_5_code (3 : Nat) (Option.some FieldType.int)) ∈ jTG := jin_2 (i := 85) rfl rfl
theorem w_2_87 : (Cond.methodLink "MailAgent" (143 : Nat) ({ cls := "MailAgent$Queue", name := "addSpare", desc := "()LMailAgent$Message;" } : MethodName)) ∈ jTG := jin_2 (i := 87) rfl rfl
theorem w_2_88 : (Cond.instanceMethod ({ cls := "MailAgent$Queue", name := "addSpare", desc := "()LMailAgent$Message;" } : MethodName)) ∈ jTG := jin_2 (i := 88) rfl rfl
theorem w_2_89 : (Cond.selects "MailAgent$Queue" ({ cls := "MailAgent$Queue", name := "addSpare", desc := "()LMailAgent$Message;" } : MethodName) ({ cls := "MailAgent$Queue", name := "addSpare", desc := "()LMailAgent$Message;" } : MethodName)) ∈ jTG := jin_2 (i := 89) rfl rfl
theorem w_2_90 : (Cond.code ({ cls := "MailAgent$Queue", name := "addSpare", desc := "()LMailAgent$Message;" } : MethodName) prog_5_method_2_code (2 : Nat) (Option.some (FieldType.object "MailAgent$Message"))) ∈ jTG := jin_2 (i := 90) rfl rfl
theorem w_2_91 : (Cond.methodLink "MailAgent" (147 : Nat) ({ cls := "MailAgent$Message", name := "accept", desc := "(IILMailAgent$Transaction;)V" } : MethodName)) ∈ jTG := jin_2 (i := 91) rfl rfl
theorem w_2_92 : (Cond.instanceMethod ({ cls := "MailAgent$Message", name := "accept", desc := "(IILMailAgent$Transaction;)V" } : MethodName)) ∈ jTG := jin_2 (i := 92) rfl rfl
theorem w_2_93 : (Cond.selects "MailAgent$Message" ({ cls := "MailAgent$Message", name := "accept", desc := "(IILMailAgent$Transaction;)V" } : MethodName) ({ cls := "MailAgent$Message", name := "accept", desc := "(IILMailAgent$Transaction;)V" } : MethodName)) ∈ jTG := jin_2 (i := 93) rfl rfl
theorem w_2_94 : (Cond.code ({ cls := "MailAgent$Message", name := "accept", desc := "(IILMailAgent$Transaction;)V" } : MethodName) prog_4_method_2_code (4 : Nat) (Option.none : Option FieldType)) ∈ jTG := jin_2 (i := 94) rfl rfl
theorem w_2_95 : (Cond.methodLink "MailAgent$Message" (36 : Nat) ({ cls := "MailAgent$Recipients", name := "copyFrom", desc := "(LMailAgent$Recipients;)V" } : MethodName)) ∈ jTG := jin_2 (i := 95) rfl rfl
theorem w_2_96 : (Cond.instanceMethod ({ cls := "MailAgent$Recipients", name := "copyFrom", desc := "(LMailAgent$Recipients;)V" } : MethodName)) ∈ jTG := jin_2 (i := 96) rfl rfl
theorem w_2_97 : (Cond.selects "MailAgent$Recipients" ({ cls := "MailAgent$Recipients", name := "copyFrom", desc := "(LMailAgent$Recipients;)V" } : MethodName) ({ cls := "MailAgent$Recipients", name := "copyFrom", desc := "(LMailAgent$Recipients;)V" } : MethodName)) ∈ jTG := jin_2 (i := 97) rfl rfl
theorem w_2_98 : (Cond.code ({ cls := "MailAgent$Recipients", name := "copyFrom", desc := "(LMailAgent$Recipients;)V" } : MethodName) prog_6_method_8_code (3 : Nat) (Option.none : Option FieldType)) ∈ jTG := jin_2 (i := 98) rfl rfl
theorem w_2_99 : (Cond.methodLink "MailAgent" (153 : Nat) ({ cls := "MailAgent$Message", name := "schedule", desc := "(II)V" } : MethodName)) ∈ jTG := jin_2 (i := 99) rfl rfl
theorem w_2_100 : (Cond.instanceMethod ({ cls := "MailAgent$Message", name := "schedule", desc := "(II)V" } : MethodName)) ∈ jTG := jin_2 (i := 100) rfl rfl
theorem w_2_101 : (Cond.selects "MailAgent$Message" ({ cls := "MailAgent$Message", name := "schedule", desc := "(II)V" } : MethodName) ({ cls := "MailAgent$Message", name := "schedule", desc := "(II)V" } : MethodName)) ∈ jTG := jin_2 (i := 101) rfl rfl
theorem w_2_102 : (Cond.code ({ cls := "MailAgent$Message", name := "schedule", desc := "(II)V" } : MethodName) prog_4_method_3_code (3 : Nat) (Option.none : Option FieldType)) ∈ jTG := jin_2 (i := 102) rfl rfl
theorem w_2_103 : (Cond.methodLink "MailAgent" (157 : Nat) ({ cls := "MailAgent", name := "makeDurable", desc := "()V" } : MethodName)) ∈ jTG := jin_2 (i := 103) rfl rfl
theorem w_2_105 : (Cond.instanceMethod ({ cls := "MailAgent", name := "makeDurable", desc := "()V" } : MethodName)) ∈ jTG := jin_2 (i := 105) rfl rfl
theorem w_2_106 : (Cond.code ({ cls := "MailAgent", name := "makeDurable", desc := "()V" } : MethodName) prog_1_method_30_code (1 : Nat) (Option.none : Option FieldType)) ∈ jTG := jin_2 (i := 106) rfl rfl
theorem w_2_107 : (Cond.methodLink "MailAgent" (186 : Nat) ({ cls := "MailAgent$Queue", name := "copyFrom", desc := "(LMailAgent$Queue;)V" } : MethodName)) ∈ jTG := jin_2 (i := 107) rfl rfl
theorem w_2_108 : (Cond.instanceMethod ({ cls := "MailAgent$Queue", name := "copyFrom", desc := "(LMailAgent$Queue;)V" } : MethodName)) ∈ jTG := jin_2 (i := 108) rfl rfl
theorem w_2_109 : (Cond.selects "MailAgent$Queue" ({ cls := "MailAgent$Queue", name := "copyFrom", desc := "(LMailAgent$Queue;)V" } : MethodName) ({ cls := "MailAgent$Queue", name := "copyFrom", desc := "(LMailAgent$Queue;)V" } : MethodName)) ∈ jTG := jin_2 (i := 109) rfl rfl
theorem w_2_110 : (Cond.code ({ cls := "MailAgent$Queue", name := "copyFrom", desc := "(LMailAgent$Queue;)V" } : MethodName) prog_5_method_7_code (3 : Nat) (Option.none : Option FieldType)) ∈ jTG := jin_2 (i := 110) rfl rfl
theorem w_2_111 : (Cond.methodLink "MailAgent$Queue" (41 : Nat) ({ cls := "MailAgent$Message", name := "copyFrom", desc := "(LMailAgent$Message;)V" } : MethodName)) ∈ jTG := jin_2 (i := 111) rfl rfl
theorem w_2_112 : (Cond.instanceMethod ({ cls := "MailAgent$Message", name := "copyFrom", desc := "(LMailAgent$Message;)V" } : MethodName)) ∈ jTG := jin_2 (i := 112) rfl rfl
theorem w_2_113 : (Cond.selects "MailAgent$Message" ({ cls := "MailAgent$Message", name := "copyFrom", desc := "(LMailAgent$Message;)V" } : MethodName) ({ cls := "MailAgent$Message", name := "copyFrom", desc := "(LMailAgent$Message;)V" } : MethodName)) ∈ jTG := jin_2 (i := 113) rfl rfl
theorem w_2_114 : (Cond.code ({ cls := "MailAgent$Message", name := "copyFrom", desc := "(LMailAgent$Message;)V" } : MethodName) prog_4_method_6_code (2 : Nat) (Option.none : Option FieldType)) ∈ jTG := jin_2 (i := 114) rfl rfl
theorem w_2_115 : (Cond.methodLink "MailAgentLaw" (56 : Nat) ({ cls := "MailAgent", name := "tick", desc := "(I)I" } : MethodName)) ∈ jTG := jin_2 (i := 115) rfl rfl
theorem w_2_116 : (Cond.instanceMethod ({ cls := "MailAgent", name := "tick", desc := "(I)I" } : MethodName)) ∈ jTG := jin_2 (i := 116) rfl rfl
theorem w_2_117 : (Cond.selects "MailAgent" ({ cls := "MailAgent", name := "tick", desc := "(I)I" } : MethodName) ({ cls := "MailAgent", name := "tick", desc := "(I)I" } : MethodName)) ∈ jTG := jin_2 (i := 117) rfl rfl
theorem w_2_118 : (Cond.code ({ cls := "MailAgent", name := "tick", desc := "(I)I" } : MethodName) prog_1_method_10_code (7 : Nat) (Option.some FieldType.int)) ∈ jTG := jin_2 (i := 118) rfl rfl
theorem w_2_119 : (Cond.constant "MailAgent" (160 : Nat) (1000000 : Int32)) ∈ jTG := jin_2 (i := 119) rfl rfl
theorem w_2_120 : (Cond.methodLink "MailAgent" (168 : Nat) ({ cls := "MailAgent", name := "tryRecipients", desc := "(LMailAgent$Message;)I" } : MethodName)) ∈ jTG := jin_2 (i := 120) rfl rfl
theorem w_2_122 : (Cond.instanceMethod ({ cls := "MailAgent", name := "tryRecipients", desc := "(LMailAgent$Message;)I" } : MethodName)) ∈ jTG := jin_2 (i := 122) rfl rfl
theorem w_2_123 : (Cond.code ({ cls := "MailAgent", name := "tryRecipients", desc := "(LMailAgent$Message;)I" } : MethodName) prog_1_method_25_code (7 : Nat) (Option.some FieldType.int)) ∈ jTG := jin_2 (i := 123) rfl rfl
theorem w_2_124 : (Cond.methodLink "MailAgent" (232 : Nat) ({ cls := "MailAgent", name := "carry", desc := "(I)I" } : MethodName)) ∈ jTG := jin_2 (i := 124) rfl rfl
theorem w_2_126 : (Cond.instanceMethod ({ cls := "MailAgent", name := "carry", desc := "(I)I" } : MethodName)) ∈ jTG := jin_2 (i := 126) rfl rfl
theorem w_2_127 : (Cond.code ({ cls := "MailAgent", name := "carry", desc := "(I)I" } : MethodName) prog_1_method_26_code (6 : Nat) (Option.some FieldType.int)) ∈ jTG := jin_2 (i := 127) rfl rfl
theorem w_2_128 : (Cond.methodLink "MailAgent" (235 : Nat) ({ cls := "MailAgent$Deliveries", name := "note", desc := "(ILMailAgent$Message;)V" } : MethodName)) ∈ jTG := jin_2 (i := 128) rfl rfl
theorem w_2_129 : (Cond.instanceMethod ({ cls := "MailAgent$Deliveries", name := "note", desc := "(ILMailAgent$Message;)V" } : MethodName)) ∈ jTG := jin_2 (i := 129) rfl rfl
theorem w_2_130 : (Cond.selects "MailAgent$Deliveries" ({ cls := "MailAgent$Deliveries", name := "note", desc := "(ILMailAgent$Message;)V" } : MethodName) ({ cls := "MailAgent$Deliveries", name := "note", desc := "(ILMailAgent$Message;)V" } : MethodName)) ∈ jTG := jin_2 (i := 130) rfl rfl
theorem w_2_131 : (Cond.code ({ cls := "MailAgent$Deliveries", name := "note", desc := "(ILMailAgent$Message;)V" } : MethodName) prog_3_method_2_code (3 : Nat) (Option.none : Option FieldType)) ∈ jTG := jin_2 (i := 131) rfl rfl
theorem w_2_132 : (Cond.methodLink "MailAgent" (172 : Nat) ({ cls := "MailAgent", name := "failOverdue", desc := "(LMailAgent$Message;)V" } : MethodName)) ∈ jTG := jin_2 (i := 132) rfl rfl
theorem w_2_134 : (Cond.instanceMethod ({ cls := "MailAgent", name := "failOverdue", desc := "(LMailAgent$Message;)V" } : MethodName)) ∈ jTG := jin_2 (i := 134) rfl rfl
theorem w_2_135 : (Cond.code ({ cls := "MailAgent", name := "failOverdue", desc := "(LMailAgent$Message;)V" } : MethodName) prog_1_method_27_code (2 : Nat) (Option.none : Option FieldType)) ∈ jTG := jin_2 (i := 135) rfl rfl
theorem w_2_136 : (Cond.methodLink "MailAgent" (245 : Nat) ({ cls := "MailAgent$Recipients", name := "failWaiting", desc := "()I" } : MethodName)) ∈ jTG := jin_2 (i := 136) rfl rfl
theorem w_2_137 : (Cond.instanceMethod ({ cls := "MailAgent$Recipients", name := "failWaiting", desc := "()I" } : MethodName)) ∈ jTG := jin_2 (i := 137) rfl rfl
theorem w_2_138 : (Cond.selects "MailAgent$Recipients" ({ cls := "MailAgent$Recipients", name := "failWaiting", desc := "()I" } : MethodName) ({ cls := "MailAgent$Recipients", name := "failWaiting", desc := "()I" } : MethodName)) ∈ jTG := jin_2 (i := 138) rfl rfl
theorem w_2_139 : (Cond.code ({ cls := "MailAgent$Recipients", name := "failWaiting", desc := "()I" } : MethodName) prog_6_method_7_code (3 : Nat) (Option.some FieldType.int)) ∈ jTG := jin_2 (i := 139) rfl rfl
theorem w_2_140 : (Cond.methodLink "MailAgent" (176 : Nat) ({ cls := "MailAgent", name := "settle", desc := "(LMailAgent$Message;)Z" } : MethodName)) ∈ jTG := jin_2 (i := 140) rfl rfl
theorem w_2_142 : (Cond.instanceMethod ({ cls := "MailAgent", name := "settle", desc := "(LMailAgent$Message;)Z" } : MethodName)) ∈ jTG := jin_2 (i := 142) rfl rfl
theorem w_2_143 : (Cond.code ({ cls := "MailAgent", name := "settle", desc := "(LMailAgent$Message;)Z" } : MethodName) prog_1_method_28_code (2 : Nat) (Option.some FieldType.boolean)) ∈ jTG := jin_2 (i := 143) rfl rfl
theorem w_2_144 : (Cond.methodLink "MailAgent" (248 : Nat) ({ cls := "MailAgent$Recipients", name := "inState", desc := "(I)I" } : MethodName)) ∈ jTG := jin_2 (i := 144) rfl rfl
theorem w_2_145 : (Cond.instanceMethod ({ cls := "MailAgent$Recipients", name := "inState", desc := "(I)I" } : MethodName)) ∈ jTG := jin_2 (i := 145) rfl rfl
theorem w_2_146 : (Cond.selects "MailAgent$Recipients" ({ cls := "MailAgent$Recipients", name := "inState", desc := "(I)I" } : MethodName) ({ cls := "MailAgent$Recipients", name := "inState", desc := "(I)I" } : MethodName)) ∈ jTG := jin_2 (i := 146) rfl rfl
theorem w_2_147 : (Cond.code ({ cls := "MailAgent$Recipients", name := "inState", desc := "(I)I" } : MethodName) prog_6_method_6_code (4 : Nat) (Option.some FieldType.int)) ∈ jTG := jin_2 (i := 147) rfl rfl
theorem w_2_148 : (Cond.methodLink "MailAgent" (251 : Nat) ({ cls := "MailAgent$Message", name := "putOff", desc := "(II)V" } : MethodName)) ∈ jTG := jin_2 (i := 148) rfl rfl
theorem w_2_149 : (Cond.instanceMethod ({ cls := "MailAgent$Message", name := "putOff", desc := "(II)V" } : MethodName)) ∈ jTG := jin_2 (i := 149) rfl rfl
theorem w_2_150 : (Cond.selects "MailAgent$Message" ({ cls := "MailAgent$Message", name := "putOff", desc := "(II)V" } : MethodName) ({ cls := "MailAgent$Message", name := "putOff", desc := "(II)V" } : MethodName)) ∈ jTG := jin_2 (i := 150) rfl rfl
theorem w_2_151 : (Cond.code ({ cls := "MailAgent$Message", name := "putOff", desc := "(II)V" } : MethodName) prog_4_method_4_code (3 : Nat) (Option.none : Option FieldType)) ∈ jTG := jin_2 (i := 151) rfl rfl
theorem w_2_152 : (Cond.methodLink "MailAgent$Message" (49 : Nat) ({ cls := "java/lang/Math", name := "min", desc := "(II)I" } : MethodName)) ∈ jTG := jin_2 (i := 152) rfl rfl
theorem w_2_153 : (Cond.methodLink "MailAgent" (254 : Nat) ({ cls := "MailAgent$Message", name := "becomeReport", desc := "()V" } : MethodName)) ∈ jTG := jin_2 (i := 153) rfl rfl
theorem w_2_154 : (Cond.instanceMethod ({ cls := "MailAgent$Message", name := "becomeReport", desc := "()V" } : MethodName)) ∈ jTG := jin_2 (i := 154) rfl rfl
theorem w_2_155 : (Cond.selects "MailAgent$Message" ({ cls := "MailAgent$Message", name := "becomeReport", desc := "()V" } : MethodName) ({ cls := "MailAgent$Message", name := "becomeReport", desc := "()V" } : MethodName)) ∈ jTG := jin_2 (i := 155) rfl rfl
theorem w_2_156 : (Cond.code ({ cls := "MailAgent$Message", name := "becomeReport", desc := "()V" } : MethodName) prog_4_method_5_code (1 : Nat) (Option.none : Option FieldType)) ∈ jTG := jin_2 (i := 156) rfl rfl
theorem w_2_157 : (Cond.methodLink "MailAgent$Message" (56 : Nat) ({ cls := "MailAgent$Recipients", name := "add", desc := "(I)V" } : MethodName)) ∈ jTG := jin_2 (i := 157) rfl rfl
theorem w_2_158 : (Cond.methodLink "MailAgent" (180 : Nat) ({ cls := "MailAgent$Queue", name := "removeAt", desc := "(I)V" } : MethodName)) ∈ jTG := jin_2 (i := 158) rfl rfl
theorem w_2_159 : (Cond.instanceMethod ({ cls := "MailAgent$Queue", name := "removeAt", desc := "(I)V" } : MethodName)) ∈ jTG := jin_2 (i := 159) rfl rfl
theorem w_2_160 : (Cond.selects "MailAgent$Queue" ({ cls := "MailAgent$Queue", name := "removeAt", desc := "(I)V" } : MethodName) ({ cls := "MailAgent$Queue", name := "removeAt", desc := "(I)V" } : MethodName)) ∈ jTG := jin_2 (i := 160) rfl rfl
theorem w_2_161 : (Cond.code ({ cls := "MailAgent$Queue", name := "removeAt", desc := "(I)V" } : MethodName) prog_5_method_3_code (4 : Nat) (Option.none : Option FieldType)) ∈ jTG := jin_2 (i := 161) rfl rfl
theorem w_2_162 : (Cond.methodLink "MailAgent" (183 : Nat) ({ cls := "MailAgent", name := "keepChangesFew", desc := "()V" } : MethodName)) ∈ jTG := jin_2 (i := 162) rfl rfl
theorem w_2_164 : (Cond.instanceMethod ({ cls := "MailAgent", name := "keepChangesFew", desc := "()V" } : MethodName)) ∈ jTG := jin_2 (i := 164) rfl rfl
theorem w_2_165 : (Cond.code ({ cls := "MailAgent", name := "keepChangesFew", desc := "()V" } : MethodName) prog_1_method_29_code (1 : Nat) (Option.none : Option FieldType)) ∈ jTG := jin_2 (i := 165) rfl rfl
theorem w_2_166 : (Cond.methodLink "MailAgentLaw" (60 : Nat) ({ cls := "MailAgent", name := "sync", desc := "()I" } : MethodName)) ∈ jTG := jin_2 (i := 166) rfl rfl
theorem w_2_167 : (Cond.instanceMethod ({ cls := "MailAgent", name := "sync", desc := "()I" } : MethodName)) ∈ jTG := jin_2 (i := 167) rfl rfl
theorem w_2_168 : (Cond.selects "MailAgent" ({ cls := "MailAgent", name := "sync", desc := "()I" } : MethodName) ({ cls := "MailAgent", name := "sync", desc := "()I" } : MethodName)) ∈ jTG := jin_2 (i := 168) rfl rfl
theorem w_2_169 : (Cond.code ({ cls := "MailAgent", name := "sync", desc := "()I" } : MethodName) prog_1_method_11_code (2 : Nat) (Option.some FieldType.int)) ∈ jTG := jin_2 (i := 169) rfl rfl
theorem w_2_170 : (Cond.methodLink "MailAgentLaw" (65 : Nat) ({ cls := "MailAgent", name := "crash", desc := "()I" } : MethodName)) ∈ jTG := jin_2 (i := 170) rfl rfl
theorem w_2_171 : (Cond.instanceMethod ({ cls := "MailAgent", name := "crash", desc := "()I" } : MethodName)) ∈ jTG := jin_2 (i := 171) rfl rfl
theorem w_2_172 : (Cond.selects "MailAgent" ({ cls := "MailAgent", name := "crash", desc := "()I" } : MethodName) ({ cls := "MailAgent", name := "crash", desc := "()I" } : MethodName)) ∈ jTG := jin_2 (i := 172) rfl rfl
theorem w_2_173 : (Cond.code ({ cls := "MailAgent", name := "crash", desc := "()I" } : MethodName) prog_1_method_12_code (2 : Nat) (Option.some FieldType.int)) ∈ jTG := jin_2 (i := 173) rfl rfl
theorem w_2_174 : (Cond.methodLink "MailAgentLaw" (69 : Nat) ({ cls := "MailAgent", name := "drop", desc := "(I)I" } : MethodName)) ∈ jTG := jin_2 (i := 174) rfl rfl
theorem w_2_175 : (Cond.instanceMethod ({ cls := "MailAgent", name := "drop", desc := "(I)I" } : MethodName)) ∈ jTG := jin_2 (i := 175) rfl rfl
theorem w_2_176 : (Cond.selects "MailAgent" ({ cls := "MailAgent", name := "drop", desc := "(I)I" } : MethodName) ({ cls := "MailAgent", name := "drop", desc := "(I)I" } : MethodName)) ∈ jTG := jin_2 (i := 176) rfl rfl
theorem w_2_177 : (Cond.code ({ cls := "MailAgent", name := "drop", desc := "(I)I" } : MethodName) prog_1_method_13_code (3 : Nat) (Option.some FieldType.int)) ∈ jTG := jin_2 (i := 177) rfl rfl
theorem w_2_178 : (Cond.methodLink "MailAgent" (190 : Nat) ({ cls := "MailAgent$Queue", name := "indexOf", desc := "(I)I" } : MethodName)) ∈ jTG := jin_2 (i := 178) rfl rfl
theorem w_2_179 : (Cond.instanceMethod ({ cls := "MailAgent$Queue", name := "indexOf", desc := "(I)I" } : MethodName)) ∈ jTG := jin_2 (i := 179) rfl rfl
theorem w_2_180 : (Cond.selects "MailAgent$Queue" ({ cls := "MailAgent$Queue", name := "indexOf", desc := "(I)I" } : MethodName) ({ cls := "MailAgent$Queue", name := "indexOf", desc := "(I)I" } : MethodName)) ∈ jTG := jin_2 (i := 180) rfl rfl
theorem w_2_181 : (Cond.code ({ cls := "MailAgent$Queue", name := "indexOf", desc := "(I)I" } : MethodName) prog_5_method_4_code (3 : Nat) (Option.some FieldType.int)) ∈ jTG := jin_2 (i := 181) rfl rfl
theorem w_2_182 : (Cond.methodLink "MailAgentLaw" (73 : Nat) ({ cls := "MailAgent", name := "hurry", desc := "(I)I" } : MethodName)) ∈ jTG := jin_2 (i := 182) rfl rfl
theorem w_2_183 : (Cond.instanceMethod ({ cls := "MailAgent", name := "hurry", desc := "(I)I" } : MethodName)) ∈ jTG := jin_2 (i := 183) rfl rfl
theorem w_2_184 : (Cond.selects "MailAgent" ({ cls := "MailAgent", name := "hurry", desc := "(I)I" } : MethodName) ({ cls := "MailAgent", name := "hurry", desc := "(I)I" } : MethodName)) ∈ jTG := jin_2 (i := 184) rfl rfl
theorem w_2_185 : (Cond.code ({ cls := "MailAgent", name := "hurry", desc := "(I)I" } : MethodName) prog_1_method_14_code (3 : Nat) (Option.some FieldType.int)) ∈ jTG := jin_2 (i := 185) rfl rfl
theorem w_2_186 : (Cond.methodLink "MailAgentLaw" (77 : Nat) ({ cls := "MailAgent", name := "count", desc := "(I)I" } : MethodName)) ∈ jTG := jin_2 (i := 186) rfl rfl
theorem w_2_187 : (Cond.instanceMethod ({ cls := "MailAgent", name := "count", desc := "(I)I" } : MethodName)) ∈ jTG := jin_2 (i := 187) rfl rfl
theorem w_2_188 : (Cond.selects "MailAgent" ({ cls := "MailAgent", name := "count", desc := "(I)I" } : MethodName) ({ cls := "MailAgent", name := "count", desc := "(I)I" } : MethodName)) ∈ jTG := jin_2 (i := 188) rfl rfl
theorem w_2_189 : (Cond.code ({ cls := "MailAgent", name := "count", desc := "(I)I" } : MethodName) prog_1_method_15_code (2 : Nat) (Option.some FieldType.int)) ∈ jTG := jin_2 (i := 189) rfl rfl
theorem w_2_190 : (Cond.methodLink "MailAgent" (193 : Nat) ({ cls := "MailAgent$Queue", name := "waitingRecipients", desc := "()I" } : MethodName)) ∈ jTG := jin_2 (i := 190) rfl rfl
theorem w_2_191 : (Cond.instanceMethod ({ cls := "MailAgent$Queue", name := "waitingRecipients", desc := "()I" } : MethodName)) ∈ jTG := jin_2 (i := 191) rfl rfl
theorem w_2_192 : (Cond.selects "MailAgent$Queue" ({ cls := "MailAgent$Queue", name := "waitingRecipients", desc := "()I" } : MethodName) ({ cls := "MailAgent$Queue", name := "waitingRecipients", desc := "()I" } : MethodName)) ∈ jTG := jin_2 (i := 192) rfl rfl
theorem w_2_193 : (Cond.code ({ cls := "MailAgent$Queue", name := "waitingRecipients", desc := "()I" } : MethodName) prog_5_method_6_code (3 : Nat) (Option.some FieldType.int)) ∈ jTG := jin_2 (i := 193) rfl rfl
theorem w_2_194 : (Cond.methodLink "MailAgent$Queue" (37 : Nat) ({ cls := "MailAgent$Recipients", name := "inState", desc := "(I)I" } : MethodName)) ∈ jTG := jin_2 (i := 194) rfl rfl
theorem w_2_195 : (Cond.methodLink "MailAgentLaw" (81 : Nat) ({ cls := "MailAgent", name := "message", desc := "(I)I" } : MethodName)) ∈ jTG := jin_2 (i := 195) rfl rfl
theorem w_2_196 : (Cond.instanceMethod ({ cls := "MailAgent", name := "message", desc := "(I)I" } : MethodName)) ∈ jTG := jin_2 (i := 196) rfl rfl
theorem w_2_197 : (Cond.selects "MailAgent" ({ cls := "MailAgent", name := "message", desc := "(I)I" } : MethodName) ({ cls := "MailAgent", name := "message", desc := "(I)I" } : MethodName)) ∈ jTG := jin_2 (i := 197) rfl rfl
theorem w_2_198 : (Cond.code ({ cls := "MailAgent", name := "message", desc := "(I)I" } : MethodName) prog_1_method_16_code (2 : Nat) (Option.some FieldType.int)) ∈ jTG := jin_2 (i := 198) rfl rfl
theorem w_2_199 : (Cond.methodLink "MailAgentLaw" (85 : Nat) ({ cls := "MailAgent", name := "status", desc := "(II)I" } : MethodName)) ∈ jTG := jin_2 (i := 199) rfl rfl
theorem w_2_200 : (Cond.instanceMethod ({ cls := "MailAgent", name := "status", desc := "(II)I" } : MethodName)) ∈ jTG := jin_2 (i := 200) rfl rfl
theorem w_2_201 : (Cond.selects "MailAgent" ({ cls := "MailAgent", name := "status", desc := "(II)I" } : MethodName) ({ cls := "MailAgent", name := "status", desc := "(II)I" } : MethodName)) ∈ jTG := jin_2 (i := 201) rfl rfl
theorem w_2_202 : (Cond.code ({ cls := "MailAgent", name := "status", desc := "(II)I" } : MethodName) prog_1_method_17_code (4 : Nat) (Option.some FieldType.int)) ∈ jTG := jin_2 (i := 202) rfl rfl
theorem w_2_203 : (Cond.methodLink "MailAgent" (200 : Nat) ({ cls := "MailAgent$Recipients", name := "stateOf", desc := "(I)I" } : MethodName)) ∈ jTG := jin_2 (i := 203) rfl rfl
theorem w_2_204 : (Cond.instanceMethod ({ cls := "MailAgent$Recipients", name := "stateOf", desc := "(I)I" } : MethodName)) ∈ jTG := jin_2 (i := 204) rfl rfl
theorem w_2_205 : (Cond.selects "MailAgent$Recipients" ({ cls := "MailAgent$Recipients", name := "stateOf", desc := "(I)I" } : MethodName) ({ cls := "MailAgent$Recipients", name := "stateOf", desc := "(I)I" } : MethodName)) ∈ jTG := jin_2 (i := 205) rfl rfl
theorem w_2_206 : (Cond.code ({ cls := "MailAgent$Recipients", name := "stateOf", desc := "(I)I" } : MethodName) prog_6_method_5_code (3 : Nat) (Option.some FieldType.int)) ∈ jTG := jin_2 (i := 206) rfl rfl
theorem w_2_207 : (Cond.methodLink "MailAgentLaw" (89 : Nat) ({ cls := "MailAgent", name := "sender", desc := "(I)I" } : MethodName)) ∈ jTG := jin_2 (i := 207) rfl rfl
theorem w_2_208 : (Cond.instanceMethod ({ cls := "MailAgent", name := "sender", desc := "(I)I" } : MethodName)) ∈ jTG := jin_2 (i := 208) rfl rfl
theorem w_2_209 : (Cond.selects "MailAgent" ({ cls := "MailAgent", name := "sender", desc := "(I)I" } : MethodName) ({ cls := "MailAgent", name := "sender", desc := "(I)I" } : MethodName)) ∈ jTG := jin_2 (i := 209) rfl rfl
theorem w_2_210 : (Cond.code ({ cls := "MailAgent", name := "sender", desc := "(I)I" } : MethodName) prog_1_method_18_code (3 : Nat) (Option.some FieldType.int)) ∈ jTG := jin_2 (i := 210) rfl rfl
theorem w_2_211 : (Cond.methodLink "MailAgentLaw" (93 : Nat) ({ cls := "MailAgent", name := "due", desc := "(I)I" } : MethodName)) ∈ jTG := jin_2 (i := 211) rfl rfl
theorem w_2_212 : (Cond.instanceMethod ({ cls := "MailAgent", name := "due", desc := "(I)I" } : MethodName)) ∈ jTG := jin_2 (i := 212) rfl rfl
theorem w_2_213 : (Cond.selects "MailAgent" ({ cls := "MailAgent", name := "due", desc := "(I)I" } : MethodName) ({ cls := "MailAgent", name := "due", desc := "(I)I" } : MethodName)) ∈ jTG := jin_2 (i := 213) rfl rfl
theorem w_2_214 : (Cond.code ({ cls := "MailAgent", name := "due", desc := "(I)I" } : MethodName) prog_1_method_19_code (3 : Nat) (Option.some FieldType.int)) ∈ jTG := jin_2 (i := 214) rfl rfl
theorem w_2_215 : (Cond.methodLink "MailAgentLaw" (97 : Nat) ({ cls := "MailAgent", name := "received", desc := "(II)I" } : MethodName)) ∈ jTG := jin_2 (i := 215) rfl rfl
theorem w_2_216 : (Cond.instanceMethod ({ cls := "MailAgent", name := "received", desc := "(II)I" } : MethodName)) ∈ jTG := jin_2 (i := 216) rfl rfl
theorem w_2_217 : (Cond.selects "MailAgent" ({ cls := "MailAgent", name := "received", desc := "(II)I" } : MethodName) ({ cls := "MailAgent", name := "received", desc := "(II)I" } : MethodName)) ∈ jTG := jin_2 (i := 217) rfl rfl
theorem w_2_218 : (Cond.code ({ cls := "MailAgent", name := "received", desc := "(II)I" } : MethodName) prog_1_method_20_code (3 : Nat) (Option.some FieldType.int)) ∈ jTG := jin_2 (i := 218) rfl rfl
theorem w_2_219 : (Cond.methodLink "MailAgentLaw" (9 : Nat) ({ cls := "MailAgentLaw", name := "cell", desc := "([II)I" } : MethodName)) ∈ jTG := jin_2 (i := 219) rfl rfl
theorem w_2_220 : (Cond.static ({ cls := "MailAgentLaw", name := "cell", desc := "([II)I" } : MethodName)) ∈ jTG := jin_2 (i := 220) rfl rfl
theorem w_2_221 : (Cond.code ({ cls := "MailAgentLaw", name := "cell", desc := "([II)I" } : MethodName) method_2_code (2 : Nat) (Option.some FieldType.int)) ∈ jTG := jin_2 (i := 221) rfl rfl
theorem w_2_222 : (Cond.classLink "MailAgentLaw" (18 : Nat) "MailAgentModel") ∈ jTG := jin_2 (i := 222) rfl rfl
theorem w_2_223 : (Cond.instantiable "MailAgentModel" (24 : Nat)) ∈ jTG := jin_2 (i := 223) rfl rfl
theorem w_2_224 : (Cond.methodLink "MailAgentLaw" (20 : Nat) ({ cls := "MailAgentModel", name := "<init>", desc := "(III)V" } : MethodName)) ∈ jTG := jin_2 (i := 224) rfl rfl
theorem w_2_225 : (Cond.instanceMethod ({ cls := "MailAgentModel", name := "<init>", desc := "(III)V" } : MethodName)) ∈ jTG := jin_2 (i := 225) rfl rfl
theorem w_2_226 : (Cond.code ({ cls := "MailAgentModel", name := "<init>", desc := "(III)V" } : MethodName) prog_10_method_1_code (4 : Nat) (Option.none : Option FieldType)) ∈ jTG := jin_2 (i := 226) rfl rfl
theorem w_2_227 : (Cond.methodLink "MailAgentModel" (1 : Nat) ({ cls := "java/lang/Object", name := "<init>", desc := "()V" } : MethodName)) ∈ jTG := jin_2 (i := 227) rfl rfl
theorem w_2_228 : (Cond.methodLink "MailAgentModel" (49 : Nat) ({ cls := "MailAgentModel", name := "within", desc := "(III)I" } : MethodName)) ∈ jTG := jin_2 (i := 228) rfl rfl
theorem w_2_229 : (Cond.static ({ cls := "MailAgentModel", name := "within", desc := "(III)I" } : MethodName)) ∈ jTG := jin_2 (i := 229) rfl rfl
theorem w_2_230 : (Cond.code ({ cls := "MailAgentModel", name := "within", desc := "(III)I" } : MethodName) prog_10_method_2_code (3 : Nat) (Option.some FieldType.int)) ∈ jTG := jin_2 (i := 230) rfl rfl
theorem w_2_231 : (Cond.fieldLink "MailAgentModel" (53 : Nat) "MailAgentModel" "minGap" "I") ∈ jTG := jin_2 (i := 231) rfl rfl
theorem w_2_232 : (Cond.fieldLink "MailAgentModel" (57 : Nat) "MailAgentModel" "maxGap" "I") ∈ jTG := jin_2 (i := 232) rfl rfl
theorem w_2_233 : (Cond.fieldLink "MailAgentModel" (60 : Nat) "MailAgentModel" "giveUp" "I") ∈ jTG := jin_2 (i := 233) rfl rfl
theorem w_2_234 : (Cond.fieldLink "MailAgentModel" (7 : Nat) "MailAgentModel" "goals" "[I") ∈ jTG := jin_2 (i := 234) rfl rfl
theorem w_2_235 : (Cond.fieldLink "MailAgentModel" (13 : Nat) "MailAgentModel" "goalCount" "[I") ∈ jTG := jin_2 (i := 235) rfl rfl
theorem w_2_236 : (Cond.fieldLink "MailAgentModel" (16 : Nat) "MailAgentModel" "routeHost" "[I") ∈ jTG := jin_2 (i := 236) rfl rfl
theorem w_2_237 : (Cond.fieldLink "MailAgentModel" (19 : Nat) "MailAgentModel" "routeKey" "[I") ∈ jTG := jin_2 (i := 237) rfl rfl
theorem w_2_238 : (Cond.fieldLink "MailAgentModel" (22 : Nat) "MailAgentModel" "routeCount" "[I") ∈ jTG := jin_2 (i := 238) rfl rfl
theorem w_2_239 : (Cond.fieldLink "MailAgentModel" (25 : Nat) "MailAgentModel" "hosts" "[I") ∈ jTG := jin_2 (i := 239) rfl rfl
theorem w_3_0 : (Cond.fieldLink "MailAgentModel" (101 : Nat) "MailAgentModel" "clock" "I") ∈ jTG := jin_3 (i := 0) rfl rfl
theorem w_3_1 : (Cond.fieldLink "MailAgentModel" (98 : Nat) "MailAgentModel" "last" "I") ∈ jTG := jin_3 (i := 1) rfl rfl
theorem w_3_2 : (Cond.fieldLink "MailAgentModel" (28 : Nat) "MailAgentModel" "queue" "[I") ∈ jTG := jin_3 (i := 2) rfl rfl
theorem w_3_3 : (Cond.fieldLink "MailAgentModel" (85 : Nat) "MailAgentModel" "queued" "I") ∈ jTG := jin_3 (i := 3) rfl rfl
theorem w_3_4 : (Cond.fieldLink "MailAgentModel" (31 : Nat) "MailAgentModel" "safe" "[I") ∈ jTG := jin_3 (i := 4) rfl rfl
theorem w_3_5 : (Cond.fieldLink "MailAgentModel" (91 : Nat) "MailAgentModel" "safeQueued" "I") ∈ jTG := jin_3 (i := 5) rfl rfl
theorem w_3_6 : (Cond.fieldLink "MailAgentModel" (88 : Nat) "MailAgentModel" "changes" "I") ∈ jTG := jin_3 (i := 6) rfl rfl
theorem w_3_7 : (Cond.fieldLink "MailAgentModel" (67 : Nat) "MailAgentModel" "open" "Z") ∈ jTG := jin_3 (i := 7) rfl rfl
theorem w_3_8 : (Cond.fieldLink "MailAgentModel" (71 : Nat) "MailAgentModel" "from" "I") ∈ jTG := jin_3 (i := 8) rfl rfl
theorem w_3_9 : (Cond.fieldLink "MailAgentModel" (34 : Nat) "MailAgentModel" "to" "[I") ∈ jTG := jin_3 (i := 9) rfl rfl
theorem w_3_10 : (Cond.fieldLink "MailAgentModel" (74 : Nat) "MailAgentModel" "toCount" "I") ∈ jTG := jin_3 (i := 10) rfl rfl
theorem w_3_11 : (Cond.fieldLink "MailAgentModel" (37 : Nat) "MailAgentModel" "letters" "[I") ∈ jTG := jin_3 (i := 11) rfl rfl
theorem w_3_12 : (Cond.fieldLink "MailAgentModel" (40 : Nat) "MailAgentModel" "reports" "[I") ∈ jTG := jin_3 (i := 12) rfl rfl
theorem w_3_13 : (Cond.fieldLink "MailAgentModel" (43 : Nat) "MailAgentModel" "latest" "[I") ∈ jTG := jin_3 (i := 13) rfl rfl
theorem w_3_14 : (Cond.fieldLink "MailAgentModel" (46 : Nat) "MailAgentModel" "carried" "[I") ∈ jTG := jin_3 (i := 14) rfl rfl
theorem w_3_15 : (Cond.laysFinal "MailAgentModel" "MailAgentModel" "minGap" "I") ∈ jTG := jin_3 (i := 15) rfl rfl
theorem w_3_17 : (Cond.laysFinal "MailAgentModel" "MailAgentModel" "maxGap" "I") ∈ jTG := jin_3 (i := 17) rfl rfl
theorem w_3_19 : (Cond.laysFinal "MailAgentModel" "MailAgentModel" "giveUp" "I") ∈ jTG := jin_3 (i := 19) rfl rfl
theorem w_3_21 : (Cond.laysFinal "MailAgentModel" "MailAgentModel" "goals" "[I") ∈ jTG := jin_3 (i := 21) rfl rfl
theorem w_3_23 : (Cond.laysFinal "MailAgentModel" "MailAgentModel" "goalCount" "[I") ∈ jTG := jin_3 (i := 23) rfl rfl
theorem w_3_25 : (Cond.laysFinal "MailAgentModel" "MailAgentModel" "routeHost" "[I") ∈ jTG := jin_3 (i := 25) rfl rfl
theorem w_3_27 : (Cond.laysFinal "MailAgentModel" "MailAgentModel" "routeKey" "[I") ∈ jTG := jin_3 (i := 27) rfl rfl
theorem w_3_29 : (Cond.laysFinal "MailAgentModel" "MailAgentModel" "routeCount" "[I") ∈ jTG := jin_3 (i := 29) rfl rfl
theorem w_3_31 : (Cond.laysFinal "MailAgentModel" "MailAgentModel" "hosts" "[I") ∈ jTG := jin_3 (i := 31) rfl rfl
theorem w_3_33 : (Cond.lays "MailAgentModel" "MailAgentModel" "clock" "I") ∈ jTG := jin_3 (i := 33) rfl rfl
theorem w_3_35 : (Cond.lays "MailAgentModel" "MailAgentModel" "last" "I") ∈ jTG := jin_3 (i := 35) rfl rfl
theorem w_3_37 : (Cond.laysFinal "MailAgentModel" "MailAgentModel" "queue" "[I") ∈ jTG := jin_3 (i := 37) rfl rfl
theorem w_3_39 : (Cond.lays "MailAgentModel" "MailAgentModel" "queued" "I") ∈ jTG := jin_3 (i := 39) rfl rfl
theorem w_3_41 : (Cond.laysFinal "MailAgentModel" "MailAgentModel" "safe" "[I") ∈ jTG := jin_3 (i := 41) rfl rfl
theorem w_3_43 : (Cond.lays "MailAgentModel" "MailAgentModel" "safeQueued" "I") ∈ jTG := jin_3 (i := 43) rfl rfl
theorem w_3_45 : (Cond.lays "MailAgentModel" "MailAgentModel" "changes" "I") ∈ jTG := jin_3 (i := 45) rfl rfl
theorem w_3_47 : (Cond.lays "MailAgentModel" "MailAgentModel" "open" "Z") ∈ jTG := jin_3 (i := 47) rfl rfl
theorem w_3_49 : (Cond.lays "MailAgentModel" "MailAgentModel" "from" "I") ∈ jTG := jin_3 (i := 49) rfl rfl
theorem w_3_51 : (Cond.laysFinal "MailAgentModel" "MailAgentModel" "to" "[I") ∈ jTG := jin_3 (i := 51) rfl rfl
theorem w_3_53 : (Cond.lays "MailAgentModel" "MailAgentModel" "toCount" "I") ∈ jTG := jin_3 (i := 53) rfl rfl
theorem w_3_55 : (Cond.laysFinal "MailAgentModel" "MailAgentModel" "letters" "[I") ∈ jTG := jin_3 (i := 55) rfl rfl
theorem w_3_57 : (Cond.laysFinal "MailAgentModel" "MailAgentModel" "reports" "[I") ∈ jTG := jin_3 (i := 57) rfl rfl
theorem w_3_59 : (Cond.laysFinal "MailAgentModel" "MailAgentModel" "latest" "[I") ∈ jTG := jin_3 (i := 59) rfl rfl
theorem w_3_61 : (Cond.laysFinal "MailAgentModel" "MailAgentModel" "carried" "[I") ∈ jTG := jin_3 (i := 61) rfl rfl
theorem w_3_64 : (Cond.methodLink "MailAgentLaw" (25 : Nat) ({ cls := "MailAgentModel", name := "alias", desc := "(II)I" } : MethodName)) ∈ jTG := jin_3 (i := 64) rfl rfl
theorem w_3_65 : (Cond.instanceMethod ({ cls := "MailAgentModel", name := "alias", desc := "(II)I" } : MethodName)) ∈ jTG := jin_3 (i := 65) rfl rfl
theorem w_3_66 : (Cond.selects "MailAgentModel" ({ cls := "MailAgentModel", name := "alias", desc := "(II)I" } : MethodName) ({ cls := "MailAgentModel", name := "alias", desc := "(II)I" } : MethodName)) ∈ jTG := jin_3 (i := 66) rfl rfl
theorem w_3_67 : (Cond.code ({ cls := "MailAgentModel", name := "alias", desc := "(II)I" } : MethodName) prog_10_method_4_code (4 : Nat) (Option.some FieldType.int)) ∈ jTG := jin_3 (i := 67) rfl rfl
theorem w_3_68 : (Cond.methodLink "MailAgentModel" (63 : Nat) ({ cls := "MailAgentModel", name := "out", desc := "(II)Z" } : MethodName)) ∈ jTG := jin_3 (i := 68) rfl rfl
theorem w_3_69 : (Cond.static ({ cls := "MailAgentModel", name := "out", desc := "(II)Z" } : MethodName)) ∈ jTG := jin_3 (i := 69) rfl rfl
theorem w_3_70 : (Cond.code ({ cls := "MailAgentModel", name := "out", desc := "(II)Z" } : MethodName) prog_10_method_3_code (2 : Nat) (Option.some FieldType.boolean)) ∈ jTG := jin_3 (i := 70) rfl rfl
theorem w_3_71 : (Cond.methodLink "MailAgentLaw" (30 : Nat) ({ cls := "MailAgentModel", name := "unalias", desc := "(I)I" } : MethodName)) ∈ jTG := jin_3 (i := 71) rfl rfl
theorem w_3_72 : (Cond.instanceMethod ({ cls := "MailAgentModel", name := "unalias", desc := "(I)I" } : MethodName)) ∈ jTG := jin_3 (i := 72) rfl rfl
theorem w_3_73 : (Cond.selects "MailAgentModel" ({ cls := "MailAgentModel", name := "unalias", desc := "(I)I" } : MethodName) ({ cls := "MailAgentModel", name := "unalias", desc := "(I)I" } : MethodName)) ∈ jTG := jin_3 (i := 73) rfl rfl
theorem w_3_74 : (Cond.code ({ cls := "MailAgentModel", name := "unalias", desc := "(I)I" } : MethodName) prog_10_method_5_code (3 : Nat) (Option.some FieldType.int)) ∈ jTG := jin_3 (i := 74) rfl rfl
theorem w_3_75 : (Cond.methodLink "MailAgentLaw" (35 : Nat) ({ cls := "MailAgentModel", name := "route", desc := "(III)I" } : MethodName)) ∈ jTG := jin_3 (i := 75) rfl rfl
theorem w_3_76 : (Cond.instanceMethod ({ cls := "MailAgentModel", name := "route", desc := "(III)I" } : MethodName)) ∈ jTG := jin_3 (i := 76) rfl rfl
theorem w_3_77 : (Cond.selects "MailAgentModel" ({ cls := "MailAgentModel", name := "route", desc := "(III)I" } : MethodName) ({ cls := "MailAgentModel", name := "route", desc := "(III)I" } : MethodName)) ∈ jTG := jin_3 (i := 77) rfl rfl
theorem w_3_78 : (Cond.code ({ cls := "MailAgentModel", name := "route", desc := "(III)I" } : MethodName) prog_10_method_6_code (6 : Nat) (Option.some FieldType.int)) ∈ jTG := jin_3 (i := 78) rfl rfl
theorem w_3_79 : (Cond.methodLink "MailAgentLaw" (39 : Nat) ({ cls := "MailAgentModel", name := "unroute", desc := "(I)I" } : MethodName)) ∈ jTG := jin_3 (i := 79) rfl rfl
theorem w_3_80 : (Cond.instanceMethod ({ cls := "MailAgentModel", name := "unroute", desc := "(I)I" } : MethodName)) ∈ jTG := jin_3 (i := 80) rfl rfl
theorem w_3_81 : (Cond.selects "MailAgentModel" ({ cls := "MailAgentModel", name := "unroute", desc := "(I)I" } : MethodName) ({ cls := "MailAgentModel", name := "unroute", desc := "(I)I" } : MethodName)) ∈ jTG := jin_3 (i := 81) rfl rfl
theorem w_3_82 : (Cond.code ({ cls := "MailAgentModel", name := "unroute", desc := "(I)I" } : MethodName) prog_10_method_7_code (3 : Nat) (Option.some FieldType.int)) ∈ jTG := jin_3 (i := 82) rfl rfl
theorem w_3_83 : (Cond.methodLink "MailAgentLaw" (43 : Nat) ({ cls := "MailAgentModel", name := "host", desc := "(II)I" } : MethodName)) ∈ jTG := jin_3 (i := 83) rfl rfl
theorem w_3_84 : (Cond.instanceMethod ({ cls := "MailAgentModel", name := "host", desc := "(II)I" } : MethodName)) ∈ jTG := jin_3 (i := 84) rfl rfl
theorem w_3_85 : (Cond.selects "MailAgentModel" ({ cls := "MailAgentModel", name := "host", desc := "(II)I" } : MethodName) ({ cls := "MailAgentModel", name := "host", desc := "(II)I" } : MethodName)) ∈ jTG := jin_3 (i := 85) rfl rfl
theorem w_3_86 : (Cond.code ({ cls := "MailAgentModel", name := "host", desc := "(II)I" } : MethodName) prog_10_method_8_code (4 : Nat) (Option.some FieldType.int)) ∈ jTG := jin_3 (i := 86) rfl rfl
theorem w_3_87 : (Cond.methodLink "MailAgentLaw" (47 : Nat) ({ cls := "MailAgentModel", name := "from", desc := "(I)I" } : MethodName)) ∈ jTG := jin_3 (i := 87) rfl rfl
theorem w_3_88 : (Cond.instanceMethod ({ cls := "MailAgentModel", name := "from", desc := "(I)I" } : MethodName)) ∈ jTG := jin_3 (i := 88) rfl rfl
theorem w_3_89 : (Cond.selects "MailAgentModel" ({ cls := "MailAgentModel", name := "from", desc := "(I)I" } : MethodName) ({ cls := "MailAgentModel", name := "from", desc := "(I)I" } : MethodName)) ∈ jTG := jin_3 (i := 89) rfl rfl
theorem w_3_90 : (Cond.code ({ cls := "MailAgentModel", name := "from", desc := "(I)I" } : MethodName) prog_10_method_9_code (2 : Nat) (Option.some FieldType.int)) ∈ jTG := jin_3 (i := 90) rfl rfl
theorem w_3_91 : (Cond.methodLink "MailAgentLaw" (51 : Nat) ({ cls := "MailAgentModel", name := "to", desc := "(I)I" } : MethodName)) ∈ jTG := jin_3 (i := 91) rfl rfl
theorem w_3_92 : (Cond.instanceMethod ({ cls := "MailAgentModel", name := "to", desc := "(I)I" } : MethodName)) ∈ jTG := jin_3 (i := 92) rfl rfl
theorem w_3_93 : (Cond.selects "MailAgentModel" ({ cls := "MailAgentModel", name := "to", desc := "(I)I" } : MethodName) ({ cls := "MailAgentModel", name := "to", desc := "(I)I" } : MethodName)) ∈ jTG := jin_3 (i := 93) rfl rfl
theorem w_3_94 : (Cond.code ({ cls := "MailAgentModel", name := "to", desc := "(I)I" } : MethodName) prog_10_method_12_code (8 : Nat) (Option.some FieldType.int)) ∈ jTG := jin_3 (i := 94) rfl rfl
theorem w_3_95 : (Cond.methodLink "MailAgentModel" (77 : Nat) ({ cls := "MailAgentModel", name := "reached", desc := "(I)J" } : MethodName)) ∈ jTG := jin_3 (i := 95) rfl rfl
theorem w_3_97 : (Cond.instanceMethod ({ cls := "MailAgentModel", name := "reached", desc := "(I)J" } : MethodName)) ∈ jTG := jin_3 (i := 97) rfl rfl
theorem w_3_98 : (Cond.code ({ cls := "MailAgentModel", name := "reached", desc := "(I)J" } : MethodName) prog_10_method_10_code (6 : Nat) (Option.some FieldType.long)) ∈ jTG := jin_3 (i := 98) rfl rfl
theorem w_3_99 : (Cond.methodLink "MailAgentModel" (81 : Nat) ({ cls := "MailAgentModel", name := "named", desc := "(I)Z" } : MethodName)) ∈ jTG := jin_3 (i := 99) rfl rfl
theorem w_3_101 : (Cond.instanceMethod ({ cls := "MailAgentModel", name := "named", desc := "(I)Z" } : MethodName)) ∈ jTG := jin_3 (i := 101) rfl rfl
theorem w_3_102 : (Cond.code ({ cls := "MailAgentModel", name := "named", desc := "(I)Z" } : MethodName) prog_10_method_11_code (3 : Nat) (Option.some FieldType.boolean)) ∈ jTG := jin_3 (i := 102) rfl rfl
theorem w_3_103 : (Cond.methodLink "MailAgentLaw" (55 : Nat) ({ cls := "MailAgentModel", name := "data", desc := "(I)I" } : MethodName)) ∈ jTG := jin_3 (i := 103) rfl rfl
theorem w_3_104 : (Cond.instanceMethod ({ cls := "MailAgentModel", name := "data", desc := "(I)I" } : MethodName)) ∈ jTG := jin_3 (i := 104) rfl rfl
theorem w_3_105 : (Cond.selects "MailAgentModel" ({ cls := "MailAgentModel", name := "data", desc := "(I)I" } : MethodName) ({ cls := "MailAgentModel", name := "data", desc := "(I)I" } : MethodName)) ∈ jTG := jin_3 (i := 105) rfl rfl
theorem w_3_106 : (Cond.code ({ cls := "MailAgentModel", name := "data", desc := "(I)I" } : MethodName) prog_10_method_15_code (4 : Nat) (Option.some FieldType.int)) ∈ jTG := jin_3 (i := 106) rfl rfl
theorem w_3_107 : (Cond.methodLink "MailAgentModel" (94 : Nat) ({ cls := "MailAgentModel", name := "costs", desc := "()I" } : MethodName)) ∈ jTG := jin_3 (i := 107) rfl rfl
theorem w_3_109 : (Cond.instanceMethod ({ cls := "MailAgentModel", name := "costs", desc := "()I" } : MethodName)) ∈ jTG := jin_3 (i := 109) rfl rfl
theorem w_3_110 : (Cond.code ({ cls := "MailAgentModel", name := "costs", desc := "()I" } : MethodName) prog_10_method_13_code (3 : Nat) (Option.some FieldType.int)) ∈ jTG := jin_3 (i := 110) rfl rfl
theorem w_3_111 : (Cond.methodLink "MailAgentModel" (104 : Nat) ({ cls := "MailAgentModel", name := "settle", desc := "()I" } : MethodName)) ∈ jTG := jin_3 (i := 111) rfl rfl
theorem w_3_113 : (Cond.instanceMethod ({ cls := "MailAgentModel", name := "settle", desc := "()I" } : MethodName)) ∈ jTG := jin_3 (i := 113) rfl rfl
theorem w_3_114 : (Cond.code ({ cls := "MailAgentModel", name := "settle", desc := "()I" } : MethodName) prog_10_method_14_code (3 : Nat) (Option.some FieldType.int)) ∈ jTG := jin_3 (i := 114) rfl rfl
theorem w_3_115 : (Cond.methodLink "MailAgentLaw" (59 : Nat) ({ cls := "MailAgentModel", name := "tick", desc := "(I)I" } : MethodName)) ∈ jTG := jin_3 (i := 115) rfl rfl
theorem w_3_116 : (Cond.instanceMethod ({ cls := "MailAgentModel", name := "tick", desc := "(I)I" } : MethodName)) ∈ jTG := jin_3 (i := 116) rfl rfl
theorem w_3_117 : (Cond.selects "MailAgentModel" ({ cls := "MailAgentModel", name := "tick", desc := "(I)I" } : MethodName) ({ cls := "MailAgentModel", name := "tick", desc := "(I)I" } : MethodName)) ∈ jTG := jin_3 (i := 117) rfl rfl
theorem w_3_118 : (Cond.code ({ cls := "MailAgentModel", name := "tick", desc := "(I)I" } : MethodName) prog_10_method_23_code (5 : Nat) (Option.some FieldType.int)) ∈ jTG := jin_3 (i := 118) rfl rfl
theorem w_3_119 : (Cond.constant "MailAgentModel" (126 : Nat) (1000000 : Int32)) ∈ jTG := jin_3 (i := 119) rfl rfl
theorem w_3_120 : (Cond.methodLink "MailAgentModel" (127 : Nat) ({ cls := "MailAgentModel", name := "find", desc := "(I)I" } : MethodName)) ∈ jTG := jin_3 (i := 120) rfl rfl
theorem w_3_122 : (Cond.instanceMethod ({ cls := "MailAgentModel", name := "find", desc := "(I)I" } : MethodName)) ∈ jTG := jin_3 (i := 122) rfl rfl
theorem w_3_123 : (Cond.code ({ cls := "MailAgentModel", name := "find", desc := "(I)I" } : MethodName) prog_10_method_26_code (3 : Nat) (Option.some FieldType.int)) ∈ jTG := jin_3 (i := 123) rfl rfl
theorem w_3_124 : (Cond.methodLink "MailAgentModel" (130 : Nat) ({ cls := "MailAgentModel", name := "attempt", desc := "(I)I" } : MethodName)) ∈ jTG := jin_3 (i := 124) rfl rfl
theorem w_3_126 : (Cond.instanceMethod ({ cls := "MailAgentModel", name := "attempt", desc := "(I)I" } : MethodName)) ∈ jTG := jin_3 (i := 126) rfl rfl
theorem w_3_127 : (Cond.code ({ cls := "MailAgentModel", name := "attempt", desc := "(I)I" } : MethodName) prog_10_method_20_code (6 : Nat) (Option.some FieldType.int)) ∈ jTG := jin_3 (i := 127) rfl rfl
theorem w_3_128 : (Cond.methodLink "MailAgentModel" (107 : Nat) ({ cls := "MailAgentModel", name := "carrier", desc := "(I)I" } : MethodName)) ∈ jTG := jin_3 (i := 128) rfl rfl
theorem w_3_130 : (Cond.instanceMethod ({ cls := "MailAgentModel", name := "carrier", desc := "(I)I" } : MethodName)) ∈ jTG := jin_3 (i := 130) rfl rfl
theorem w_3_131 : (Cond.code ({ cls := "MailAgentModel", name := "carrier", desc := "(I)I" } : MethodName) prog_10_method_16_code (6 : Nat) (Option.some FieldType.int)) ∈ jTG := jin_3 (i := 131) rfl rfl
theorem w_3_132 : (Cond.methodLink "MailAgentModel" (111 : Nat) ({ cls := "MailAgentModel", name := "mark", desc := "(II)V" } : MethodName)) ∈ jTG := jin_3 (i := 132) rfl rfl
theorem w_3_134 : (Cond.instanceMethod ({ cls := "MailAgentModel", name := "mark", desc := "(II)V" } : MethodName)) ∈ jTG := jin_3 (i := 134) rfl rfl
theorem w_3_135 : (Cond.code ({ cls := "MailAgentModel", name := "mark", desc := "(II)V" } : MethodName) prog_10_method_18_code (3 : Nat) (Option.none : Option FieldType)) ∈ jTG := jin_3 (i := 135) rfl rfl
theorem w_3_136 : (Cond.methodLink "MailAgentModel" (115 : Nat) ({ cls := "MailAgentModel", name := "deliver", desc := "(II)V" } : MethodName)) ∈ jTG := jin_3 (i := 136) rfl rfl
theorem w_3_138 : (Cond.instanceMethod ({ cls := "MailAgentModel", name := "deliver", desc := "(II)V" } : MethodName)) ∈ jTG := jin_3 (i := 138) rfl rfl
theorem w_3_139 : (Cond.code ({ cls := "MailAgentModel", name := "deliver", desc := "(II)V" } : MethodName) prog_10_method_19_code (3 : Nat) (Option.none : Option FieldType)) ∈ jTG := jin_3 (i := 139) rfl rfl
theorem w_3_140 : (Cond.methodLink "MailAgentModel" (118 : Nat) ({ cls := "MailAgentModel", name := "states", desc := "(II)I" } : MethodName)) ∈ jTG := jin_3 (i := 140) rfl rfl
theorem w_3_142 : (Cond.instanceMethod ({ cls := "MailAgentModel", name := "states", desc := "(II)I" } : MethodName)) ∈ jTG := jin_3 (i := 142) rfl rfl
theorem w_3_143 : (Cond.code ({ cls := "MailAgentModel", name := "states", desc := "(II)I" } : MethodName) prog_10_method_17_code (5 : Nat) (Option.some FieldType.int)) ∈ jTG := jin_3 (i := 143) rfl rfl
theorem w_3_144 : (Cond.methodLink "MailAgentModel" (122 : Nat) ({ cls := "MailAgentModel", name := "remove", desc := "(I)V" } : MethodName)) ∈ jTG := jin_3 (i := 144) rfl rfl
theorem w_3_146 : (Cond.instanceMethod ({ cls := "MailAgentModel", name := "remove", desc := "(I)V" } : MethodName)) ∈ jTG := jin_3 (i := 146) rfl rfl
theorem w_3_147 : (Cond.code ({ cls := "MailAgentModel", name := "remove", desc := "(I)V" } : MethodName) prog_10_method_21_code (3 : Nat) (Option.none : Option FieldType)) ∈ jTG := jin_3 (i := 147) rfl rfl
theorem w_3_148 : (Cond.methodLink "MailAgentModel" (133 : Nat) ({ cls := "MailAgentModel", name := "close", desc := "()V" } : MethodName)) ∈ jTG := jin_3 (i := 148) rfl rfl
theorem w_3_150 : (Cond.instanceMethod ({ cls := "MailAgentModel", name := "close", desc := "()V" } : MethodName)) ∈ jTG := jin_3 (i := 150) rfl rfl
theorem w_3_151 : (Cond.code ({ cls := "MailAgentModel", name := "close", desc := "()V" } : MethodName) prog_10_method_22_code (1 : Nat) (Option.none : Option FieldType)) ∈ jTG := jin_3 (i := 151) rfl rfl
theorem w_3_152 : (Cond.methodLink "MailAgentLaw" (64 : Nat) ({ cls := "MailAgentModel", name := "sync", desc := "()I" } : MethodName)) ∈ jTG := jin_3 (i := 152) rfl rfl
theorem w_3_153 : (Cond.instanceMethod ({ cls := "MailAgentModel", name := "sync", desc := "()I" } : MethodName)) ∈ jTG := jin_3 (i := 153) rfl rfl
theorem w_3_154 : (Cond.selects "MailAgentModel" ({ cls := "MailAgentModel", name := "sync", desc := "()I" } : MethodName) ({ cls := "MailAgentModel", name := "sync", desc := "()I" } : MethodName)) ∈ jTG := jin_3 (i := 154) rfl rfl
theorem w_3_155 : (Cond.code ({ cls := "MailAgentModel", name := "sync", desc := "()I" } : MethodName) prog_10_method_24_code (1 : Nat) (Option.some FieldType.int)) ∈ jTG := jin_3 (i := 155) rfl rfl
theorem w_3_156 : (Cond.methodLink "MailAgentLaw" (68 : Nat) ({ cls := "MailAgentModel", name := "crash", desc := "()I" } : MethodName)) ∈ jTG := jin_3 (i := 156) rfl rfl
theorem w_3_157 : (Cond.instanceMethod ({ cls := "MailAgentModel", name := "crash", desc := "()I" } : MethodName)) ∈ jTG := jin_3 (i := 157) rfl rfl
theorem w_3_158 : (Cond.selects "MailAgentModel" ({ cls := "MailAgentModel", name := "crash", desc := "()I" } : MethodName) ({ cls := "MailAgentModel", name := "crash", desc := "()I" } : MethodName)) ∈ jTG := jin_3 (i := 158) rfl rfl
theorem w_3_159 : (Cond.code ({ cls := "MailAgentModel", name := "crash", desc := "()I" } : MethodName) prog_10_method_25_code (2 : Nat) (Option.some FieldType.int)) ∈ jTG := jin_3 (i := 159) rfl rfl
theorem w_3_160 : (Cond.methodLink "MailAgentLaw" (72 : Nat) ({ cls := "MailAgentModel", name := "drop", desc := "(I)I" } : MethodName)) ∈ jTG := jin_3 (i := 160) rfl rfl
theorem w_3_161 : (Cond.instanceMethod ({ cls := "MailAgentModel", name := "drop", desc := "(I)I" } : MethodName)) ∈ jTG := jin_3 (i := 161) rfl rfl
theorem w_3_162 : (Cond.selects "MailAgentModel" ({ cls := "MailAgentModel", name := "drop", desc := "(I)I" } : MethodName) ({ cls := "MailAgentModel", name := "drop", desc := "(I)I" } : MethodName)) ∈ jTG := jin_3 (i := 162) rfl rfl
theorem w_3_163 : (Cond.code ({ cls := "MailAgentModel", name := "drop", desc := "(I)I" } : MethodName) prog_10_method_27_code (3 : Nat) (Option.some FieldType.int)) ∈ jTG := jin_3 (i := 163) rfl rfl
theorem w_3_164 : (Cond.methodLink "MailAgentLaw" (76 : Nat) ({ cls := "MailAgentModel", name := "hurry", desc := "(I)I" } : MethodName)) ∈ jTG := jin_3 (i := 164) rfl rfl
theorem w_3_165 : (Cond.instanceMethod ({ cls := "MailAgentModel", name := "hurry", desc := "(I)I" } : MethodName)) ∈ jTG := jin_3 (i := 165) rfl rfl
theorem w_3_166 : (Cond.selects "MailAgentModel" ({ cls := "MailAgentModel", name := "hurry", desc := "(I)I" } : MethodName) ({ cls := "MailAgentModel", name := "hurry", desc := "(I)I" } : MethodName)) ∈ jTG := jin_3 (i := 166) rfl rfl
theorem w_3_167 : (Cond.code ({ cls := "MailAgentModel", name := "hurry", desc := "(I)I" } : MethodName) prog_10_method_28_code (3 : Nat) (Option.some FieldType.int)) ∈ jTG := jin_3 (i := 167) rfl rfl
theorem w_3_168 : (Cond.methodLink "MailAgentLaw" (80 : Nat) ({ cls := "MailAgentModel", name := "count", desc := "(I)I" } : MethodName)) ∈ jTG := jin_3 (i := 168) rfl rfl
theorem w_3_169 : (Cond.instanceMethod ({ cls := "MailAgentModel", name := "count", desc := "(I)I" } : MethodName)) ∈ jTG := jin_3 (i := 169) rfl rfl
theorem w_3_170 : (Cond.selects "MailAgentModel" ({ cls := "MailAgentModel", name := "count", desc := "(I)I" } : MethodName) ({ cls := "MailAgentModel", name := "count", desc := "(I)I" } : MethodName)) ∈ jTG := jin_3 (i := 170) rfl rfl
theorem w_3_171 : (Cond.code ({ cls := "MailAgentModel", name := "count", desc := "(I)I" } : MethodName) prog_10_method_29_code (4 : Nat) (Option.some FieldType.int)) ∈ jTG := jin_3 (i := 171) rfl rfl
theorem w_3_172 : (Cond.methodLink "MailAgentLaw" (84 : Nat) ({ cls := "MailAgentModel", name := "message", desc := "(I)I" } : MethodName)) ∈ jTG := jin_3 (i := 172) rfl rfl
theorem w_3_173 : (Cond.instanceMethod ({ cls := "MailAgentModel", name := "message", desc := "(I)I" } : MethodName)) ∈ jTG := jin_3 (i := 173) rfl rfl
theorem w_3_174 : (Cond.selects "MailAgentModel" ({ cls := "MailAgentModel", name := "message", desc := "(I)I" } : MethodName) ({ cls := "MailAgentModel", name := "message", desc := "(I)I" } : MethodName)) ∈ jTG := jin_3 (i := 174) rfl rfl
theorem w_3_175 : (Cond.code ({ cls := "MailAgentModel", name := "message", desc := "(I)I" } : MethodName) prog_10_method_30_code (2 : Nat) (Option.some FieldType.int)) ∈ jTG := jin_3 (i := 175) rfl rfl
theorem w_3_176 : (Cond.methodLink "MailAgentLaw" (88 : Nat) ({ cls := "MailAgentModel", name := "status", desc := "(II)I" } : MethodName)) ∈ jTG := jin_3 (i := 176) rfl rfl
theorem w_3_177 : (Cond.instanceMethod ({ cls := "MailAgentModel", name := "status", desc := "(II)I" } : MethodName)) ∈ jTG := jin_3 (i := 177) rfl rfl
theorem w_3_178 : (Cond.selects "MailAgentModel" ({ cls := "MailAgentModel", name := "status", desc := "(II)I" } : MethodName) ({ cls := "MailAgentModel", name := "status", desc := "(II)I" } : MethodName)) ∈ jTG := jin_3 (i := 178) rfl rfl
theorem w_3_179 : (Cond.code ({ cls := "MailAgentModel", name := "status", desc := "(II)I" } : MethodName) prog_10_method_31_code (5 : Nat) (Option.some FieldType.int)) ∈ jTG := jin_3 (i := 179) rfl rfl
theorem w_3_180 : (Cond.methodLink "MailAgentLaw" (92 : Nat) ({ cls := "MailAgentModel", name := "sender", desc := "(I)I" } : MethodName)) ∈ jTG := jin_3 (i := 180) rfl rfl
theorem w_3_181 : (Cond.instanceMethod ({ cls := "MailAgentModel", name := "sender", desc := "(I)I" } : MethodName)) ∈ jTG := jin_3 (i := 181) rfl rfl
theorem w_3_182 : (Cond.selects "MailAgentModel" ({ cls := "MailAgentModel", name := "sender", desc := "(I)I" } : MethodName) ({ cls := "MailAgentModel", name := "sender", desc := "(I)I" } : MethodName)) ∈ jTG := jin_3 (i := 182) rfl rfl
theorem w_3_183 : (Cond.code ({ cls := "MailAgentModel", name := "sender", desc := "(I)I" } : MethodName) prog_10_method_32_code (3 : Nat) (Option.some FieldType.int)) ∈ jTG := jin_3 (i := 183) rfl rfl
theorem w_3_184 : (Cond.methodLink "MailAgentLaw" (96 : Nat) ({ cls := "MailAgentModel", name := "due", desc := "(I)I" } : MethodName)) ∈ jTG := jin_3 (i := 184) rfl rfl
theorem w_3_185 : (Cond.instanceMethod ({ cls := "MailAgentModel", name := "due", desc := "(I)I" } : MethodName)) ∈ jTG := jin_3 (i := 185) rfl rfl
theorem w_3_186 : (Cond.selects "MailAgentModel" ({ cls := "MailAgentModel", name := "due", desc := "(I)I" } : MethodName) ({ cls := "MailAgentModel", name := "due", desc := "(I)I" } : MethodName)) ∈ jTG := jin_3 (i := 186) rfl rfl
theorem w_3_187 : (Cond.code ({ cls := "MailAgentModel", name := "due", desc := "(I)I" } : MethodName) prog_10_method_33_code (3 : Nat) (Option.some FieldType.int)) ∈ jTG := jin_3 (i := 187) rfl rfl
theorem w_3_188 : (Cond.methodLink "MailAgentLaw" (100 : Nat) ({ cls := "MailAgentModel", name := "received", desc := "(II)I" } : MethodName)) ∈ jTG := jin_3 (i := 188) rfl rfl
theorem w_3_189 : (Cond.instanceMethod ({ cls := "MailAgentModel", name := "received", desc := "(II)I" } : MethodName)) ∈ jTG := jin_3 (i := 189) rfl rfl
theorem w_3_190 : (Cond.selects "MailAgentModel" ({ cls := "MailAgentModel", name := "received", desc := "(II)I" } : MethodName) ({ cls := "MailAgentModel", name := "received", desc := "(II)I" } : MethodName)) ∈ jTG := jin_3 (i := 190) rfl rfl
theorem w_3_191 : (Cond.code ({ cls := "MailAgentModel", name := "received", desc := "(II)I" } : MethodName) prog_10_method_34_code (3 : Nat) (Option.some FieldType.int)) ∈ jTG := jin_3 (i := 191) rfl rfl
theorem w_s_0 : Cond.selects "MailAgent$Aliases" ⟨"MailAgent$Aliases", "reachedFrom", "(I)J"⟩ ⟨"MailAgent$Aliases", "reachedFrom", "(I)J"⟩ ∈ jTG := List.mem_filter.mpr ⟨List.mem_append_left _ (List.mem_map.mpr ⟨lw_privs[0], List.getElem_mem _, rfl⟩), rfl⟩
theorem w_s_1 : Cond.selects "MailAgent" ⟨"MailAgent", "makeDurable", "()V"⟩ ⟨"MailAgent", "makeDurable", "()V"⟩ ∈ jTG := List.mem_filter.mpr ⟨List.mem_append_left _ (List.mem_map.mpr ⟨lw_privs[1], List.getElem_mem _, rfl⟩), rfl⟩
theorem w_s_2 : Cond.selects "MailAgent" ⟨"MailAgent", "tryRecipients", "(LMailAgent$Message;)I"⟩ ⟨"MailAgent", "tryRecipients", "(LMailAgent$Message;)I"⟩ ∈ jTG := List.mem_filter.mpr ⟨List.mem_append_left _ (List.mem_map.mpr ⟨lw_privs[2], List.getElem_mem _, rfl⟩), rfl⟩
theorem w_s_3 : Cond.selects "MailAgent" ⟨"MailAgent", "carry", "(I)I"⟩ ⟨"MailAgent", "carry", "(I)I"⟩ ∈ jTG := List.mem_filter.mpr ⟨List.mem_append_left _ (List.mem_map.mpr ⟨lw_privs[3], List.getElem_mem _, rfl⟩), rfl⟩
theorem w_s_4 : Cond.selects "MailAgent" ⟨"MailAgent", "failOverdue", "(LMailAgent$Message;)V"⟩ ⟨"MailAgent", "failOverdue", "(LMailAgent$Message;)V"⟩ ∈ jTG := List.mem_filter.mpr ⟨List.mem_append_left _ (List.mem_map.mpr ⟨lw_privs[4], List.getElem_mem _, rfl⟩), rfl⟩
theorem w_s_5 : Cond.selects "MailAgent" ⟨"MailAgent", "settle", "(LMailAgent$Message;)Z"⟩ ⟨"MailAgent", "settle", "(LMailAgent$Message;)Z"⟩ ∈ jTG := List.mem_filter.mpr ⟨List.mem_append_left _ (List.mem_map.mpr ⟨lw_privs[5], List.getElem_mem _, rfl⟩), rfl⟩
theorem w_s_6 : Cond.selects "MailAgent" ⟨"MailAgent", "keepChangesFew", "()V"⟩ ⟨"MailAgent", "keepChangesFew", "()V"⟩ ∈ jTG := List.mem_filter.mpr ⟨List.mem_append_left _ (List.mem_map.mpr ⟨lw_privs[6], List.getElem_mem _, rfl⟩), rfl⟩
theorem w_s_7 : Cond.selects "MailAgentModel" ⟨"MailAgentModel", "reached", "(I)J"⟩ ⟨"MailAgentModel", "reached", "(I)J"⟩ ∈ jTG := List.mem_filter.mpr ⟨List.mem_append_left _ (List.mem_map.mpr ⟨lw_privs[7], List.getElem_mem _, rfl⟩), rfl⟩
theorem w_s_8 : Cond.selects "MailAgentModel" ⟨"MailAgentModel", "named", "(I)Z"⟩ ⟨"MailAgentModel", "named", "(I)Z"⟩ ∈ jTG := List.mem_filter.mpr ⟨List.mem_append_left _ (List.mem_map.mpr ⟨lw_privs[8], List.getElem_mem _, rfl⟩), rfl⟩
theorem w_s_9 : Cond.selects "MailAgentModel" ⟨"MailAgentModel", "costs", "()I"⟩ ⟨"MailAgentModel", "costs", "()I"⟩ ∈ jTG := List.mem_filter.mpr ⟨List.mem_append_left _ (List.mem_map.mpr ⟨lw_privs[9], List.getElem_mem _, rfl⟩), rfl⟩
theorem w_s_10 : Cond.selects "MailAgentModel" ⟨"MailAgentModel", "settle", "()I"⟩ ⟨"MailAgentModel", "settle", "()I"⟩ ∈ jTG := List.mem_filter.mpr ⟨List.mem_append_left _ (List.mem_map.mpr ⟨lw_privs[10], List.getElem_mem _, rfl⟩), rfl⟩
theorem w_s_11 : Cond.selects "MailAgentModel" ⟨"MailAgentModel", "find", "(I)I"⟩ ⟨"MailAgentModel", "find", "(I)I"⟩ ∈ jTG := List.mem_filter.mpr ⟨List.mem_append_left _ (List.mem_map.mpr ⟨lw_privs[11], List.getElem_mem _, rfl⟩), rfl⟩
theorem w_s_12 : Cond.selects "MailAgentModel" ⟨"MailAgentModel", "attempt", "(I)I"⟩ ⟨"MailAgentModel", "attempt", "(I)I"⟩ ∈ jTG := List.mem_filter.mpr ⟨List.mem_append_left _ (List.mem_map.mpr ⟨lw_privs[12], List.getElem_mem _, rfl⟩), rfl⟩
theorem w_s_13 : Cond.selects "MailAgentModel" ⟨"MailAgentModel", "carrier", "(I)I"⟩ ⟨"MailAgentModel", "carrier", "(I)I"⟩ ∈ jTG := List.mem_filter.mpr ⟨List.mem_append_left _ (List.mem_map.mpr ⟨lw_privs[13], List.getElem_mem _, rfl⟩), rfl⟩
theorem w_s_14 : Cond.selects "MailAgentModel" ⟨"MailAgentModel", "mark", "(II)V"⟩ ⟨"MailAgentModel", "mark", "(II)V"⟩ ∈ jTG := List.mem_filter.mpr ⟨List.mem_append_left _ (List.mem_map.mpr ⟨lw_privs[14], List.getElem_mem _, rfl⟩), rfl⟩
theorem w_s_15 : Cond.selects "MailAgentModel" ⟨"MailAgentModel", "deliver", "(II)V"⟩ ⟨"MailAgentModel", "deliver", "(II)V"⟩ ∈ jTG := List.mem_filter.mpr ⟨List.mem_append_left _ (List.mem_map.mpr ⟨lw_privs[15], List.getElem_mem _, rfl⟩), rfl⟩
theorem w_s_16 : Cond.selects "MailAgentModel" ⟨"MailAgentModel", "states", "(II)I"⟩ ⟨"MailAgentModel", "states", "(II)I"⟩ ∈ jTG := List.mem_filter.mpr ⟨List.mem_append_left _ (List.mem_map.mpr ⟨lw_privs[16], List.getElem_mem _, rfl⟩), rfl⟩
theorem w_s_17 : Cond.selects "MailAgentModel" ⟨"MailAgentModel", "remove", "(I)V"⟩ ⟨"MailAgentModel", "remove", "(I)V"⟩ ∈ jTG := List.mem_filter.mpr ⟨List.mem_append_left _ (List.mem_map.mpr ⟨lw_privs[17], List.getElem_mem _, rfl⟩), rfl⟩
theorem w_s_18 : Cond.selects "MailAgentModel" ⟨"MailAgentModel", "close", "()V"⟩ ⟨"MailAgentModel", "close", "()V"⟩ ∈ jTG := List.mem_filter.mpr ⟨List.mem_append_left _ (List.mem_map.mpr ⟨lw_privs[18], List.getElem_mem _, rfl⟩), rfl⟩
