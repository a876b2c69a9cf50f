/-! facts of the tables: written by a short program -/
theorem li_15 : lwI (.methodLink "PlayReader" 1 ⟨"java/lang/Object", "<init>", "()V"⟩) := ⟨List.mem_append_right _ (List.mem_of_getElem? (i := 15) (by decide +kernel)), rfl⟩
theorem li_16 : lwI (.instanceMethod ⟨"java/lang/Object", "<init>", "()V"⟩) := ⟨List.mem_append_right _ (List.mem_of_getElem? (i := 16) (by decide +kernel)), rfl⟩
theorem li_17 : lwI (.code ⟨"java/lang/Object", "<init>", "()V"⟩ object_method_1_code 1 none) := ⟨List.mem_append_right _ (List.mem_of_getElem? (i := 17) (by decide +kernel)), rfl⟩
theorem li_18 : lwI (.classLink "PlayReader" 9 "PlayReader$Row") := ⟨List.mem_append_right _ (List.mem_of_getElem? (i := 18) (by decide +kernel)), rfl⟩
theorem li_72 : lwI (.fieldLink "PlayReader" 11 "PlayReader" "versions" "[LPlayReader$Row;") := ⟨List.mem_append_right _ (List.mem_of_getElem? (i := 72) (by decide +kernel)), rfl⟩
theorem li_73 : lwI (.fieldLink "PlayReader" 15 "PlayReader" "performances" "[LPlayReader$Row;") := ⟨List.mem_append_right _ (List.mem_of_getElem? (i := 73) (by decide +kernel)), rfl⟩
theorem li_20 : lwI (.classLink "PlayReader" 18 "PlayReader$Condition") := ⟨List.mem_append_right _ (List.mem_of_getElem? (i := 20) (by decide +kernel)), rfl⟩
theorem li_74 : lwI (.fieldLink "PlayReader" 20 "PlayReader" "conditions" "[LPlayReader$Condition;") := ⟨List.mem_append_right _ (List.mem_of_getElem? (i := 74) (by decide +kernel)), rfl⟩
theorem li_22 : lwI (.classLink "PlayReader" 24 "PlayReader$Rule") := ⟨List.mem_append_right _ (List.mem_of_getElem? (i := 22) (by decide +kernel)), rfl⟩
theorem li_75 : lwI (.fieldLink "PlayReader" 26 "PlayReader" "rules" "[LPlayReader$Rule;") := ⟨List.mem_append_right _ (List.mem_of_getElem? (i := 75) (by decide +kernel)), rfl⟩
theorem li_36 : lwI (.arrayClass .int) := ⟨List.mem_append_right _ (List.mem_of_getElem? (i := 36) (by decide +kernel)), rfl⟩
theorem li_76 : lwI (.fieldLink "PlayReader" 30 "PlayReader" "marks" "[I") := ⟨List.mem_append_right _ (List.mem_of_getElem? (i := 76) (by decide +kernel)), rfl⟩
theorem li_24 : lwI (.classLink "PlayReader" 34 "PlayReader$Changes") := ⟨List.mem_append_right _ (List.mem_of_getElem? (i := 24) (by decide +kernel)), rfl⟩
theorem li_25 : lwI (.instantiable "PlayReader$Changes" 1) := ⟨List.mem_append_right _ (List.mem_of_getElem? (i := 25) (by decide +kernel)), rfl⟩
theorem li_2 : lwI (.initialized "PlayReader$Changes") := ⟨List.mem_append_right _ (List.mem_of_getElem? (i := 2) (by decide +kernel)), rfl⟩
theorem li_28 : lwI (.code ⟨"PlayReader$Changes", "<init>", "()V"⟩ prog_2_method_1_code 1 none) := ⟨List.mem_append_right _ (List.mem_of_getElem? (i := 28) (by decide +kernel)), rfl⟩
theorem li_27 : lwI (.instanceMethod ⟨"PlayReader$Changes", "<init>", "()V"⟩) := ⟨List.mem_append_right _ (List.mem_of_getElem? (i := 27) (by decide +kernel)), rfl⟩
theorem li_77 : lwI (.fieldLink "PlayReader" 37 "PlayReader" "changes" "LPlayReader$Changes;") := ⟨List.mem_append_right _ (List.mem_of_getElem? (i := 77) (by decide +kernel)), rfl⟩
theorem li_37 : lwI (.classLink "PlayReader" 41 "PlayReader$TourPlan") := ⟨List.mem_append_right _ (List.mem_of_getElem? (i := 37) (by decide +kernel)), rfl⟩
theorem li_38 : lwI (.instantiable "PlayReader$TourPlan" 3) := ⟨List.mem_append_right _ (List.mem_of_getElem? (i := 38) (by decide +kernel)), rfl⟩
theorem li_3 : lwI (.initialized "PlayReader$TourPlan") := ⟨List.mem_append_right _ (List.mem_of_getElem? (i := 3) (by decide +kernel)), rfl⟩
theorem li_41 : lwI (.code ⟨"PlayReader$TourPlan", "<init>", "()V"⟩ prog_6_method_1_code 1 none) := ⟨List.mem_append_right _ (List.mem_of_getElem? (i := 41) (by decide +kernel)), rfl⟩
theorem li_40 : lwI (.instanceMethod ⟨"PlayReader$TourPlan", "<init>", "()V"⟩) := ⟨List.mem_append_right _ (List.mem_of_getElem? (i := 40) (by decide +kernel)), rfl⟩
theorem li_78 : lwI (.fieldLink "PlayReader" 44 "PlayReader" "latestTour" "LPlayReader$TourPlan;") := ⟨List.mem_append_right _ (List.mem_of_getElem? (i := 78) (by decide +kernel)), rfl⟩
theorem li_44 : lwI (.instantiable "PlayReader$Row" 2) := ⟨List.mem_append_right _ (List.mem_of_getElem? (i := 44) (by decide +kernel)), rfl⟩
theorem li_4 : lwI (.initialized "PlayReader$Row") := ⟨List.mem_append_right _ (List.mem_of_getElem? (i := 4) (by decide +kernel)), rfl⟩
theorem li_47 : lwI (.code ⟨"PlayReader$Row", "<init>", "()V"⟩ prog_4_method_1_code 1 none) := ⟨List.mem_append_right _ (List.mem_of_getElem? (i := 47) (by decide +kernel)), rfl⟩
theorem li_46 : lwI (.instanceMethod ⟨"PlayReader$Row", "<init>", "()V"⟩) := ⟨List.mem_append_right _ (List.mem_of_getElem? (i := 46) (by decide +kernel)), rfl⟩
theorem li_79 : lwI (.fieldLink "PlayReader" 49 "PlayReader" "twoEars" "LPlayReader$Row;") := ⟨List.mem_append_right _ (List.mem_of_getElem? (i := 79) (by decide +kernel)), rfl⟩
theorem li_80 : lwI (.fieldLink "PlayReader" 53 "PlayReader" "conditionCount" "I") := ⟨List.mem_append_right _ (List.mem_of_getElem? (i := 80) (by decide +kernel)), rfl⟩
theorem li_81 : lwI (.fieldLink "PlayReader" 57 "PlayReader" "ruleCount" "I") := ⟨List.mem_append_right _ (List.mem_of_getElem? (i := 81) (by decide +kernel)), rfl⟩
theorem li_29 : lwI (.methodLink "PlayReader$Changes" 3 ⟨"java/lang/Object", "<init>", "()V"⟩) := ⟨List.mem_append_right _ (List.mem_of_getElem? (i := 29) (by decide +kernel)), rfl⟩
theorem li_30 : lwI (.classLink "PlayReader$Changes" 9 "[[I") := ⟨List.mem_append_right _ (List.mem_of_getElem? (i := 30) (by decide +kernel)), rfl⟩
theorem li_32 : lwI (.fieldLink "PlayReader$Changes" 11 "PlayReader$Changes" "left" "[[I") := ⟨List.mem_append_right _ (List.mem_of_getElem? (i := 32) (by decide +kernel)), rfl⟩
theorem li_42 : lwI (.methodLink "PlayReader$TourPlan" 3 ⟨"java/lang/Object", "<init>", "()V"⟩) := ⟨List.mem_append_right _ (List.mem_of_getElem? (i := 42) (by decide +kernel)), rfl⟩
theorem li_43 : lwI (.classLink "PlayReader$TourPlan" 9 "PlayReader$Row") := ⟨List.mem_append_right _ (List.mem_of_getElem? (i := 43) (by decide +kernel)), rfl⟩
theorem li_60 : lwI (.fieldLink "PlayReader$TourPlan" 12 "PlayReader$TourPlan" "order" "LPlayReader$Row;") := ⟨List.mem_append_right _ (List.mem_of_getElem? (i := 60) (by decide +kernel)), rfl⟩
theorem li_59 : lwI (.classLink "PlayReader$TourPlan" 18 "[[I") := ⟨List.mem_append_right _ (List.mem_of_getElem? (i := 59) (by decide +kernel)), rfl⟩
theorem li_62 : lwI (.fieldLink "PlayReader$TourPlan" 20 "PlayReader$TourPlan" "cuts" "[[I") := ⟨List.mem_append_right _ (List.mem_of_getElem? (i := 62) (by decide +kernel)), rfl⟩
theorem li_63 : lwI (.fieldLink "PlayReader$TourPlan" 23 "PlayReader$TourPlan" "fewest" "[I") := ⟨List.mem_append_right _ (List.mem_of_getElem? (i := 63) (by decide +kernel)), rfl⟩
theorem li_48 : lwI (.methodLink "PlayReader$Row" 3 ⟨"java/lang/Object", "<init>", "()V"⟩) := ⟨List.mem_append_right _ (List.mem_of_getElem? (i := 48) (by decide +kernel)), rfl⟩
theorem li_49 : lwI (.fieldLink "PlayReader$Row" 9 "PlayReader$Row" "things" "[I") := ⟨List.mem_append_right _ (List.mem_of_getElem? (i := 49) (by decide +kernel)), rfl⟩
theorem li_50 : lwI (.fieldLink "PlayReader$Row" 15 "PlayReader$Row" "size" "I") := ⟨List.mem_append_right _ (List.mem_of_getElem? (i := 50) (by decide +kernel)), rfl⟩
theorem li_109 : lwI (.code ⟨"PlayReader", "rowOf", "([LPlayReader$Row;I)LPlayReader$Row;"⟩ prog_1_method_31_code 2 (some (.object "PlayReader$Row"))) := ⟨List.mem_append_right _ (List.mem_of_getElem? (i := 109) (by decide +kernel)), rfl⟩
theorem li_1 : lwI (.initialized "PlayReader") := ⟨List.mem_append_right _ (List.mem_of_getElem? (i := 1) (by decide +kernel)), rfl⟩
theorem li_107 : lwI (.methodLink "PlayReader" 60 ⟨"PlayReader", "rowOf", "([LPlayReader$Row;I)LPlayReader$Row;"⟩) := ⟨List.mem_append_right _ (List.mem_of_getElem? (i := 107) (by decide +kernel)), rfl⟩
theorem li_108 : lwI (.static ⟨"PlayReader", "rowOf", "([LPlayReader$Row;I)LPlayReader$Row;"⟩) := ⟨List.mem_append_right _ (List.mem_of_getElem? (i := 108) (by decide +kernel)), rfl⟩
theorem li_52 : lwI (.fieldLink "PlayReader" 64 "PlayReader$Row" "size" "I") := ⟨List.mem_append_right _ (List.mem_of_getElem? (i := 52) (by decide +kernel)), rfl⟩
theorem li_112 : lwI (.code ⟨"PlayReader", "isLine", "(I)Z"⟩ prog_1_method_27_code 1 (some .boolean)) := ⟨List.mem_append_right _ (List.mem_of_getElem? (i := 112) (by decide +kernel)), rfl⟩
theorem li_110 : lwI (.methodLink "PlayReader" 67 ⟨"PlayReader", "isLine", "(I)Z"⟩) := ⟨List.mem_append_right _ (List.mem_of_getElem? (i := 110) (by decide +kernel)), rfl⟩
theorem li_111 : lwI (.static ⟨"PlayReader", "isLine", "(I)Z"⟩) := ⟨List.mem_append_right _ (List.mem_of_getElem? (i := 111) (by decide +kernel)), rfl⟩
theorem li_116 : lwI (.code ⟨"PlayReader$Row", "isFull", "()Z"⟩ prog_4_method_4_code 1 (some .boolean)) := ⟨List.mem_append_right _ (List.mem_of_getElem? (i := 116) (by decide +kernel)), rfl⟩
theorem li_113 : lwI (.methodLink "PlayReader" 71 ⟨"PlayReader$Row", "isFull", "()Z"⟩) := ⟨List.mem_append_right _ (List.mem_of_getElem? (i := 113) (by decide +kernel)), rfl⟩
theorem li_114 : lwI (.instanceMethod ⟨"PlayReader$Row", "isFull", "()Z"⟩) := ⟨List.mem_append_right _ (List.mem_of_getElem? (i := 114) (by decide +kernel)), rfl⟩
theorem li_115 : lwI (.selects "PlayReader$Row" ⟨"PlayReader$Row", "isFull", "()Z"⟩ ⟨"PlayReader$Row", "isFull", "()Z"⟩) := ⟨List.mem_append_right _ (List.mem_of_getElem? (i := 115) (by decide +kernel)), rfl⟩
theorem li_120 : lwI (.code ⟨"PlayReader$Row", "insert", "(II)V"⟩ prog_4_method_5_code 4 none) := ⟨List.mem_append_right _ (List.mem_of_getElem? (i := 120) (by decide +kernel)), rfl⟩
theorem li_117 : lwI (.methodLink "PlayReader" 75 ⟨"PlayReader$Row", "insert", "(II)V"⟩) := ⟨List.mem_append_right _ (List.mem_of_getElem? (i := 117) (by decide +kernel)), rfl⟩
theorem li_118 : lwI (.instanceMethod ⟨"PlayReader$Row", "insert", "(II)V"⟩) := ⟨List.mem_append_right _ (List.mem_of_getElem? (i := 118) (by decide +kernel)), rfl⟩
theorem li_119 : lwI (.selects "PlayReader$Row" ⟨"PlayReader$Row", "insert", "(II)V"⟩ ⟨"PlayReader$Row", "insert", "(II)V"⟩) := ⟨List.mem_append_right _ (List.mem_of_getElem? (i := 119) (by decide +kernel)), rfl⟩
theorem li_121 : lwI (.methodLink "PlayReader$Row" 23 ⟨"PlayReader$Row", "isFull", "()Z"⟩) := ⟨List.mem_append_right _ (List.mem_of_getElem? (i := 121) (by decide +kernel)), rfl⟩
theorem li_129 : lwI (.code ⟨"PlayReader$Row", "has", "(I)Z"⟩ prog_4_method_2_code 2 (some .boolean)) := ⟨List.mem_append_right _ (List.mem_of_getElem? (i := 129) (by decide +kernel)), rfl⟩
theorem li_126 : lwI (.methodLink "PlayReader" 79 ⟨"PlayReader$Row", "has", "(I)Z"⟩) := ⟨List.mem_append_right _ (List.mem_of_getElem? (i := 126) (by decide +kernel)), rfl⟩
theorem li_127 : lwI (.instanceMethod ⟨"PlayReader$Row", "has", "(I)Z"⟩) := ⟨List.mem_append_right _ (List.mem_of_getElem? (i := 127) (by decide +kernel)), rfl⟩
theorem li_128 : lwI (.selects "PlayReader$Row" ⟨"PlayReader$Row", "has", "(I)Z"⟩ ⟨"PlayReader$Row", "has", "(I)Z"⟩) := ⟨List.mem_append_right _ (List.mem_of_getElem? (i := 128) (by decide +kernel)), rfl⟩
theorem li_133 : lwI (.code ⟨"PlayReader$Row", "at", "(I)I"⟩ prog_4_method_3_code 2 (some .int)) := ⟨List.mem_append_right _ (List.mem_of_getElem? (i := 133) (by decide +kernel)), rfl⟩
theorem li_130 : lwI (.methodLink "PlayReader" 82 ⟨"PlayReader$Row", "at", "(I)I"⟩) := ⟨List.mem_append_right _ (List.mem_of_getElem? (i := 130) (by decide +kernel)), rfl⟩
theorem li_131 : lwI (.instanceMethod ⟨"PlayReader$Row", "at", "(I)I"⟩) := ⟨List.mem_append_right _ (List.mem_of_getElem? (i := 131) (by decide +kernel)), rfl⟩
theorem li_132 : lwI (.selects "PlayReader$Row" ⟨"PlayReader$Row", "at", "(I)I"⟩ ⟨"PlayReader$Row", "at", "(I)I"⟩) := ⟨List.mem_append_right _ (List.mem_of_getElem? (i := 132) (by decide +kernel)), rfl⟩
theorem li_138 : lwI (.code ⟨"PlayReader$Row", "remove", "(I)V"⟩ prog_4_method_6_code 3 none) := ⟨List.mem_append_right _ (List.mem_of_getElem? (i := 138) (by decide +kernel)), rfl⟩
theorem li_135 : lwI (.methodLink "PlayReader" 86 ⟨"PlayReader$Row", "remove", "(I)V"⟩) := ⟨List.mem_append_right _ (List.mem_of_getElem? (i := 135) (by decide +kernel)), rfl⟩
theorem li_136 : lwI (.instanceMethod ⟨"PlayReader$Row", "remove", "(I)V"⟩) := ⟨List.mem_append_right _ (List.mem_of_getElem? (i := 136) (by decide +kernel)), rfl⟩
theorem li_137 : lwI (.selects "PlayReader$Row" ⟨"PlayReader$Row", "remove", "(I)V"⟩ ⟨"PlayReader$Row", "remove", "(I)V"⟩) := ⟨List.mem_append_right _ (List.mem_of_getElem? (i := 137) (by decide +kernel)), rfl⟩
theorem li_134 : lwI (.methodLink "PlayReader$Row" 19 ⟨"PlayReader$Row", "has", "(I)Z"⟩) := ⟨List.mem_append_right _ (List.mem_of_getElem? (i := 134) (by decide +kernel)), rfl⟩
theorem li_146 : lwI (.code ⟨"PlayReader$Row", "become", "(LPlayReader$Row;)V"⟩ prog_4_method_8_code 3 none) := ⟨List.mem_append_right _ (List.mem_of_getElem? (i := 146) (by decide +kernel)), rfl⟩
theorem li_143 : lwI (.methodLink "PlayReader" 90 ⟨"PlayReader$Row", "become", "(LPlayReader$Row;)V"⟩) := ⟨List.mem_append_right _ (List.mem_of_getElem? (i := 143) (by decide +kernel)), rfl⟩
theorem li_144 : lwI (.instanceMethod ⟨"PlayReader$Row", "become", "(LPlayReader$Row;)V"⟩) := ⟨List.mem_append_right _ (List.mem_of_getElem? (i := 144) (by decide +kernel)), rfl⟩
theorem li_145 : lwI (.selects "PlayReader$Row" ⟨"PlayReader$Row", "become", "(LPlayReader$Row;)V"⟩ ⟨"PlayReader$Row", "become", "(LPlayReader$Row;)V"⟩) := ⟨List.mem_append_right _ (List.mem_of_getElem? (i := 145) (by decide +kernel)), rfl⟩
theorem li_147 : lwI (.methodLink "PlayReader$Row" 27 ⟨"PlayReader$Row", "at", "(I)I"⟩) := ⟨List.mem_append_right _ (List.mem_of_getElem? (i := 147) (by decide +kernel)), rfl⟩
theorem li_159 : lwI (.code ⟨"PlayReader$Changes", "compare", "(LPlayReader$Row;LPlayReader$Row;)V"⟩ prog_2_method_2_code 5 none) := ⟨List.mem_append_right _ (List.mem_of_getElem? (i := 159) (by decide +kernel)), rfl⟩
theorem li_156 : lwI (.methodLink "PlayReader" 94 ⟨"PlayReader$Changes", "compare", "(LPlayReader$Row;LPlayReader$Row;)V"⟩) := ⟨List.mem_append_right _ (List.mem_of_getElem? (i := 156) (by decide +kernel)), rfl⟩
theorem li_157 : lwI (.instanceMethod ⟨"PlayReader$Changes", "compare", "(LPlayReader$Row;LPlayReader$Row;)V"⟩) := ⟨List.mem_append_right _ (List.mem_of_getElem? (i := 157) (by decide +kernel)), rfl⟩
theorem li_158 : lwI (.selects "PlayReader$Changes" ⟨"PlayReader$Changes", "compare", "(LPlayReader$Row;LPlayReader$Row;)V"⟩ ⟨"PlayReader$Changes", "compare", "(LPlayReader$Row;LPlayReader$Row;)V"⟩) := ⟨List.mem_append_right _ (List.mem_of_getElem? (i := 158) (by decide +kernel)), rfl⟩
theorem li_176 : lwI (.code ⟨"PlayReader$Changes", "difference", "()I"⟩ prog_2_method_3_code 1 (some .int)) := ⟨List.mem_append_right _ (List.mem_of_getElem? (i := 176) (by decide +kernel)), rfl⟩
theorem li_173 : lwI (.methodLink "PlayReader" 98 ⟨"PlayReader$Changes", "difference", "()I"⟩) := ⟨List.mem_append_right _ (List.mem_of_getElem? (i := 173) (by decide +kernel)), rfl⟩
theorem li_174 : lwI (.instanceMethod ⟨"PlayReader$Changes", "difference", "()I"⟩) := ⟨List.mem_append_right _ (List.mem_of_getElem? (i := 174) (by decide +kernel)), rfl⟩
theorem li_175 : lwI (.selects "PlayReader$Changes" ⟨"PlayReader$Changes", "difference", "()I"⟩ ⟨"PlayReader$Changes", "difference", "()I"⟩) := ⟨List.mem_append_right _ (List.mem_of_getElem? (i := 175) (by decide +kernel)), rfl⟩
theorem li_51 : lwI (.fieldLink "PlayReader$Changes" 16 "PlayReader$Row" "size" "I") := ⟨List.mem_append_right _ (List.mem_of_getElem? (i := 51) (by decide +kernel)), rfl⟩
theorem li_160 : lwI (.methodLink "PlayReader$Changes" 22 ⟨"java/lang/Math", "min", "(II)I"⟩) := ⟨List.mem_append_right _ (List.mem_of_getElem? (i := 160) (by decide +kernel)), rfl⟩
theorem li_161 : lwI (.static ⟨"java/lang/Math", "min", "(II)I"⟩) := ⟨List.mem_append_right _ (List.mem_of_getElem? (i := 161) (by decide +kernel)), rfl⟩
theorem li_6 : lwI (.initialized "java/lang/Math") := ⟨List.mem_append_right _ (List.mem_of_getElem? (i := 6) (by decide +kernel)), rfl⟩
theorem li_162 : lwI (.code ⟨"java/lang/Math", "min", "(II)I"⟩ prog_10_method_69_code 2 (some .int)) := ⟨List.mem_append_right _ (List.mem_of_getElem? (i := 162) (by decide +kernel)), rfl⟩
theorem li_166 : lwI (.code ⟨"PlayReader$Changes", "differenceFrom", "(LPlayReader$Row;ILPlayReader$Row;I)I"⟩ prog_2_method_5_code 5 (some .int)) := ⟨List.mem_append_right _ (List.mem_of_getElem? (i := 166) (by decide +kernel)), rfl⟩
theorem li_163 : lwI (.methodLink "PlayReader$Changes" 28 ⟨"PlayReader$Changes", "differenceFrom", "(LPlayReader$Row;ILPlayReader$Row;I)I"⟩) := ⟨List.mem_append_right _ (List.mem_of_getElem? (i := 163) (by decide +kernel)), rfl⟩
theorem li_164 : lwI (.instanceMethod ⟨"PlayReader$Changes", "differenceFrom", "(LPlayReader$Row;ILPlayReader$Row;I)I"⟩) := ⟨List.mem_append_right _ (List.mem_of_getElem? (i := 164) (by decide +kernel)), rfl⟩
theorem li_165 : lwI (.selects "PlayReader$Changes" ⟨"PlayReader$Changes", "differenceFrom", "(LPlayReader$Row;ILPlayReader$Row;I)I"⟩ ⟨"PlayReader$Changes", "differenceFrom", "(LPlayReader$Row;ILPlayReader$Row;I)I"⟩) := ⟨List.mem_append_right _ (List.mem_of_getElem? (i := 165) (by decide +kernel)), rfl⟩
theorem li_167 : lwI (.methodLink "PlayReader$Changes" 35 ⟨"PlayReader$Row", "has", "(I)Z"⟩) := ⟨List.mem_append_right _ (List.mem_of_getElem? (i := 167) (by decide +kernel)), rfl⟩
theorem li_168 : lwI (.methodLink "PlayReader$Changes" 39 ⟨"PlayReader$Row", "at", "(I)I"⟩) := ⟨List.mem_append_right _ (List.mem_of_getElem? (i := 168) (by decide +kernel)), rfl⟩
theorem li_172 : lwI (.code ⟨"PlayReader$Changes", "leftFrom", "(II)I"⟩ prog_2_method_4_code 3 (some .int)) := ⟨List.mem_append_right _ (List.mem_of_getElem? (i := 172) (by decide +kernel)), rfl⟩
theorem li_169 : lwI (.methodLink "PlayReader$Changes" 32 ⟨"PlayReader$Changes", "leftFrom", "(II)I"⟩) := ⟨List.mem_append_right _ (List.mem_of_getElem? (i := 169) (by decide +kernel)), rfl⟩
theorem li_170 : lwI (.instanceMethod ⟨"PlayReader$Changes", "leftFrom", "(II)I"⟩) := ⟨List.mem_append_right _ (List.mem_of_getElem? (i := 170) (by decide +kernel)), rfl⟩
theorem li_171 : lwI (.selects "PlayReader$Changes" ⟨"PlayReader$Changes", "leftFrom", "(II)I"⟩ ⟨"PlayReader$Changes", "leftFrom", "(II)I"⟩) := ⟨List.mem_append_right _ (List.mem_of_getElem? (i := 171) (by decide +kernel)), rfl⟩
theorem li_184 : lwI (.code ⟨"PlayReader$Changes", "stepAt", "(LPlayReader$Row;LPlayReader$Row;I)I"⟩ prog_2_method_6_code 8 (some .int)) := ⟨List.mem_append_right _ (List.mem_of_getElem? (i := 184) (by decide +kernel)), rfl⟩
theorem li_181 : lwI (.methodLink "PlayReader" 102 ⟨"PlayReader$Changes", "stepAt", "(LPlayReader$Row;LPlayReader$Row;I)I"⟩) := ⟨List.mem_append_right _ (List.mem_of_getElem? (i := 181) (by decide +kernel)), rfl⟩
theorem li_182 : lwI (.instanceMethod ⟨"PlayReader$Changes", "stepAt", "(LPlayReader$Row;LPlayReader$Row;I)I"⟩) := ⟨List.mem_append_right _ (List.mem_of_getElem? (i := 182) (by decide +kernel)), rfl⟩
theorem li_183 : lwI (.selects "PlayReader$Changes" ⟨"PlayReader$Changes", "stepAt", "(LPlayReader$Row;LPlayReader$Row;I)I"⟩ ⟨"PlayReader$Changes", "stepAt", "(LPlayReader$Row;LPlayReader$Row;I)I"⟩) := ⟨List.mem_append_right _ (List.mem_of_getElem? (i := 183) (by decide +kernel)), rfl⟩
theorem li_188 : lwI (.code ⟨"PlayReader$Changes", "stepFrom", "(LPlayReader$Row;ILPlayReader$Row;I)I"⟩ prog_2_method_7_code 6 (some .int)) := ⟨List.mem_append_right _ (List.mem_of_getElem? (i := 188) (by decide +kernel)), rfl⟩
theorem li_185 : lwI (.methodLink "PlayReader$Changes" 43 ⟨"PlayReader$Changes", "stepFrom", "(LPlayReader$Row;ILPlayReader$Row;I)I"⟩) := ⟨List.mem_append_right _ (List.mem_of_getElem? (i := 185) (by decide +kernel)), rfl⟩
theorem li_186 : lwI (.instanceMethod ⟨"PlayReader$Changes", "stepFrom", "(LPlayReader$Row;ILPlayReader$Row;I)I"⟩) := ⟨List.mem_append_right _ (List.mem_of_getElem? (i := 186) (by decide +kernel)), rfl⟩
theorem li_187 : lwI (.selects "PlayReader$Changes" ⟨"PlayReader$Changes", "stepFrom", "(LPlayReader$Row;ILPlayReader$Row;I)I"⟩ ⟨"PlayReader$Changes", "stepFrom", "(LPlayReader$Row;ILPlayReader$Row;I)I"⟩) := ⟨List.mem_append_right _ (List.mem_of_getElem? (i := 187) (by decide +kernel)), rfl⟩
theorem li_193 : lwI (.instantiable "PlayReader$Condition" 3) := ⟨List.mem_append_right _ (List.mem_of_getElem? (i := 193) (by decide +kernel)), rfl⟩
theorem li_7 : lwI (.initialized "PlayReader$Condition") := ⟨List.mem_append_right _ (List.mem_of_getElem? (i := 7) (by decide +kernel)), rfl⟩
theorem li_196 : lwI (.code ⟨"PlayReader$Condition", "<init>", "(III)V"⟩ prog_3_method_1_code 4 none) := ⟨List.mem_append_right _ (List.mem_of_getElem? (i := 196) (by decide +kernel)), rfl⟩
theorem li_194 : lwI (.methodLink "PlayReader" 106 ⟨"PlayReader$Condition", "<init>", "(III)V"⟩) := ⟨List.mem_append_right _ (List.mem_of_getElem? (i := 194) (by decide +kernel)), rfl⟩
theorem li_195 : lwI (.instanceMethod ⟨"PlayReader$Condition", "<init>", "(III)V"⟩) := ⟨List.mem_append_right _ (List.mem_of_getElem? (i := 195) (by decide +kernel)), rfl⟩
theorem li_197 : lwI (.methodLink "PlayReader$Condition" 3 ⟨"java/lang/Object", "<init>", "()V"⟩) := ⟨List.mem_append_right _ (List.mem_of_getElem? (i := 197) (by decide +kernel)), rfl⟩
theorem li_198 : lwI (.fieldLink "PlayReader$Condition" 9 "PlayReader$Condition" "sort" "I") := ⟨List.mem_append_right _ (List.mem_of_getElem? (i := 198) (by decide +kernel)), rfl⟩
theorem li_200 : lwI (.fieldLink "PlayReader$Condition" 15 "PlayReader$Condition" "x" "I") := ⟨List.mem_append_right _ (List.mem_of_getElem? (i := 200) (by decide +kernel)), rfl⟩
theorem li_202 : lwI (.fieldLink "PlayReader$Condition" 18 "PlayReader$Condition" "y" "I") := ⟨List.mem_append_right _ (List.mem_of_getElem? (i := 202) (by decide +kernel)), rfl⟩
theorem li_222 : lwI (.code ⟨"PlayReader", "conditionOf", "(I)LPlayReader$Condition;"⟩ prog_1_method_32_code 2 (some (.object "PlayReader$Condition"))) := ⟨List.mem_append_right _ (List.mem_of_getElem? (i := 222) (by decide +kernel)), rfl⟩
theorem li_219 : lwI (.methodLink "PlayReader" 109 ⟨"PlayReader", "conditionOf", "(I)LPlayReader$Condition;"⟩) := ⟨List.mem_append_right _ (List.mem_of_getElem? (i := 219) (by decide +kernel)), rfl⟩
theorem li_221 : lwI (.instanceMethod ⟨"PlayReader", "conditionOf", "(I)LPlayReader$Condition;"⟩) := ⟨List.mem_append_right _ (List.mem_of_getElem? (i := 221) (by decide +kernel)), rfl⟩
theorem ls_0 : lwI (.selects "PlayReader" ⟨"PlayReader", "conditionOf", "(I)LPlayReader$Condition;"⟩ ⟨"PlayReader", "conditionOf", "(I)LPlayReader$Condition;"⟩) := ⟨List.mem_append_left _ (List.mem_of_getElem? (i := 0) (by decide +kernel)), rfl⟩
theorem li_225 : lwI (.code ⟨"PlayReader", "judgementOf", "(LPlayReader$Row;LPlayReader$Condition;)I"⟩ prog_1_method_35_code 2 (some .int)) := ⟨List.mem_append_right _ (List.mem_of_getElem? (i := 225) (by decide +kernel)), rfl⟩
theorem li_223 : lwI (.methodLink "PlayReader" 113 ⟨"PlayReader", "judgementOf", "(LPlayReader$Row;LPlayReader$Condition;)I"⟩) := ⟨List.mem_append_right _ (List.mem_of_getElem? (i := 223) (by decide +kernel)), rfl⟩
theorem li_224 : lwI (.static ⟨"PlayReader", "judgementOf", "(LPlayReader$Row;LPlayReader$Condition;)I"⟩) := ⟨List.mem_append_right _ (List.mem_of_getElem? (i := 224) (by decide +kernel)), rfl⟩
theorem li_229 : lwI (.code ⟨"PlayReader$Condition", "judgement", "(LPlayReader$Row;)I"⟩ prog_3_method_2_code 7 (some .int)) := ⟨List.mem_append_right _ (List.mem_of_getElem? (i := 229) (by decide +kernel)), rfl⟩
theorem li_226 : lwI (.methodLink "PlayReader" 212 ⟨"PlayReader$Condition", "judgement", "(LPlayReader$Row;)I"⟩) := ⟨List.mem_append_right _ (List.mem_of_getElem? (i := 226) (by decide +kernel)), rfl⟩
theorem li_227 : lwI (.instanceMethod ⟨"PlayReader$Condition", "judgement", "(LPlayReader$Row;)I"⟩) := ⟨List.mem_append_right _ (List.mem_of_getElem? (i := 227) (by decide +kernel)), rfl⟩
theorem li_228 : lwI (.selects "PlayReader$Condition" ⟨"PlayReader$Condition", "judgement", "(LPlayReader$Row;)I"⟩ ⟨"PlayReader$Condition", "judgement", "(LPlayReader$Row;)I"⟩) := ⟨List.mem_append_right _ (List.mem_of_getElem? (i := 228) (by decide +kernel)), rfl⟩
theorem li_233 : lwI (.code ⟨"PlayReader$Condition", "statesBehind", "(LPlayReader$Row;)J"⟩ prog_3_method_3_code 6 (some .long)) := ⟨List.mem_append_right _ (List.mem_of_getElem? (i := 233) (by decide +kernel)), rfl⟩
theorem li_230 : lwI (.methodLink "PlayReader$Condition" 21 ⟨"PlayReader$Condition", "statesBehind", "(LPlayReader$Row;)J"⟩) := ⟨List.mem_append_right _ (List.mem_of_getElem? (i := 230) (by decide +kernel)), rfl⟩
theorem li_231 : lwI (.instanceMethod ⟨"PlayReader$Condition", "statesBehind", "(LPlayReader$Row;)J"⟩) := ⟨List.mem_append_right _ (List.mem_of_getElem? (i := 231) (by decide +kernel)), rfl⟩
theorem li_232 : lwI (.selects "PlayReader$Condition" ⟨"PlayReader$Condition", "statesBehind", "(LPlayReader$Row;)J"⟩ ⟨"PlayReader$Condition", "statesBehind", "(LPlayReader$Row;)J"⟩) := ⟨List.mem_append_right _ (List.mem_of_getElem? (i := 232) (by decide +kernel)), rfl⟩
theorem li_242 : lwI (.code ⟨"PlayReader$Condition", "lastState", "()I"⟩ prog_3_method_6_code 1 (some .int)) := ⟨List.mem_append_right _ (List.mem_of_getElem? (i := 242) (by decide +kernel)), rfl⟩
theorem li_239 : lwI (.methodLink "PlayReader$Condition" 25 ⟨"PlayReader$Condition", "lastState", "()I"⟩) := ⟨List.mem_append_right _ (List.mem_of_getElem? (i := 239) (by decide +kernel)), rfl⟩
theorem li_240 : lwI (.instanceMethod ⟨"PlayReader$Condition", "lastState", "()I"⟩) := ⟨List.mem_append_right _ (List.mem_of_getElem? (i := 240) (by decide +kernel)), rfl⟩
theorem li_241 : lwI (.selects "PlayReader$Condition" ⟨"PlayReader$Condition", "lastState", "()I"⟩ ⟨"PlayReader$Condition", "lastState", "()I"⟩) := ⟨List.mem_append_right _ (List.mem_of_getElem? (i := 241) (by decide +kernel)), rfl⟩
theorem li_245 : lwI (.code ⟨"PlayReader", "hasBit", "(JI)Z"⟩ prog_1_method_34_code 3 (some .boolean)) := ⟨List.mem_append_right _ (List.mem_of_getElem? (i := 245) (by decide +kernel)), rfl⟩
theorem li_244 : lwI (.static ⟨"PlayReader", "hasBit", "(JI)Z"⟩) := ⟨List.mem_append_right _ (List.mem_of_getElem? (i := 244) (by decide +kernel)), rfl⟩
theorem li_257 : lwI (.code ⟨"PlayReader$Condition", "isBroken", "(I)Z"⟩ prog_3_method_8_code 2 (some .boolean)) := ⟨List.mem_append_right _ (List.mem_of_getElem? (i := 257) (by decide +kernel)), rfl⟩
theorem li_254 : lwI (.methodLink "PlayReader$Condition" 33 ⟨"PlayReader$Condition", "isBroken", "(I)Z"⟩) := ⟨List.mem_append_right _ (List.mem_of_getElem? (i := 254) (by decide +kernel)), rfl⟩
theorem li_255 : lwI (.instanceMethod ⟨"PlayReader$Condition", "isBroken", "(I)Z"⟩) := ⟨List.mem_append_right _ (List.mem_of_getElem? (i := 255) (by decide +kernel)), rfl⟩
theorem li_256 : lwI (.selects "PlayReader$Condition" ⟨"PlayReader$Condition", "isBroken", "(I)Z"⟩ ⟨"PlayReader$Condition", "isBroken", "(I)Z"⟩) := ⟨List.mem_append_right _ (List.mem_of_getElem? (i := 256) (by decide +kernel)), rfl⟩
theorem li_53 : lwI (.fieldLink "PlayReader$Condition" 37 "PlayReader$Row" "size" "I") := ⟨List.mem_append_right _ (List.mem_of_getElem? (i := 53) (by decide +kernel)), rfl⟩
theorem li_234 : lwI (.methodLink "PlayReader$Condition" 42 ⟨"PlayReader$Row", "at", "(I)I"⟩) := ⟨List.mem_append_right _ (List.mem_of_getElem? (i := 234) (by decide +kernel)), rfl⟩
theorem li_238 : lwI (.code ⟨"PlayReader$Condition", "statesBehindGap", "(J)J"⟩ prog_3_method_5_code 9 (some .long)) := ⟨List.mem_append_right _ (List.mem_of_getElem? (i := 238) (by decide +kernel)), rfl⟩
theorem li_235 : lwI (.methodLink "PlayReader$Condition" 46 ⟨"PlayReader$Condition", "statesBehindGap", "(J)J"⟩) := ⟨List.mem_append_right _ (List.mem_of_getElem? (i := 235) (by decide +kernel)), rfl⟩
theorem li_236 : lwI (.instanceMethod ⟨"PlayReader$Condition", "statesBehindGap", "(J)J"⟩) := ⟨List.mem_append_right _ (List.mem_of_getElem? (i := 236) (by decide +kernel)), rfl⟩
theorem li_237 : lwI (.selects "PlayReader$Condition" ⟨"PlayReader$Condition", "statesBehindGap", "(J)J"⟩ ⟨"PlayReader$Condition", "statesBehindGap", "(J)J"⟩) := ⟨List.mem_append_right _ (List.mem_of_getElem? (i := 237) (by decide +kernel)), rfl⟩
theorem li_253 : lwI (.code ⟨"PlayReader$Condition", "statesBehindLine", "(JI)J"⟩ prog_3_method_4_code 7 (some .long)) := ⟨List.mem_append_right _ (List.mem_of_getElem? (i := 253) (by decide +kernel)), rfl⟩
theorem li_250 : lwI (.methodLink "PlayReader$Condition" 50 ⟨"PlayReader$Condition", "statesBehindLine", "(JI)J"⟩) := ⟨List.mem_append_right _ (List.mem_of_getElem? (i := 250) (by decide +kernel)), rfl⟩
theorem li_251 : lwI (.instanceMethod ⟨"PlayReader$Condition", "statesBehindLine", "(JI)J"⟩) := ⟨List.mem_append_right _ (List.mem_of_getElem? (i := 251) (by decide +kernel)), rfl⟩
theorem li_252 : lwI (.selects "PlayReader$Condition" ⟨"PlayReader$Condition", "statesBehindLine", "(JI)J"⟩ ⟨"PlayReader$Condition", "statesBehindLine", "(JI)J"⟩) := ⟨List.mem_append_right _ (List.mem_of_getElem? (i := 252) (by decide +kernel)), rfl⟩
theorem li_249 : lwI (.code ⟨"PlayReader$Condition", "next", "(II)I"⟩ prog_3_method_7_code 3 (some .int)) := ⟨List.mem_append_right _ (List.mem_of_getElem? (i := 249) (by decide +kernel)), rfl⟩
theorem li_246 : lwI (.methodLink "PlayReader$Condition" 54 ⟨"PlayReader$Condition", "next", "(II)I"⟩) := ⟨List.mem_append_right _ (List.mem_of_getElem? (i := 246) (by decide +kernel)), rfl⟩
theorem li_247 : lwI (.instanceMethod ⟨"PlayReader$Condition", "next", "(II)I"⟩) := ⟨List.mem_append_right _ (List.mem_of_getElem? (i := 247) (by decide +kernel)), rfl⟩
theorem li_248 : lwI (.selects "PlayReader$Condition" ⟨"PlayReader$Condition", "next", "(II)I"⟩ ⟨"PlayReader$Condition", "next", "(II)I"⟩) := ⟨List.mem_append_right _ (List.mem_of_getElem? (i := 248) (by decide +kernel)), rfl⟩
theorem li_269 : lwI (.code ⟨"PlayReader$Row", "empty", "()V"⟩ prog_4_method_7_code 1 none) := ⟨List.mem_append_right _ (List.mem_of_getElem? (i := 269) (by decide +kernel)), rfl⟩
theorem li_266 : lwI (.methodLink "PlayReader" 117 ⟨"PlayReader$Row", "empty", "()V"⟩) := ⟨List.mem_append_right _ (List.mem_of_getElem? (i := 266) (by decide +kernel)), rfl⟩
theorem li_267 : lwI (.instanceMethod ⟨"PlayReader$Row", "empty", "()V"⟩) := ⟨List.mem_append_right _ (List.mem_of_getElem? (i := 267) (by decide +kernel)), rfl⟩
theorem li_268 : lwI (.selects "PlayReader$Row" ⟨"PlayReader$Row", "empty", "()V"⟩ ⟨"PlayReader$Row", "empty", "()V"⟩) := ⟨List.mem_append_right _ (List.mem_of_getElem? (i := 268) (by decide +kernel)), rfl⟩
theorem li_282 : lwI (.methodLink "PlayReader" 120 ⟨"java/lang/Math", "max", "(II)I"⟩) := ⟨List.mem_append_right _ (List.mem_of_getElem? (i := 282) (by decide +kernel)), rfl⟩
theorem li_283 : lwI (.static ⟨"java/lang/Math", "max", "(II)I"⟩) := ⟨List.mem_append_right _ (List.mem_of_getElem? (i := 283) (by decide +kernel)), rfl⟩
theorem li_284 : lwI (.code ⟨"java/lang/Math", "max", "(II)I"⟩ prog_10_method_65_code 2 (some .int)) := ⟨List.mem_append_right _ (List.mem_of_getElem? (i := 284) (by decide +kernel)), rfl⟩
theorem li_291 : lwI (.code ⟨"PlayReader", "isQuarrel", "(II)Z"⟩ prog_1_method_36_code 2 (some .boolean)) := ⟨List.mem_append_right _ (List.mem_of_getElem? (i := 291) (by decide +kernel)), rfl⟩
theorem li_289 : lwI (.methodLink "PlayReader" 126 ⟨"PlayReader", "isQuarrel", "(II)Z"⟩) := ⟨List.mem_append_right _ (List.mem_of_getElem? (i := 289) (by decide +kernel)), rfl⟩
theorem li_290 : lwI (.static ⟨"PlayReader", "isQuarrel", "(II)Z"⟩) := ⟨List.mem_append_right _ (List.mem_of_getElem? (i := 290) (by decide +kernel)), rfl⟩
theorem li_294 : lwI (.code ⟨"PlayReader", "heardByTwo", "(II)I"⟩ prog_1_method_37_code 2 (some .int)) := ⟨List.mem_append_right _ (List.mem_of_getElem? (i := 294) (by decide +kernel)), rfl⟩
theorem li_292 : lwI (.methodLink "PlayReader" 130 ⟨"PlayReader", "heardByTwo", "(II)I"⟩) := ⟨List.mem_append_right _ (List.mem_of_getElem? (i := 292) (by decide +kernel)), rfl⟩
theorem li_293 : lwI (.static ⟨"PlayReader", "heardByTwo", "(II)I"⟩) := ⟨List.mem_append_right _ (List.mem_of_getElem? (i := 293) (by decide +kernel)), rfl⟩
theorem li_301 : lwI (.code ⟨"PlayReader", "placesBehind", "(LPlayReader$Row;LPlayReader$Row;)J"⟩ prog_1_method_38_code 6 (some .long)) := ⟨List.mem_append_right _ (List.mem_of_getElem? (i := 301) (by decide +kernel)), rfl⟩
theorem li_299 : lwI (.methodLink "PlayReader" 133 ⟨"PlayReader", "placesBehind", "(LPlayReader$Row;LPlayReader$Row;)J"⟩) := ⟨List.mem_append_right _ (List.mem_of_getElem? (i := 299) (by decide +kernel)), rfl⟩
theorem li_300 : lwI (.static ⟨"PlayReader", "placesBehind", "(LPlayReader$Row;LPlayReader$Row;)J"⟩) := ⟨List.mem_append_right _ (List.mem_of_getElem? (i := 300) (by decide +kernel)), rfl⟩
theorem li_305 : lwI (.methodLink "PlayReader" 137 ⟨"PlayReader", "hasBit", "(JI)Z"⟩) := ⟨List.mem_append_right _ (List.mem_of_getElem? (i := 305) (by decide +kernel)), rfl⟩
theorem li_304 : lwI (.code ⟨"PlayReader", "placesBehindGap", "(JLPlayReader$Row;)J"⟩ prog_1_method_40_code 6 (some .long)) := ⟨List.mem_append_right _ (List.mem_of_getElem? (i := 304) (by decide +kernel)), rfl⟩
theorem li_302 : lwI (.methodLink "PlayReader" 215 ⟨"PlayReader", "placesBehindGap", "(JLPlayReader$Row;)J"⟩) := ⟨List.mem_append_right _ (List.mem_of_getElem? (i := 302) (by decide +kernel)), rfl⟩
theorem li_303 : lwI (.static ⟨"PlayReader", "placesBehindGap", "(JLPlayReader$Row;)J"⟩) := ⟨List.mem_append_right _ (List.mem_of_getElem? (i := 303) (by decide +kernel)), rfl⟩
theorem li_308 : lwI (.code ⟨"PlayReader", "placesBehindLine", "(JLPlayReader$Row;I)J"⟩ prog_1_method_39_code 7 (some .long)) := ⟨List.mem_append_right _ (List.mem_of_getElem? (i := 308) (by decide +kernel)), rfl⟩
theorem li_306 : lwI (.methodLink "PlayReader" 219 ⟨"PlayReader", "placesBehindLine", "(JLPlayReader$Row;I)J"⟩) := ⟨List.mem_append_right _ (List.mem_of_getElem? (i := 306) (by decide +kernel)), rfl⟩
theorem li_307 : lwI (.static ⟨"PlayReader", "placesBehindLine", "(JLPlayReader$Row;I)J"⟩) := ⟨List.mem_append_right _ (List.mem_of_getElem? (i := 307) (by decide +kernel)), rfl⟩
theorem li_315 : lwI (.code ⟨"PlayReader", "isMarks", "(I)Z"⟩ prog_1_method_29_code 1 (some .boolean)) := ⟨List.mem_append_right _ (List.mem_of_getElem? (i := 315) (by decide +kernel)), rfl⟩
theorem li_313 : lwI (.methodLink "PlayReader" 141 ⟨"PlayReader", "isMarks", "(I)Z"⟩) := ⟨List.mem_append_right _ (List.mem_of_getElem? (i := 313) (by decide +kernel)), rfl⟩
theorem li_314 : lwI (.static ⟨"PlayReader", "isMarks", "(I)Z"⟩) := ⟨List.mem_append_right _ (List.mem_of_getElem? (i := 314) (by decide +kernel)), rfl⟩
theorem li_322 : lwI (.code ⟨"PlayReader", "isTown", "(I)Z"⟩ prog_1_method_28_code 1 (some .boolean)) := ⟨List.mem_append_right _ (List.mem_of_getElem? (i := 322) (by decide +kernel)), rfl⟩
theorem li_320 : lwI (.methodLink "PlayReader" 144 ⟨"PlayReader", "isTown", "(I)Z"⟩) := ⟨List.mem_append_right _ (List.mem_of_getElem? (i := 320) (by decide +kernel)), rfl⟩
theorem li_321 : lwI (.static ⟨"PlayReader", "isTown", "(I)Z"⟩) := ⟨List.mem_append_right _ (List.mem_of_getElem? (i := 321) (by decide +kernel)), rfl⟩
theorem li_325 : lwI (.code ⟨"PlayReader", "isDay", "(I)Z"⟩ prog_1_method_30_code 1 (some .boolean)) := ⟨List.mem_append_right _ (List.mem_of_getElem? (i := 325) (by decide +kernel)), rfl⟩
theorem li_323 : lwI (.methodLink "PlayReader" 147 ⟨"PlayReader", "isDay", "(I)Z"⟩) := ⟨List.mem_append_right _ (List.mem_of_getElem? (i := 323) (by decide +kernel)), rfl⟩
theorem li_324 : lwI (.static ⟨"PlayReader", "isDay", "(I)Z"⟩) := ⟨List.mem_append_right _ (List.mem_of_getElem? (i := 324) (by decide +kernel)), rfl⟩
theorem li_326 : lwI (.instantiable "PlayReader$Rule" 4) := ⟨List.mem_append_right _ (List.mem_of_getElem? (i := 326) (by decide +kernel)), rfl⟩
theorem li_8 : lwI (.initialized "PlayReader$Rule") := ⟨List.mem_append_right _ (List.mem_of_getElem? (i := 8) (by decide +kernel)), rfl⟩
theorem li_329 : lwI (.code ⟨"PlayReader$Rule", "<init>", "(IIII)V"⟩ prog_5_method_1_code 5 none) := ⟨List.mem_append_right _ (List.mem_of_getElem? (i := 329) (by decide +kernel)), rfl⟩
theorem li_327 : lwI (.methodLink "PlayReader" 150 ⟨"PlayReader$Rule", "<init>", "(IIII)V"⟩) := ⟨List.mem_append_right _ (List.mem_of_getElem? (i := 327) (by decide +kernel)), rfl⟩
theorem li_328 : lwI (.instanceMethod ⟨"PlayReader$Rule", "<init>", "(IIII)V"⟩) := ⟨List.mem_append_right _ (List.mem_of_getElem? (i := 328) (by decide +kernel)), rfl⟩
theorem li_330 : lwI (.methodLink "PlayReader$Rule" 1 ⟨"java/lang/Object", "<init>", "()V"⟩) := ⟨List.mem_append_right _ (List.mem_of_getElem? (i := 330) (by decide +kernel)), rfl⟩
theorem li_331 : lwI (.fieldLink "PlayReader$Rule" 7 "PlayReader$Rule" "town" "I") := ⟨List.mem_append_right _ (List.mem_of_getElem? (i := 331) (by decide +kernel)), rfl⟩
theorem li_333 : lwI (.fieldLink "PlayReader$Rule" 13 "PlayReader$Rule" "marks" "I") := ⟨List.mem_append_right _ (List.mem_of_getElem? (i := 333) (by decide +kernel)), rfl⟩
theorem li_335 : lwI (.fieldLink "PlayReader$Rule" 16 "PlayReader$Rule" "from" "I") := ⟨List.mem_append_right _ (List.mem_of_getElem? (i := 335) (by decide +kernel)), rfl⟩
theorem li_337 : lwI (.fieldLink "PlayReader$Rule" 19 "PlayReader$Rule" "to" "I") := ⟨List.mem_append_right _ (List.mem_of_getElem? (i := 337) (by decide +kernel)), rfl⟩
theorem li_355 : lwI (.code ⟨"PlayReader", "forbiddenMarks", "(II)I"⟩ prog_1_method_46_code 6 (some .int)) := ⟨List.mem_append_right _ (List.mem_of_getElem? (i := 355) (by decide +kernel)), rfl⟩
theorem li_352 : lwI (.methodLink "PlayReader" 153 ⟨"PlayReader", "forbiddenMarks", "(II)I"⟩) := ⟨List.mem_append_right _ (List.mem_of_getElem? (i := 352) (by decide +kernel)), rfl⟩
theorem li_354 : lwI (.instanceMethod ⟨"PlayReader", "forbiddenMarks", "(II)I"⟩) := ⟨List.mem_append_right _ (List.mem_of_getElem? (i := 354) (by decide +kernel)), rfl⟩
theorem ls_1 : lwI (.selects "PlayReader" ⟨"PlayReader", "forbiddenMarks", "(II)I"⟩ ⟨"PlayReader", "forbiddenMarks", "(II)I"⟩) := ⟨List.mem_append_left _ (List.mem_of_getElem? (i := 1) (by decide +kernel)), rfl⟩
theorem li_367 : lwI (.code ⟨"PlayReader", "linesWith", "(LPlayReader$Row;I)I"⟩ prog_1_method_45_code 5 (some .int)) := ⟨List.mem_append_right _ (List.mem_of_getElem? (i := 367) (by decide +kernel)), rfl⟩
theorem li_364 : lwI (.methodLink "PlayReader" 156 ⟨"PlayReader", "linesWith", "(LPlayReader$Row;I)I"⟩) := ⟨List.mem_append_right _ (List.mem_of_getElem? (i := 364) (by decide +kernel)), rfl⟩
theorem li_366 : lwI (.instanceMethod ⟨"PlayReader", "linesWith", "(LPlayReader$Row;I)I"⟩) := ⟨List.mem_append_right _ (List.mem_of_getElem? (i := 366) (by decide +kernel)), rfl⟩
theorem ls_3 : lwI (.selects "PlayReader" ⟨"PlayReader", "linesWith", "(LPlayReader$Row;I)I"⟩ ⟨"PlayReader", "linesWith", "(LPlayReader$Row;I)I"⟩) := ⟨List.mem_append_left _ (List.mem_of_getElem? (i := 3) (by decide +kernel)), rfl⟩
theorem li_359 : lwI (.code ⟨"PlayReader", "ruleOf", "(I)LPlayReader$Rule;"⟩ prog_1_method_33_code 2 (some (.object "PlayReader$Rule"))) := ⟨List.mem_append_right _ (List.mem_of_getElem? (i := 359) (by decide +kernel)), rfl⟩
theorem li_356 : lwI (.methodLink "PlayReader" 223 ⟨"PlayReader", "ruleOf", "(I)LPlayReader$Rule;"⟩) := ⟨List.mem_append_right _ (List.mem_of_getElem? (i := 356) (by decide +kernel)), rfl⟩
theorem li_358 : lwI (.instanceMethod ⟨"PlayReader", "ruleOf", "(I)LPlayReader$Rule;"⟩) := ⟨List.mem_append_right _ (List.mem_of_getElem? (i := 358) (by decide +kernel)), rfl⟩
theorem ls_2 : lwI (.selects "PlayReader" ⟨"PlayReader", "ruleOf", "(I)LPlayReader$Rule;"⟩ ⟨"PlayReader", "ruleOf", "(I)LPlayReader$Rule;"⟩) := ⟨List.mem_append_left _ (List.mem_of_getElem? (i := 2) (by decide +kernel)), rfl⟩
theorem li_363 : lwI (.code ⟨"PlayReader$Rule", "isInForce", "(II)Z"⟩ prog_5_method_2_code 3 (some .boolean)) := ⟨List.mem_append_right _ (List.mem_of_getElem? (i := 363) (by decide +kernel)), rfl⟩
theorem li_360 : lwI (.methodLink "PlayReader" 227 ⟨"PlayReader$Rule", "isInForce", "(II)Z"⟩) := ⟨List.mem_append_right _ (List.mem_of_getElem? (i := 360) (by decide +kernel)), rfl⟩
theorem li_361 : lwI (.instanceMethod ⟨"PlayReader$Rule", "isInForce", "(II)Z"⟩) := ⟨List.mem_append_right _ (List.mem_of_getElem? (i := 361) (by decide +kernel)), rfl⟩
theorem li_362 : lwI (.selects "PlayReader$Rule" ⟨"PlayReader$Rule", "isInForce", "(II)Z"⟩ ⟨"PlayReader$Rule", "isInForce", "(II)Z"⟩) := ⟨List.mem_append_right _ (List.mem_of_getElem? (i := 362) (by decide +kernel)), rfl⟩
theorem li_334 : lwI (.fieldLink "PlayReader" 230 "PlayReader$Rule" "marks" "I") := ⟨List.mem_append_right _ (List.mem_of_getElem? (i := 334) (by decide +kernel)), rfl⟩
theorem li_371 : lwI (.code ⟨"PlayReader", "marksOf", "(I)I"⟩ prog_1_method_43_code 2 (some .int)) := ⟨List.mem_append_right _ (List.mem_of_getElem? (i := 371) (by decide +kernel)), rfl⟩
theorem li_368 : lwI (.methodLink "PlayReader" 160 ⟨"PlayReader", "marksOf", "(I)I"⟩) := ⟨List.mem_append_right _ (List.mem_of_getElem? (i := 368) (by decide +kernel)), rfl⟩
theorem li_370 : lwI (.instanceMethod ⟨"PlayReader", "marksOf", "(I)I"⟩) := ⟨List.mem_append_right _ (List.mem_of_getElem? (i := 370) (by decide +kernel)), rfl⟩
theorem ls_4 : lwI (.selects "PlayReader" ⟨"PlayReader", "marksOf", "(I)I"⟩ ⟨"PlayReader", "marksOf", "(I)I"⟩) := ⟨List.mem_append_left _ (List.mem_of_getElem? (i := 4) (by decide +kernel)), rfl⟩
theorem li_382 : lwI (.code ⟨"java/lang/Integer", "bitCount", "(I)I"⟩ prog_9_method_49_code 1 (some .int)) := ⟨List.mem_append_right _ (List.mem_of_getElem? (i := 382) (by decide +kernel)), rfl⟩
theorem li_9 : lwI (.initialized "java/lang/Integer") := ⟨List.mem_append_right _ (List.mem_of_getElem? (i := 9) (by decide +kernel)), rfl⟩
theorem li_380 : lwI (.methodLink "PlayReader" 163 ⟨"java/lang/Integer", "bitCount", "(I)I"⟩) := ⟨List.mem_append_right _ (List.mem_of_getElem? (i := 380) (by decide +kernel)), rfl⟩
theorem li_381 : lwI (.static ⟨"java/lang/Integer", "bitCount", "(I)I"⟩) := ⟨List.mem_append_right _ (List.mem_of_getElem? (i := 381) (by decide +kernel)), rfl⟩
theorem li_389 : lwI (.code ⟨"PlayReader$TourPlan", "setCuts", "(III)V"⟩ prog_6_method_2_code 4 none) := ⟨List.mem_append_right _ (List.mem_of_getElem? (i := 389) (by decide +kernel)), rfl⟩
theorem li_386 : lwI (.methodLink "PlayReader" 168 ⟨"PlayReader$TourPlan", "setCuts", "(III)V"⟩) := ⟨List.mem_append_right _ (List.mem_of_getElem? (i := 386) (by decide +kernel)), rfl⟩
theorem li_387 : lwI (.instanceMethod ⟨"PlayReader$TourPlan", "setCuts", "(III)V"⟩) := ⟨List.mem_append_right _ (List.mem_of_getElem? (i := 387) (by decide +kernel)), rfl⟩
theorem li_388 : lwI (.selects "PlayReader$TourPlan" ⟨"PlayReader$TourPlan", "setCuts", "(III)V"⟩ ⟨"PlayReader$TourPlan", "setCuts", "(III)V"⟩) := ⟨List.mem_append_right _ (List.mem_of_getElem? (i := 388) (by decide +kernel)), rfl⟩
theorem li_394 : lwI (.code ⟨"PlayReader$TourPlan", "find", "(I)I"⟩ prog_6_method_3_code 5 (some .int)) := ⟨List.mem_append_right _ (List.mem_of_getElem? (i := 394) (by decide +kernel)), rfl⟩
theorem li_391 : lwI (.methodLink "PlayReader" 171 ⟨"PlayReader$TourPlan", "find", "(I)I"⟩) := ⟨List.mem_append_right _ (List.mem_of_getElem? (i := 391) (by decide +kernel)), rfl⟩
theorem li_392 : lwI (.instanceMethod ⟨"PlayReader$TourPlan", "find", "(I)I"⟩) := ⟨List.mem_append_right _ (List.mem_of_getElem? (i := 392) (by decide +kernel)), rfl⟩
theorem li_393 : lwI (.selects "PlayReader$TourPlan" ⟨"PlayReader$TourPlan", "find", "(I)I"⟩ ⟨"PlayReader$TourPlan", "find", "(I)I"⟩) := ⟨List.mem_append_right _ (List.mem_of_getElem? (i := 393) (by decide +kernel)), rfl⟩
theorem li_383 : lwI (.constant "java/lang/Integer" 265 (1431655765 : Int32)) := ⟨List.mem_append_right _ (List.mem_of_getElem? (i := 383) (by decide +kernel)), rfl⟩
theorem li_384 : lwI (.constant "java/lang/Integer" 266 (858993459 : Int32)) := ⟨List.mem_append_right _ (List.mem_of_getElem? (i := 384) (by decide +kernel)), rfl⟩
theorem li_385 : lwI (.constant "java/lang/Integer" 267 (252645135 : Int32)) := ⟨List.mem_append_right _ (List.mem_of_getElem? (i := 385) (by decide +kernel)), rfl⟩
theorem li_398 : lwI (.code ⟨"PlayReader$TourPlan", "fewestBehind", "(II)I"⟩ prog_6_method_4_code 4 (some .int)) := ⟨List.mem_append_right _ (List.mem_of_getElem? (i := 398) (by decide +kernel)), rfl⟩
theorem li_395 : lwI (.methodLink "PlayReader$TourPlan" 31 ⟨"PlayReader$TourPlan", "fewestBehind", "(II)I"⟩) := ⟨List.mem_append_right _ (List.mem_of_getElem? (i := 395) (by decide +kernel)), rfl⟩
theorem li_396 : lwI (.instanceMethod ⟨"PlayReader$TourPlan", "fewestBehind", "(II)I"⟩) := ⟨List.mem_append_right _ (List.mem_of_getElem? (i := 396) (by decide +kernel)), rfl⟩
theorem li_397 : lwI (.selects "PlayReader$TourPlan" ⟨"PlayReader$TourPlan", "fewestBehind", "(II)I"⟩ ⟨"PlayReader$TourPlan", "fewestBehind", "(II)I"⟩) := ⟨List.mem_append_right _ (List.mem_of_getElem? (i := 397) (by decide +kernel)), rfl⟩
theorem li_409 : lwI (.methodLink "PlayReader$TourPlan" 35 ⟨"PlayReader$Row", "empty", "()V"⟩) := ⟨List.mem_append_right _ (List.mem_of_getElem? (i := 409) (by decide +kernel)), rfl⟩
theorem li_402 : lwI (.code ⟨"PlayReader$TourPlan", "nextTown", "(II)I"⟩ prog_6_method_5_code 5 (some .int)) := ⟨List.mem_append_right _ (List.mem_of_getElem? (i := 402) (by decide +kernel)), rfl⟩
theorem li_399 : lwI (.methodLink "PlayReader$TourPlan" 38 ⟨"PlayReader$TourPlan", "nextTown", "(II)I"⟩) := ⟨List.mem_append_right _ (List.mem_of_getElem? (i := 399) (by decide +kernel)), rfl⟩
theorem li_400 : lwI (.instanceMethod ⟨"PlayReader$TourPlan", "nextTown", "(II)I"⟩) := ⟨List.mem_append_right _ (List.mem_of_getElem? (i := 400) (by decide +kernel)), rfl⟩
theorem li_401 : lwI (.selects "PlayReader$TourPlan" ⟨"PlayReader$TourPlan", "nextTown", "(II)I"⟩ ⟨"PlayReader$TourPlan", "nextTown", "(II)I"⟩) := ⟨List.mem_append_right _ (List.mem_of_getElem? (i := 401) (by decide +kernel)), rfl⟩
theorem li_410 : lwI (.methodLink "PlayReader$TourPlan" 41 ⟨"PlayReader$Row", "insert", "(II)V"⟩) := ⟨List.mem_append_right _ (List.mem_of_getElem? (i := 410) (by decide +kernel)), rfl⟩
theorem li_407 : lwI (.code ⟨"PlayReader$TourPlan", "cutsBy", "(II)I"⟩ prog_6_method_6_code 5 (some .int)) := ⟨List.mem_append_right _ (List.mem_of_getElem? (i := 407) (by decide +kernel)), rfl⟩
theorem li_404 : lwI (.methodLink "PlayReader$TourPlan" 45 ⟨"PlayReader$TourPlan", "cutsBy", "(II)I"⟩) := ⟨List.mem_append_right _ (List.mem_of_getElem? (i := 404) (by decide +kernel)), rfl⟩
theorem li_405 : lwI (.instanceMethod ⟨"PlayReader$TourPlan", "cutsBy", "(II)I"⟩) := ⟨List.mem_append_right _ (List.mem_of_getElem? (i := 405) (by decide +kernel)), rfl⟩
theorem li_406 : lwI (.selects "PlayReader$TourPlan" ⟨"PlayReader$TourPlan", "cutsBy", "(II)I"⟩ ⟨"PlayReader$TourPlan", "cutsBy", "(II)I"⟩) := ⟨List.mem_append_right _ (List.mem_of_getElem? (i := 406) (by decide +kernel)), rfl⟩
theorem li_408 : lwI (.methodLink "PlayReader$TourPlan" 52 ⟨"java/lang/Integer", "bitCount", "(I)I"⟩) := ⟨List.mem_append_right _ (List.mem_of_getElem? (i := 408) (by decide +kernel)), rfl⟩
theorem li_61 : lwI (.fieldLink "PlayReader" 174 "PlayReader$TourPlan" "order" "LPlayReader$Row;") := ⟨List.mem_append_right _ (List.mem_of_getElem? (i := 61) (by decide +kernel)), rfl⟩
theorem li_422 : lwI (.code ⟨"PlayReader", "marksOfAll", "(LPlayReader$Row;)I"⟩ prog_1_method_44_code 4 (some .int)) := ⟨List.mem_append_right _ (List.mem_of_getElem? (i := 422) (by decide +kernel)), rfl⟩
theorem li_419 : lwI (.methodLink "PlayReader" 177 ⟨"PlayReader", "marksOfAll", "(LPlayReader$Row;)I"⟩) := ⟨List.mem_append_right _ (List.mem_of_getElem? (i := 419) (by decide +kernel)), rfl⟩
theorem li_421 : lwI (.instanceMethod ⟨"PlayReader", "marksOfAll", "(LPlayReader$Row;)I"⟩) := ⟨List.mem_append_right _ (List.mem_of_getElem? (i := 421) (by decide +kernel)), rfl⟩
theorem ls_5 : lwI (.selects "PlayReader" ⟨"PlayReader", "marksOfAll", "(LPlayReader$Row;)I"⟩ ⟨"PlayReader", "marksOfAll", "(LPlayReader$Row;)I"⟩) := ⟨List.mem_append_left _ (List.mem_of_getElem? (i := 5) (by decide +kernel)), rfl⟩
theorem li_426 : lwI (.code ⟨"PlayReader", "lastForbiddenDay", "(III)I"⟩ prog_1_method_47_code 7 (some .int)) := ⟨List.mem_append_right _ (List.mem_of_getElem? (i := 426) (by decide +kernel)), rfl⟩
theorem li_423 : lwI (.methodLink "PlayReader" 181 ⟨"PlayReader", "lastForbiddenDay", "(III)I"⟩) := ⟨List.mem_append_right _ (List.mem_of_getElem? (i := 423) (by decide +kernel)), rfl⟩
theorem li_425 : lwI (.instanceMethod ⟨"PlayReader", "lastForbiddenDay", "(III)I"⟩) := ⟨List.mem_append_right _ (List.mem_of_getElem? (i := 425) (by decide +kernel)), rfl⟩
theorem ls_6 : lwI (.selects "PlayReader" ⟨"PlayReader", "lastForbiddenDay", "(III)I"⟩ ⟨"PlayReader", "lastForbiddenDay", "(III)I"⟩) := ⟨List.mem_append_left _ (List.mem_of_getElem? (i := 6) (by decide +kernel)), rfl⟩
theorem li_338 : lwI (.fieldLink "PlayReader" 232 "PlayReader$Rule" "to" "I") := ⟨List.mem_append_right _ (List.mem_of_getElem? (i := 338) (by decide +kernel)), rfl⟩
theorem li_433 : lwI (.code ⟨"PlayReader", "thingsIn", "([LPlayReader$Row;)I"⟩ prog_1_method_42_code 4 (some .int)) := ⟨List.mem_append_right _ (List.mem_of_getElem? (i := 433) (by decide +kernel)), rfl⟩
theorem li_431 : lwI (.methodLink "PlayReader" 185 ⟨"PlayReader", "thingsIn", "([LPlayReader$Row;)I"⟩) := ⟨List.mem_append_right _ (List.mem_of_getElem? (i := 431) (by decide +kernel)), rfl⟩
theorem li_432 : lwI (.static ⟨"PlayReader", "thingsIn", "([LPlayReader$Row;)I"⟩) := ⟨List.mem_append_right _ (List.mem_of_getElem? (i := 432) (by decide +kernel)), rfl⟩
theorem li_437 : lwI (.code ⟨"PlayReader", "gapsHeard", "()I"⟩ prog_1_method_41_code 5 (some .int)) := ⟨List.mem_append_right _ (List.mem_of_getElem? (i := 437) (by decide +kernel)), rfl⟩
theorem li_434 : lwI (.methodLink "PlayReader" 189 ⟨"PlayReader", "gapsHeard", "()I"⟩) := ⟨List.mem_append_right _ (List.mem_of_getElem? (i := 434) (by decide +kernel)), rfl⟩
theorem li_436 : lwI (.instanceMethod ⟨"PlayReader", "gapsHeard", "()I"⟩) := ⟨List.mem_append_right _ (List.mem_of_getElem? (i := 436) (by decide +kernel)), rfl⟩
theorem ls_7 : lwI (.selects "PlayReader" ⟨"PlayReader", "gapsHeard", "()I"⟩ ⟨"PlayReader", "gapsHeard", "()I"⟩) := ⟨List.mem_append_left _ (List.mem_of_getElem? (i := 7) (by decide +kernel)), rfl⟩
theorem li_442 : lwI (.constantLong "PlayReader" 192 (181 : Int64)) := ⟨List.mem_append_right _ (List.mem_of_getElem? (i := 442) (by decide +kernel)), rfl⟩
theorem li_430 : lwI (.code ⟨"PlayReader", "count", "(I)I"⟩ prog_1_method_25_code 2 (some .int)) := ⟨List.mem_append_right _ (List.mem_of_getElem? (i := 430) (by decide +kernel)), rfl⟩
theorem li_443 : lwI (.methodLink "PlayReader" 194 ⟨"PlayReader", "count", "(I)I"⟩) := ⟨List.mem_append_right _ (List.mem_of_getElem? (i := 443) (by decide +kernel)), rfl⟩
theorem li_428 : lwI (.instanceMethod ⟨"PlayReader", "count", "(I)I"⟩) := ⟨List.mem_append_right _ (List.mem_of_getElem? (i := 428) (by decide +kernel)), rfl⟩
theorem li_429 : lwI (.selects "PlayReader" ⟨"PlayReader", "count", "(I)I"⟩ ⟨"PlayReader", "count", "(I)I"⟩) := ⟨List.mem_append_right _ (List.mem_of_getElem? (i := 429) (by decide +kernel)), rfl⟩
theorem li_446 : lwI (.code ⟨"PlayReader", "mixed", "(JI)J"⟩ prog_1_method_48_code 3 (some .long)) := ⟨List.mem_append_right _ (List.mem_of_getElem? (i := 446) (by decide +kernel)), rfl⟩
theorem li_444 : lwI (.methodLink "PlayReader" 197 ⟨"PlayReader", "mixed", "(JI)J"⟩) := ⟨List.mem_append_right _ (List.mem_of_getElem? (i := 444) (by decide +kernel)), rfl⟩
theorem li_445 : lwI (.static ⟨"PlayReader", "mixed", "(JI)J"⟩) := ⟨List.mem_append_right _ (List.mem_of_getElem? (i := 445) (by decide +kernel)), rfl⟩
theorem li_450 : lwI (.code ⟨"PlayReader", "mixedRows", "(J[LPlayReader$Row;)J"⟩ prog_1_method_49_code 8 (some .long)) := ⟨List.mem_append_right _ (List.mem_of_getElem? (i := 450) (by decide +kernel)), rfl⟩
theorem li_448 : lwI (.methodLink "PlayReader" 201 ⟨"PlayReader", "mixedRows", "(J[LPlayReader$Row;)J"⟩) := ⟨List.mem_append_right _ (List.mem_of_getElem? (i := 448) (by decide +kernel)), rfl⟩
theorem li_449 : lwI (.static ⟨"PlayReader", "mixedRows", "(J[LPlayReader$Row;)J"⟩) := ⟨List.mem_append_right _ (List.mem_of_getElem? (i := 449) (by decide +kernel)), rfl⟩
theorem li_454 : lwI (.code ⟨"PlayReader", "mixedRules", "(J)J"⟩ prog_1_method_50_code 7 (some .long)) := ⟨List.mem_append_right _ (List.mem_of_getElem? (i := 454) (by decide +kernel)), rfl⟩
theorem li_451 : lwI (.methodLink "PlayReader" 205 ⟨"PlayReader", "mixedRules", "(J)J"⟩) := ⟨List.mem_append_right _ (List.mem_of_getElem? (i := 451) (by decide +kernel)), rfl⟩
theorem li_453 : lwI (.instanceMethod ⟨"PlayReader", "mixedRules", "(J)J"⟩) := ⟨List.mem_append_right _ (List.mem_of_getElem? (i := 453) (by decide +kernel)), rfl⟩
theorem ls_8 : lwI (.selects "PlayReader" ⟨"PlayReader", "mixedRules", "(J)J"⟩ ⟨"PlayReader", "mixedRules", "(J)J"⟩) := ⟨List.mem_append_left _ (List.mem_of_getElem? (i := 8) (by decide +kernel)), rfl⟩
theorem li_458 : lwI (.code ⟨"PlayReader", "mixedConditions", "(J)J"⟩ prog_1_method_51_code 7 (some .long)) := ⟨List.mem_append_right _ (List.mem_of_getElem? (i := 458) (by decide +kernel)), rfl⟩
theorem li_455 : lwI (.methodLink "PlayReader" 209 ⟨"PlayReader", "mixedConditions", "(J)J"⟩) := ⟨List.mem_append_right _ (List.mem_of_getElem? (i := 455) (by decide +kernel)), rfl⟩
theorem li_457 : lwI (.instanceMethod ⟨"PlayReader", "mixedConditions", "(J)J"⟩) := ⟨List.mem_append_right _ (List.mem_of_getElem? (i := 457) (by decide +kernel)), rfl⟩
theorem ls_9 : lwI (.selects "PlayReader" ⟨"PlayReader", "mixedConditions", "(J)J"⟩ ⟨"PlayReader", "mixedConditions", "(J)J"⟩) := ⟨List.mem_append_left _ (List.mem_of_getElem? (i := 9) (by decide +kernel)), rfl⟩
theorem li_447 : lwI (.constantLong "PlayReader" 235 (31 : Int64)) := ⟨List.mem_append_right _ (List.mem_of_getElem? (i := 447) (by decide +kernel)), rfl⟩
theorem li_332 : lwI (.fieldLink "PlayReader" 237 "PlayReader$Rule" "town" "I") := ⟨List.mem_append_right _ (List.mem_of_getElem? (i := 332) (by decide +kernel)), rfl⟩
theorem li_336 : lwI (.fieldLink "PlayReader" 240 "PlayReader$Rule" "from" "I") := ⟨List.mem_append_right _ (List.mem_of_getElem? (i := 336) (by decide +kernel)), rfl⟩
theorem li_199 : lwI (.fieldLink "PlayReader" 243 "PlayReader$Condition" "sort" "I") := ⟨List.mem_append_right _ (List.mem_of_getElem? (i := 199) (by decide +kernel)), rfl⟩
theorem li_201 : lwI (.fieldLink "PlayReader" 246 "PlayReader$Condition" "x" "I") := ⟨List.mem_append_right _ (List.mem_of_getElem? (i := 201) (by decide +kernel)), rfl⟩
theorem li_203 : lwI (.fieldLink "PlayReader" 249 "PlayReader$Condition" "y" "I") := ⟨List.mem_append_right _ (List.mem_of_getElem? (i := 203) (by decide +kernel)), rfl⟩
theorem li_464 : lwI (.methodLink "PlayReaderModel" 1 ⟨"java/lang/Object", "<init>", "()V"⟩) := ⟨List.mem_append_right _ (List.mem_of_getElem? (i := 464) (by decide +kernel)), rfl⟩
theorem li_465 : lwI (.fieldLink "PlayReaderModel" 7 "PlayReaderModel" "lines" "[I") := ⟨List.mem_append_right _ (List.mem_of_getElem? (i := 465) (by decide +kernel)), rfl⟩
theorem li_466 : lwI (.fieldLink "PlayReaderModel" 13 "PlayReaderModel" "sizes" "[I") := ⟨List.mem_append_right _ (List.mem_of_getElem? (i := 466) (by decide +kernel)), rfl⟩
theorem li_467 : lwI (.fieldLink "PlayReaderModel" 16 "PlayReaderModel" "things" "[I") := ⟨List.mem_append_right _ (List.mem_of_getElem? (i := 467) (by decide +kernel)), rfl⟩
theorem li_468 : lwI (.fieldLink "PlayReaderModel" 19 "PlayReaderModel" "heard" "[I") := ⟨List.mem_append_right _ (List.mem_of_getElem? (i := 468) (by decide +kernel)), rfl⟩
theorem li_470 : lwI (.fieldLink "PlayReaderModel" 22 "PlayReaderModel" "sorts" "[I") := ⟨List.mem_append_right _ (List.mem_of_getElem? (i := 470) (by decide +kernel)), rfl⟩
theorem li_471 : lwI (.fieldLink "PlayReaderModel" 25 "PlayReaderModel" "xs" "[I") := ⟨List.mem_append_right _ (List.mem_of_getElem? (i := 471) (by decide +kernel)), rfl⟩
theorem li_472 : lwI (.fieldLink "PlayReaderModel" 28 "PlayReaderModel" "ys" "[I") := ⟨List.mem_append_right _ (List.mem_of_getElem? (i := 472) (by decide +kernel)), rfl⟩
theorem li_473 : lwI (.fieldLink "PlayReaderModel" 31 "PlayReaderModel" "marks" "[I") := ⟨List.mem_append_right _ (List.mem_of_getElem? (i := 473) (by decide +kernel)), rfl⟩
theorem li_475 : lwI (.fieldLink "PlayReaderModel" 34 "PlayReaderModel" "ruleTown" "[I") := ⟨List.mem_append_right _ (List.mem_of_getElem? (i := 475) (by decide +kernel)), rfl⟩
theorem li_476 : lwI (.fieldLink "PlayReaderModel" 37 "PlayReaderModel" "ruleMarks" "[I") := ⟨List.mem_append_right _ (List.mem_of_getElem? (i := 476) (by decide +kernel)), rfl⟩
theorem li_477 : lwI (.fieldLink "PlayReaderModel" 40 "PlayReaderModel" "ruleFrom" "[I") := ⟨List.mem_append_right _ (List.mem_of_getElem? (i := 477) (by decide +kernel)), rfl⟩
theorem li_478 : lwI (.fieldLink "PlayReaderModel" 43 "PlayReaderModel" "ruleTo" "[I") := ⟨List.mem_append_right _ (List.mem_of_getElem? (i := 478) (by decide +kernel)), rfl⟩
theorem li_479 : lwI (.fieldLink "PlayReaderModel" 46 "PlayReaderModel" "few" "[I") := ⟨List.mem_append_right _ (List.mem_of_getElem? (i := 479) (by decide +kernel)), rfl⟩
theorem li_480 : lwI (.fieldLink "PlayReaderModel" 49 "PlayReaderModel" "fewest" "[I") := ⟨List.mem_append_right _ (List.mem_of_getElem? (i := 480) (by decide +kernel)), rfl⟩
theorem li_481 : lwI (.fieldLink "PlayReaderModel" 52 "PlayReaderModel" "cuts" "[I") := ⟨List.mem_append_right _ (List.mem_of_getElem? (i := 481) (by decide +kernel)), rfl⟩
theorem li_483 : lwI (.fieldLink "PlayReaderModel" 55 "PlayReaderModel" "tour" "[I") := ⟨List.mem_append_right _ (List.mem_of_getElem? (i := 483) (by decide +kernel)), rfl⟩
theorem li_526 : lwI (.arrayClass .boolean) := ⟨List.mem_append_right _ (List.mem_of_getElem? (i := 526) (by decide +kernel)), rfl⟩
theorem li_484 : lwI (.fieldLink "PlayReaderModel" 58 "PlayReaderModel" "fits" "[Z") := ⟨List.mem_append_right _ (List.mem_of_getElem? (i := 484) (by decide +kernel)), rfl⟩
theorem li_533 : lwI (.code ⟨"PlayReaderModel", "isVersion", "(I)Z"⟩ prog_8_method_3_code 1 (some .boolean)) := ⟨List.mem_append_right _ (List.mem_of_getElem? (i := 533) (by decide +kernel)), rfl⟩
theorem li_5 : lwI (.initialized "PlayReaderModel") := ⟨List.mem_append_right _ (List.mem_of_getElem? (i := 5) (by decide +kernel)), rfl⟩
theorem li_531 : lwI (.methodLink "PlayReaderModel" 66 ⟨"PlayReaderModel", "isVersion", "(I)Z"⟩) := ⟨List.mem_append_right _ (List.mem_of_getElem? (i := 531) (by decide +kernel)), rfl⟩
theorem li_532 : lwI (.static ⟨"PlayReaderModel", "isVersion", "(I)Z"⟩) := ⟨List.mem_append_right _ (List.mem_of_getElem? (i := 532) (by decide +kernel)), rfl⟩
theorem li_536 : lwI (.code ⟨"PlayReaderModel", "in", "(III)Z"⟩ prog_8_method_2_code 3 (some .boolean)) := ⟨List.mem_append_right _ (List.mem_of_getElem? (i := 536) (by decide +kernel)), rfl⟩
theorem li_534 : lwI (.methodLink "PlayReaderModel" 62 ⟨"PlayReaderModel", "in", "(III)Z"⟩) := ⟨List.mem_append_right _ (List.mem_of_getElem? (i := 534) (by decide +kernel)), rfl⟩
theorem li_535 : lwI (.static ⟨"PlayReaderModel", "in", "(III)Z"⟩) := ⟨List.mem_append_right _ (List.mem_of_getElem? (i := 535) (by decide +kernel)), rfl⟩
theorem li_539 : lwI (.code ⟨"PlayReaderModel", "isLine", "(I)Z"⟩ prog_8_method_4_code 1 (some .boolean)) := ⟨List.mem_append_right _ (List.mem_of_getElem? (i := 539) (by decide +kernel)), rfl⟩
theorem li_537 : lwI (.methodLink "PlayReaderModel" 70 ⟨"PlayReaderModel", "isLine", "(I)Z"⟩) := ⟨List.mem_append_right _ (List.mem_of_getElem? (i := 537) (by decide +kernel)), rfl⟩
theorem li_538 : lwI (.static ⟨"PlayReaderModel", "isLine", "(I)Z"⟩) := ⟨List.mem_append_right _ (List.mem_of_getElem? (i := 538) (by decide +kernel)), rfl⟩
theorem li_559 : lwI (.code ⟨"PlayReaderModel", "findFew", "(II)I"⟩ prog_8_method_11_code 6 (some .int)) := ⟨List.mem_append_right _ (List.mem_of_getElem? (i := 559) (by decide +kernel)), rfl⟩
theorem li_556 : lwI (.methodLink "PlayReaderModel" 77 ⟨"PlayReaderModel", "findFew", "(II)I"⟩) := ⟨List.mem_append_right _ (List.mem_of_getElem? (i := 556) (by decide +kernel)), rfl⟩
theorem li_558 : lwI (.instanceMethod ⟨"PlayReaderModel", "findFew", "(II)I"⟩) := ⟨List.mem_append_right _ (List.mem_of_getElem? (i := 558) (by decide +kernel)), rfl⟩
theorem ls_10 : lwI (.selects "PlayReaderModel" ⟨"PlayReaderModel", "findFew", "(II)I"⟩ ⟨"PlayReaderModel", "findFew", "(II)I"⟩) := ⟨List.mem_append_left _ (List.mem_of_getElem? (i := 10) (by decide +kernel)), rfl⟩
theorem li_563 : lwI (.code ⟨"PlayReaderModel", "isAlike", "(IIII)Z"⟩ prog_8_method_10_code 5 (some .boolean)) := ⟨List.mem_append_right _ (List.mem_of_getElem? (i := 563) (by decide +kernel)), rfl⟩
theorem li_560 : lwI (.methodLink "PlayReaderModel" 73 ⟨"PlayReaderModel", "isAlike", "(IIII)Z"⟩) := ⟨List.mem_append_right _ (List.mem_of_getElem? (i := 560) (by decide +kernel)), rfl⟩
theorem li_562 : lwI (.instanceMethod ⟨"PlayReaderModel", "isAlike", "(IIII)Z"⟩) := ⟨List.mem_append_right _ (List.mem_of_getElem? (i := 562) (by decide +kernel)), rfl⟩
theorem ls_11 : lwI (.selects "PlayReaderModel" ⟨"PlayReaderModel", "isAlike", "(IIII)Z"⟩ ⟨"PlayReaderModel", "isAlike", "(IIII)Z"⟩) := ⟨List.mem_append_left _ (List.mem_of_getElem? (i := 11) (by decide +kernel)), rfl⟩
theorem li_469 : lwI (.fieldLink "PlayReaderModel" 81 "PlayReaderModel" "conditions" "I") := ⟨List.mem_append_right _ (List.mem_of_getElem? (i := 469) (by decide +kernel)), rfl⟩
theorem li_583 : lwI (.code ⟨"PlayReaderModel", "keeps", "(II)Z"⟩ prog_8_method_16_code 11 (some .boolean)) := ⟨List.mem_append_right _ (List.mem_of_getElem? (i := 583) (by decide +kernel)), rfl⟩
theorem li_580 : lwI (.methodLink "PlayReaderModel" 85 ⟨"PlayReaderModel", "keeps", "(II)Z"⟩) := ⟨List.mem_append_right _ (List.mem_of_getElem? (i := 580) (by decide +kernel)), rfl⟩
theorem li_582 : lwI (.instanceMethod ⟨"PlayReaderModel", "keeps", "(II)Z"⟩) := ⟨List.mem_append_right _ (List.mem_of_getElem? (i := 582) (by decide +kernel)), rfl⟩
theorem ls_12 : lwI (.selects "PlayReaderModel" ⟨"PlayReaderModel", "keeps", "(II)Z"⟩ ⟨"PlayReaderModel", "keeps", "(II)Z"⟩) := ⟨List.mem_append_left _ (List.mem_of_getElem? (i := 12) (by decide +kernel)), rfl⟩
theorem li_590 : lwI (.code ⟨"PlayReaderModel", "isHeard", "(I)Z"⟩ prog_8_method_5_code 1 (some .boolean)) := ⟨List.mem_append_right _ (List.mem_of_getElem? (i := 590) (by decide +kernel)), rfl⟩
theorem li_588 : lwI (.methodLink "PlayReaderModel" 89 ⟨"PlayReaderModel", "isHeard", "(I)Z"⟩) := ⟨List.mem_append_right _ (List.mem_of_getElem? (i := 588) (by decide +kernel)), rfl⟩
theorem li_589 : lwI (.static ⟨"PlayReaderModel", "isHeard", "(I)Z"⟩) := ⟨List.mem_append_right _ (List.mem_of_getElem? (i := 589) (by decide +kernel)), rfl⟩
theorem li_606 : lwI (.code ⟨"PlayReaderModel", "judged", "(II)I"⟩ prog_8_method_21_code 14 (some .int)) := ⟨List.mem_append_right _ (List.mem_of_getElem? (i := 606) (by decide +kernel)), rfl⟩
theorem li_603 : lwI (.methodLink "PlayReaderModel" 92 ⟨"PlayReaderModel", "judged", "(II)I"⟩) := ⟨List.mem_append_right _ (List.mem_of_getElem? (i := 603) (by decide +kernel)), rfl⟩
theorem li_605 : lwI (.instanceMethod ⟨"PlayReaderModel", "judged", "(II)I"⟩) := ⟨List.mem_append_right _ (List.mem_of_getElem? (i := 605) (by decide +kernel)), rfl⟩
theorem ls_13 : lwI (.selects "PlayReaderModel" ⟨"PlayReaderModel", "judged", "(II)I"⟩ ⟨"PlayReaderModel", "judged", "(II)I"⟩) := ⟨List.mem_append_left _ (List.mem_of_getElem? (i := 13) (by decide +kernel)), rfl⟩
theorem li_629 : lwI (.code ⟨"PlayReaderModel", "isTown", "(I)Z"⟩ prog_8_method_27_code 1 (some .boolean)) := ⟨List.mem_append_right _ (List.mem_of_getElem? (i := 629) (by decide +kernel)), rfl⟩
theorem li_627 : lwI (.methodLink "PlayReaderModel" 95 ⟨"PlayReaderModel", "isTown", "(I)Z"⟩) := ⟨List.mem_append_right _ (List.mem_of_getElem? (i := 627) (by decide +kernel)), rfl⟩
theorem li_628 : lwI (.static ⟨"PlayReaderModel", "isTown", "(I)Z"⟩) := ⟨List.mem_append_right _ (List.mem_of_getElem? (i := 628) (by decide +kernel)), rfl⟩
theorem li_632 : lwI (.code ⟨"PlayReaderModel", "isDay", "(I)Z"⟩ prog_8_method_28_code 1 (some .boolean)) := ⟨List.mem_append_right _ (List.mem_of_getElem? (i := 632) (by decide +kernel)), rfl⟩
theorem li_630 : lwI (.methodLink "PlayReaderModel" 98 ⟨"PlayReaderModel", "isDay", "(I)Z"⟩) := ⟨List.mem_append_right _ (List.mem_of_getElem? (i := 630) (by decide +kernel)), rfl⟩
theorem li_631 : lwI (.static ⟨"PlayReaderModel", "isDay", "(I)Z"⟩) := ⟨List.mem_append_right _ (List.mem_of_getElem? (i := 631) (by decide +kernel)), rfl⟩
theorem li_474 : lwI (.fieldLink "PlayReaderModel" 101 "PlayReaderModel" "rules" "I") := ⟨List.mem_append_right _ (List.mem_of_getElem? (i := 474) (by decide +kernel)), rfl⟩
theorem li_640 : lwI (.code ⟨"PlayReaderModel", "cutOf", "(III)I"⟩ prog_8_method_31_code 7 (some .int)) := ⟨List.mem_append_right _ (List.mem_of_getElem? (i := 640) (by decide +kernel)), rfl⟩
theorem li_637 : lwI (.methodLink "PlayReaderModel" 107 ⟨"PlayReaderModel", "cutOf", "(III)I"⟩) := ⟨List.mem_append_right _ (List.mem_of_getElem? (i := 637) (by decide +kernel)), rfl⟩
theorem li_639 : lwI (.instanceMethod ⟨"PlayReaderModel", "cutOf", "(III)I"⟩) := ⟨List.mem_append_right _ (List.mem_of_getElem? (i := 639) (by decide +kernel)), rfl⟩
theorem ls_14 : lwI (.selects "PlayReaderModel" ⟨"PlayReaderModel", "cutOf", "(III)I"⟩ ⟨"PlayReaderModel", "cutOf", "(III)I"⟩) := ⟨List.mem_append_left _ (List.mem_of_getElem? (i := 14) (by decide +kernel)), rfl⟩
theorem li_644 : lwI (.code ⟨"PlayReaderModel", "forbidden", "(II)I"⟩ prog_8_method_30_code 5 (some .int)) := ⟨List.mem_append_right _ (List.mem_of_getElem? (i := 644) (by decide +kernel)), rfl⟩
theorem li_641 : lwI (.methodLink "PlayReaderModel" 104 ⟨"PlayReaderModel", "forbidden", "(II)I"⟩) := ⟨List.mem_append_right _ (List.mem_of_getElem? (i := 641) (by decide +kernel)), rfl⟩
theorem li_643 : lwI (.instanceMethod ⟨"PlayReaderModel", "forbidden", "(II)I"⟩) := ⟨List.mem_append_right _ (List.mem_of_getElem? (i := 643) (by decide +kernel)), rfl⟩
theorem ls_15 : lwI (.selects "PlayReaderModel" ⟨"PlayReaderModel", "forbidden", "(II)I"⟩ ⟨"PlayReaderModel", "forbidden", "(II)I"⟩) := ⟨List.mem_append_left _ (List.mem_of_getElem? (i := 15) (by decide +kernel)), rfl⟩
theorem li_655 : lwI (.code ⟨"PlayReaderModel", "many", "(I)I"⟩ prog_8_method_34_code 3 (some .int)) := ⟨List.mem_append_right _ (List.mem_of_getElem? (i := 655) (by decide +kernel)), rfl⟩
theorem li_653 : lwI (.methodLink "PlayReaderModel" 111 ⟨"PlayReaderModel", "many", "(I)I"⟩) := ⟨List.mem_append_right _ (List.mem_of_getElem? (i := 653) (by decide +kernel)), rfl⟩
theorem li_654 : lwI (.static ⟨"PlayReaderModel", "many", "(I)I"⟩) := ⟨List.mem_append_right _ (List.mem_of_getElem? (i := 654) (by decide +kernel)), rfl⟩
theorem li_656 : lwI (.constant "PlayReaderModel" 115 (100000 : Int32)) := ⟨List.mem_append_right _ (List.mem_of_getElem? (i := 656) (by decide +kernel)), rfl⟩
theorem li_482 : lwI (.fieldLink "PlayReaderModel" 116 "PlayReaderModel" "toured" "I") := ⟨List.mem_append_right _ (List.mem_of_getElem? (i := 482) (by decide +kernel)), rfl⟩
theorem li_673 : lwI (.constantLong "PlayReaderModel" 119 (181 : Int64)) := ⟨List.mem_append_right _ (List.mem_of_getElem? (i := 673) (by decide +kernel)), rfl⟩
theorem li_674 : lwI (.constantLong "PlayReaderModel" 121 (31 : Int64)) := ⟨List.mem_append_right _ (List.mem_of_getElem? (i := 674) (by decide +kernel)), rfl⟩
theorem li_668 : lwI (.code ⟨"PlayReaderModel", "count", "(I)I"⟩ prog_8_method_38_code 5 (some .int)) := ⟨List.mem_append_right _ (List.mem_of_getElem? (i := 668) (by decide +kernel)), rfl⟩
theorem li_675 : lwI (.methodLink "PlayReaderModel" 123 ⟨"PlayReaderModel", "count", "(I)I"⟩) := ⟨List.mem_append_right _ (List.mem_of_getElem? (i := 675) (by decide +kernel)), rfl⟩
theorem li_666 : lwI (.instanceMethod ⟨"PlayReaderModel", "count", "(I)I"⟩) := ⟨List.mem_append_right _ (List.mem_of_getElem? (i := 666) (by decide +kernel)), rfl⟩
theorem li_667 : lwI (.selects "PlayReaderModel" ⟨"PlayReaderModel", "count", "(I)I"⟩ ⟨"PlayReaderModel", "count", "(I)I"⟩) := ⟨List.mem_append_right _ (List.mem_of_getElem? (i := 667) (by decide +kernel)), rfl⟩
theorem lay_X0 : ∀ k, k < 1 → (u_lay RX0 TX0 k) ∈ lw_tbl ∧ goodWord (u_lay RX0 TX0 k) = true := fun k hk => by
  have hp : ∀ j, j < 1 → tables_1[([33] : List Nat).getD j 0]? = some (u_lay RX0 TX0 j) ∧ goodWord (u_lay RX0 TX0 j) = true := by decide +kernel
  exact ⟨List.mem_append_right _ (List.mem_of_getElem? (hp k hk).1), (hp k hk).2⟩
theorem layw_X0 : ∀ w ∈ u_ws RX0 TX0 1, w ∈ lw_tbl ∧ goodWord w = true := fun w hw => by
  obtain ⟨k, hk, rfl⟩ := List.mem_map.mp hw
  exact lay_X0 k (List.mem_range.mp hk)
theorem lay_X1 : ∀ k, k < 3 → (u_lay RX1 TX1 k) ∈ lw_tbl ∧ goodWord (u_lay RX1 TX1 k) = true := fun k hk => by
  have hp : ∀ j, j < 3 → tables_1[([204, 206, 208] : List Nat).getD j 0]? = some (u_lay RX1 TX1 j) ∧ goodWord (u_lay RX1 TX1 j) = true := by decide +kernel
  exact ⟨List.mem_append_right _ (List.mem_of_getElem? (hp k hk).1), (hp k hk).2⟩
theorem layw_X1 : ∀ w ∈ u_ws RX1 TX1 3, w ∈ lw_tbl ∧ goodWord w = true := fun w hw => by
  obtain ⟨k, hk, rfl⟩ := List.mem_map.mp hw
  exact lay_X1 k (List.mem_range.mp hk)
theorem lay_X2 : ∀ k, k < 2 → (u_lay RX2 TX2 k) ∈ lw_tbl ∧ goodWord (u_lay RX2 TX2 k) = true := fun k hk => by
  have hp : ∀ j, j < 2 → tables_1[([54, 56] : List Nat).getD j 0]? = some (u_lay RX2 TX2 j) ∧ goodWord (u_lay RX2 TX2 j) = true := by decide +kernel
  exact ⟨List.mem_append_right _ (List.mem_of_getElem? (hp k hk).1), (hp k hk).2⟩
theorem layw_X2 : ∀ w ∈ u_ws RX2 TX2 2, w ∈ lw_tbl ∧ goodWord w = true := fun w hw => by
  obtain ⟨k, hk, rfl⟩ := List.mem_map.mp hw
  exact lay_X2 k (List.mem_range.mp hk)
theorem lay_X3 : ∀ k, k < 4 → (u_lay RX3 TX3 k) ∈ lw_tbl ∧ goodWord (u_lay RX3 TX3 k) = true := fun k hk => by
  have hp : ∀ j, j < 4 → tables_1[([339, 341, 343, 345] : List Nat).getD j 0]? = some (u_lay RX3 TX3 j) ∧ goodWord (u_lay RX3 TX3 j) = true := by decide +kernel
  exact ⟨List.mem_append_right _ (List.mem_of_getElem? (hp k hk).1), (hp k hk).2⟩
theorem layw_X3 : ∀ w ∈ u_ws RX3 TX3 4, w ∈ lw_tbl ∧ goodWord w = true := fun w hw => by
  obtain ⟨k, hk, rfl⟩ := List.mem_map.mp hw
  exact lay_X3 k (List.mem_range.mp hk)
theorem lay_X4 : ∀ k, k < 3 → (u_lay RX4 TX4 k) ∈ lw_tbl ∧ goodWord (u_lay RX4 TX4 k) = true := fun k hk => by
  have hp : ∀ j, j < 3 → tables_1[([64, 66, 68] : List Nat).getD j 0]? = some (u_lay RX4 TX4 j) ∧ goodWord (u_lay RX4 TX4 j) = true := by decide +kernel
  exact ⟨List.mem_append_right _ (List.mem_of_getElem? (hp k hk).1), (hp k hk).2⟩
theorem layw_X4 : ∀ w ∈ u_ws RX4 TX4 3, w ∈ lw_tbl ∧ goodWord w = true := fun w hw => by
  obtain ⟨k, hk, rfl⟩ := List.mem_map.mp hw
  exact lay_X4 k (List.mem_range.mp hk)
theorem lay_X5 : ∀ k, k < 10 → (u_lay RX5 TX5 k) ∈ lw_tbl ∧ goodWord (u_lay RX5 TX5 k) = true := fun k hk => by
  have hp : ∀ j, j < 10 → tables_1[([82, 84, 86, 88, 90, 92, 94, 96, 98, 100] : List Nat).getD j 0]? = some (u_lay RX5 TX5 j) ∧ goodWord (u_lay RX5 TX5 j) = true := by decide +kernel
  exact ⟨List.mem_append_right _ (List.mem_of_getElem? (hp k hk).1), (hp k hk).2⟩
theorem layw_X5 : ∀ w ∈ u_ws RX5 TX5 10, w ∈ lw_tbl ∧ goodWord w = true := fun w hw => by
  obtain ⟨k, hk, rfl⟩ := List.mem_map.mp hw
  exact lay_X5 k (List.mem_range.mp hk)
theorem lay_X6 : ∀ k, k < 20 → (u_lay RX6 TX6 k) ∈ lw_tbl ∧ goodWord (u_lay RX6 TX6 k) = true := fun k hk => by
  have hp : ∀ j, j < 20 → tables_1[([485, 487, 489, 491, 493, 495, 497, 499, 501, 503, 505, 507, 509, 511, 513, 515, 517, 519, 521, 523] : List Nat).getD j 0]? = some (u_lay RX6 TX6 j) ∧ goodWord (u_lay RX6 TX6 j) = true := by decide +kernel
  exact ⟨List.mem_append_right _ (List.mem_of_getElem? (hp k hk).1), (hp k hk).2⟩
theorem layw_X6 : ∀ w ∈ u_ws RX6 TX6 20, w ∈ lw_tbl ∧ goodWord w = true := fun w hw => by
  obtain ⟨k, hk, rfl⟩ := List.mem_map.mp hw
  exact lay_X6 k (List.mem_range.mp hk)
theorem lay_all : ∀ (ci : Nat) (q : vw_C), vwCl[ci]? = some q → ∀ w ∈ u_ws q.1 q.2.1 q.2.2, w ∈ lw_tbl ∧ goodWord w = true
  | 0, q, h => by cases h; exact layw_X0
  | 1, q, h => by cases h; exact layw_X1
  | 2, q, h => by cases h; exact layw_X2
  | 3, q, h => by cases h; exact layw_X3
  | 4, q, h => by cases h; exact layw_X4
  | 5, q, h => by cases h; exact layw_X5
  | 6, q, h => by cases h; exact layw_X6
  | k + 7, q, h => by simp [vwCl] at h
theorem oi_X5_1 : lwI (.methodLink RX5 1 objectInit) ∧ lwI (.instanceMethod objectInit) ∧ lwI (.code objectInit ⟨#[0xb1]⟩ 1 none) := ⟨li_15, li_16, li_17⟩
theorem cl_X5_9 : lwI (.classLink RX5 9 "PlayReader$Row") := li_18
theorem fp_X5_11 : FP RX5 11 5 0 true (.array (.object "PlayReader$Row")) := ⟨RX5, TX5, 10, RX5, tyX5, rfl, by decide, rfl, li_72, tyX5_ok, nmX5, rfl, by decide +kernel, fun _ => rfl⟩
theorem fp_X5_15 : FP RX5 15 5 1 true (.array (.object "PlayReader$Row")) := ⟨RX5, TX5, 10, RX5, tyX5, rfl, by decide, rfl, li_73, tyX5_ok, nmX5, rfl, by decide +kernel, fun _ => rfl⟩
theorem cl_X5_18 : lwI (.classLink RX5 18 "PlayReader$Condition") := li_20
theorem fp_X5_20 : FP RX5 20 5 2 true (.array (.object "PlayReader$Condition")) := ⟨RX5, TX5, 10, RX5, tyX5, rfl, by decide, rfl, li_74, tyX5_ok, nmX5, rfl, by decide +kernel, fun _ => rfl⟩
theorem cl_X5_24 : lwI (.classLink RX5 24 "PlayReader$Rule") := li_22
theorem fp_X5_26 : FP RX5 26 5 3 true (.array (.object "PlayReader$Rule")) := ⟨RX5, TX5, 10, RX5, tyX5, rfl, by decide, rfl, li_75, tyX5_ok, nmX5, rfl, by decide +kernel, fun _ => rfl⟩
theorem fp_X5_30 : FP RX5 30 5 4 true (.array .int) := ⟨RX5, TX5, 10, RX5, tyX5, rfl, by decide, rfl, li_76, tyX5_ok, nmX5, rfl, by decide +kernel, fun _ => rfl⟩
theorem nw_X5_34 : lwI (.classLink RX5 34 RX0) ∧ lwI (.instantiable RX0 1) ∧ lwI (.initialized RX0) := ⟨li_24, li_25, li_2⟩
theorem cf_X5_36 : CFn RX5 36 yX0_init cX0_init 1 none 0 := ⟨li_2, li_28, ⟨by decide +kernel, by decide +kernel⟩, by decide +kernel⟩
theorem ci_X0_init : yX0_init.name = "<init>" ∧ lwI (.instanceMethod yX0_init) := ⟨rfl, li_27⟩
theorem fp_X5_37 : FP RX5 37 5 5 true (.object "PlayReader$Changes") := ⟨RX5, TX5, 10, RX5, tyX5, rfl, by decide, rfl, li_77, tyX5_ok, nmX5, rfl, by decide +kernel, fun _ => rfl⟩
theorem nw_X5_41 : lwI (.classLink RX5 41 RX4) ∧ lwI (.instantiable RX4 3) ∧ lwI (.initialized RX4) := ⟨li_37, li_38, li_3⟩
theorem cf_X5_43 : CFn RX5 43 yX4_init cX4_init 1 none 0 := ⟨li_3, li_41, ⟨by decide +kernel, by decide +kernel⟩, by decide +kernel⟩
theorem ci_X4_init : yX4_init.name = "<init>" ∧ lwI (.instanceMethod yX4_init) := ⟨rfl, li_40⟩
theorem fp_X5_44 : FP RX5 44 5 6 true (.object "PlayReader$TourPlan") := ⟨RX5, TX5, 10, RX5, tyX5, rfl, by decide, rfl, li_78, tyX5_ok, nmX5, rfl, by decide +kernel, fun _ => rfl⟩
theorem nw_X5_9 : lwI (.classLink RX5 9 RX2) ∧ lwI (.instantiable RX2 2) ∧ lwI (.initialized RX2) := ⟨li_18, li_44, li_4⟩
theorem cf_X5_48 : CFn RX5 48 yX2_init cX2_init 1 none 0 := ⟨li_4, li_47, ⟨by decide +kernel, by decide +kernel⟩, by decide +kernel⟩
theorem ci_X2_init : yX2_init.name = "<init>" ∧ lwI (.instanceMethod yX2_init) := ⟨rfl, li_46⟩
theorem fp_X5_49 : FP RX5 49 5 7 true (.object "PlayReader$Row") := ⟨RX5, TX5, 10, RX5, tyX5, rfl, by decide, rfl, li_79, tyX5_ok, nmX5, rfl, by decide +kernel, fun _ => rfl⟩
theorem fp_X5_53 : FP RX5 53 5 8 false .int := ⟨RX5, TX5, 10, RX5, tyX5, rfl, by decide, rfl, li_80, tyX5_ok, nmX5, rfl, by decide +kernel, fun h => by cases h⟩
theorem fp_X5_57 : FP RX5 57 5 9 false .int := ⟨RX5, TX5, 10, RX5, tyX5, rfl, by decide, rfl, li_81, tyX5_ok, nmX5, rfl, by decide +kernel, fun h => by cases h⟩
theorem fa_X5_11 : FA RX5 11 5 0 := ⟨RX5, TX5, 10, RX5, rfl, by decide, rfl, li_72⟩
theorem fa_X5_15 : FA RX5 15 5 1 := ⟨RX5, TX5, 10, RX5, rfl, by decide, rfl, li_73⟩
theorem oi_X0_3 : lwI (.methodLink RX0 3 objectInit) ∧ lwI (.instanceMethod objectInit) ∧ lwI (.code objectInit ⟨#[0xb1]⟩ 1 none) := ⟨li_29, li_16, li_17⟩
theorem cl_X0_9 : lwI (.classLink RX0 9 "[[I") := li_30
theorem fp_X0_11 : FP RX0 11 0 0 true (.array (.array .int)) := ⟨RX0, TX0, 1, RX0, tyX0, rfl, by decide, rfl, li_32, tyX0_ok, nmX0, rfl, by decide +kernel, fun _ => rfl⟩
theorem oi_X4_3 : lwI (.methodLink RX4 3 objectInit) ∧ lwI (.instanceMethod objectInit) ∧ lwI (.code objectInit ⟨#[0xb1]⟩ 1 none) := ⟨li_42, li_16, li_17⟩
theorem nw_X4_9 : lwI (.classLink RX4 9 RX2) ∧ lwI (.instantiable RX2 2) ∧ lwI (.initialized RX2) := ⟨li_43, li_44, li_4⟩
theorem cf_X4_11 : CFn RX4 11 yX2_init cX2_init 1 none 0 := ⟨li_4, li_47, ⟨by decide +kernel, by decide +kernel⟩, by decide +kernel⟩
theorem fp_X4_12 : FP RX4 12 4 0 true (.object "PlayReader$Row") := ⟨RX4, TX4, 3, RX4, tyX4, rfl, by decide, rfl, li_60, tyX4_ok, nmX4, rfl, by decide +kernel, fun _ => rfl⟩
theorem cl_X4_18 : lwI (.classLink RX4 18 "[[I") := li_59
theorem fp_X4_20 : FP RX4 20 4 1 true (.array (.array .int)) := ⟨RX4, TX4, 3, RX4, tyX4, rfl, by decide, rfl, li_62, tyX4_ok, nmX4, rfl, by decide +kernel, fun _ => rfl⟩
theorem fp_X4_23 : FP RX4 23 4 2 true (.array .int) := ⟨RX4, TX4, 3, RX4, tyX4, rfl, by decide, rfl, li_63, tyX4_ok, nmX4, rfl, by decide +kernel, fun _ => rfl⟩
theorem oi_X2_3 : lwI (.methodLink RX2 3 objectInit) ∧ lwI (.instanceMethod objectInit) ∧ lwI (.code objectInit ⟨#[0xb1]⟩ 1 none) := ⟨li_48, li_16, li_17⟩
theorem fp_X2_9 : FP RX2 9 2 0 true (.array .int) := ⟨RX2, TX2, 2, RX2, tyX2, rfl, by decide, rfl, li_49, tyX2_ok, nmX2, rfl, by decide +kernel, fun _ => rfl⟩
theorem fp_X2_15 : FP RX2 15 2 1 false .int := ⟨RX2, TX2, 2, RX2, tyX2, rfl, by decide, rfl, li_50, tyX2_ok, nmX2, rfl, by decide +kernel, fun h => by cases h⟩
theorem cf_X5_60 : CF RX5 60 yX5_rowOf cX5_rowOf 2 (some (.object "PlayReader$Row")) 2 := ⟨li_107, li_1, li_109, ⟨by decide +kernel, by decide +kernel⟩, by decide +kernel⟩
theorem cs_X5_rowOf : lwI (.static yX5_rowOf) := li_108
theorem fa_X5_64 : FA RX5 64 2 1 := ⟨RX2, TX2, 2, RX2, rfl, by decide, rfl, li_52⟩
theorem cf_X5_67 : CF RX5 67 yX5_isLine cX5_isLine 1 (some .boolean) 1 := ⟨li_110, li_1, li_112, ⟨by decide +kernel, by decide +kernel⟩, by decide +kernel⟩
theorem cs_X5_isLine : lwI (.static yX5_isLine) := li_111
theorem cf_X5_71 : CF RX5 71 yX2_isFull cX2_isFull 1 (some .boolean) 0 := ⟨li_113, li_4, li_116, ⟨by decide +kernel, by decide +kernel⟩, by decide +kernel⟩
theorem cv_X2_isFull : lwI (.instanceMethod yX2_isFull) ∧ lwI (.selects yX2_isFull.cls yX2_isFull yX2_isFull) := ⟨li_114, li_115⟩
theorem cf_X5_75 : CF RX5 75 yX2_insert cX2_insert 4 none 2 := ⟨li_117, li_4, li_120, ⟨by decide +kernel, by decide +kernel⟩, by decide +kernel⟩
theorem cv_X2_insert : lwI (.instanceMethod yX2_insert) ∧ lwI (.selects yX2_insert.cls yX2_insert yX2_insert) := ⟨li_118, li_119⟩
theorem fa_X2_15 : FA RX2 15 2 1 := ⟨RX2, TX2, 2, RX2, rfl, by decide, rfl, li_50⟩
theorem fa_X2_9 : FA RX2 9 2 0 := ⟨RX2, TX2, 2, RX2, rfl, by decide, rfl, li_49⟩
theorem cf_X2_23 : CF RX2 23 yX2_isFull cX2_isFull 1 (some .boolean) 0 := ⟨li_121, li_4, li_116, ⟨by decide +kernel, by decide +kernel⟩, by decide +kernel⟩
theorem cf_X5_79 : CF RX5 79 yX2_has cX2_has 2 (some .boolean) 1 := ⟨li_126, li_4, li_129, ⟨by decide +kernel, by decide +kernel⟩, by decide +kernel⟩
theorem cv_X2_has : lwI (.instanceMethod yX2_has) ∧ lwI (.selects yX2_has.cls yX2_has yX2_has) := ⟨li_127, li_128⟩
theorem cf_X5_82 : CF RX5 82 yX2_at cX2_at 2 (some .int) 1 := ⟨li_130, li_4, li_133, ⟨by decide +kernel, by decide +kernel⟩, by decide +kernel⟩
theorem cv_X2_at : lwI (.instanceMethod yX2_at) ∧ lwI (.selects yX2_at.cls yX2_at yX2_at) := ⟨li_131, li_132⟩
theorem cf_X5_86 : CF RX5 86 yX2_remove cX2_remove 3 none 1 := ⟨li_135, li_4, li_138, ⟨by decide +kernel, by decide +kernel⟩, by decide +kernel⟩
theorem cv_X2_remove : lwI (.instanceMethod yX2_remove) ∧ lwI (.selects yX2_remove.cls yX2_remove yX2_remove) := ⟨li_136, li_137⟩
theorem cf_X2_19 : CF RX2 19 yX2_has cX2_has 2 (some .boolean) 1 := ⟨li_134, li_4, li_129, ⟨by decide +kernel, by decide +kernel⟩, by decide +kernel⟩
theorem cf_X5_90 : CF RX5 90 yX2_become cX2_become 3 none 1 := ⟨li_143, li_4, li_146, ⟨by decide +kernel, by decide +kernel⟩, by decide +kernel⟩
theorem cv_X2_become : lwI (.instanceMethod yX2_become) ∧ lwI (.selects yX2_become.cls yX2_become yX2_become) := ⟨li_144, li_145⟩
theorem cf_X2_27 : CF RX2 27 yX2_at cX2_at 2 (some .int) 1 := ⟨li_147, li_4, li_133, ⟨by decide +kernel, by decide +kernel⟩, by decide +kernel⟩
theorem fa_X5_37 : FA RX5 37 5 5 := ⟨RX5, TX5, 10, RX5, rfl, by decide, rfl, li_77⟩
theorem cf_X5_94 : CF RX5 94 yX0_compare cX0_compare 5 none 2 := ⟨li_156, li_2, li_159, ⟨by decide +kernel, by decide +kernel⟩, by decide +kernel⟩
theorem cv_X0_compare : lwI (.instanceMethod yX0_compare) ∧ lwI (.selects yX0_compare.cls yX0_compare yX0_compare) := ⟨li_157, li_158⟩
theorem cf_X5_98 : CF RX5 98 yX0_difference cX0_difference 1 (some .int) 0 := ⟨li_173, li_2, li_176, ⟨by decide +kernel, by decide +kernel⟩, by decide +kernel⟩
theorem cv_X0_difference : lwI (.instanceMethod yX0_difference) ∧ lwI (.selects yX0_difference.cls yX0_difference yX0_difference) := ⟨li_174, li_175⟩
theorem fa_X0_16 : FA RX0 16 2 1 := ⟨RX2, TX2, 2, RX2, rfl, by decide, rfl, li_51⟩
theorem mm_X0_22 : lwI (.methodLink RX0 22 Lib.Math.min.name) ∧ lwI (.static Lib.Math.min.name) ∧ lwI (.initialized "java/lang/Math") ∧ lwI (.code Lib.Math.min.name Lib.Math.min.code 2 (some .int)) := ⟨li_160, li_161, li_6, li_162⟩
theorem fa_X0_11 : FA RX0 11 0 0 := ⟨RX0, TX0, 1, RX0, rfl, by decide, rfl, li_32⟩
theorem cf_X0_28 : CF RX0 28 yX0_differenceFrom cX0_differenceFrom 5 (some .int) 4 := ⟨li_163, li_2, li_166, ⟨by decide +kernel, by decide +kernel⟩, by decide +kernel⟩
theorem cv_X0_differenceFrom : lwI (.instanceMethod yX0_differenceFrom) ∧ lwI (.selects yX0_differenceFrom.cls yX0_differenceFrom yX0_differenceFrom) := ⟨li_164, li_165⟩
theorem cf_X0_35 : CF RX0 35 yX2_has cX2_has 2 (some .boolean) 1 := ⟨li_167, li_4, li_129, ⟨by decide +kernel, by decide +kernel⟩, by decide +kernel⟩
theorem cf_X0_39 : CF RX0 39 yX2_at cX2_at 2 (some .int) 1 := ⟨li_168, li_4, li_133, ⟨by decide +kernel, by decide +kernel⟩, by decide +kernel⟩
theorem cf_X0_32 : CF RX0 32 yX0_leftFrom cX0_leftFrom 3 (some .int) 2 := ⟨li_169, li_2, li_172, ⟨by decide +kernel, by decide +kernel⟩, by decide +kernel⟩
theorem cv_X0_leftFrom : lwI (.instanceMethod yX0_leftFrom) ∧ lwI (.selects yX0_leftFrom.cls yX0_leftFrom yX0_leftFrom) := ⟨li_170, li_171⟩
theorem cf_X5_102 : CF RX5 102 yX0_stepAt cX0_stepAt 8 (some .int) 3 := ⟨li_181, li_2, li_184, ⟨by decide +kernel, by decide +kernel⟩, by decide +kernel⟩
theorem cv_X0_stepAt : lwI (.instanceMethod yX0_stepAt) ∧ lwI (.selects yX0_stepAt.cls yX0_stepAt yX0_stepAt) := ⟨li_182, li_183⟩
theorem cf_X0_43 : CF RX0 43 yX0_stepFrom cX0_stepFrom 6 (some .int) 4 := ⟨li_185, li_2, li_188, ⟨by decide +kernel, by decide +kernel⟩, by decide +kernel⟩
theorem cv_X0_stepFrom : lwI (.instanceMethod yX0_stepFrom) ∧ lwI (.selects yX0_stepFrom.cls yX0_stepFrom yX0_stepFrom) := ⟨li_186, li_187⟩
theorem fa_X5_53 : FA RX5 53 5 8 := ⟨RX5, TX5, 10, RX5, rfl, by decide, rfl, li_80⟩
theorem fa_X5_20 : FA RX5 20 5 2 := ⟨RX5, TX5, 10, RX5, rfl, by decide, rfl, li_74⟩
theorem nw_X5_18 : lwI (.classLink RX5 18 RX1) ∧ lwI (.instantiable RX1 3) ∧ lwI (.initialized RX1) := ⟨li_20, li_193, li_7⟩
theorem cf_X5_106 : CF RX5 106 yX1_init cX1_init 4 none 3 := ⟨li_194, li_7, li_196, ⟨by decide +kernel, by decide +kernel⟩, by decide +kernel⟩
theorem ci_X1_init : yX1_init.name = "<init>" ∧ lwI (.instanceMethod yX1_init) := ⟨rfl, li_195⟩
theorem oi_X1_3 : lwI (.methodLink RX1 3 objectInit) ∧ lwI (.instanceMethod objectInit) ∧ lwI (.code objectInit ⟨#[0xb1]⟩ 1 none) := ⟨li_197, li_16, li_17⟩
theorem fp_X1_9 : FP RX1 9 1 0 true .int := ⟨RX1, TX1, 3, RX1, tyX1, rfl, by decide, rfl, li_198, tyX1_ok, nmX1, rfl, by decide +kernel, fun _ => rfl⟩
theorem fp_X1_15 : FP RX1 15 1 1 true .int := ⟨RX1, TX1, 3, RX1, tyX1, rfl, by decide, rfl, li_200, tyX1_ok, nmX1, rfl, by decide +kernel, fun _ => rfl⟩
theorem fp_X1_18 : FP RX1 18 1 2 true .int := ⟨RX1, TX1, 3, RX1, tyX1, rfl, by decide, rfl, li_202, tyX1_ok, nmX1, rfl, by decide +kernel, fun _ => rfl⟩
theorem cf_X5_109 : CF RX5 109 yX5_conditionOf cX5_conditionOf 2 (some (.object "PlayReader$Condition")) 1 := ⟨li_219, li_1, li_222, ⟨by decide +kernel, by decide +kernel⟩, by decide +kernel⟩
theorem cv_X5_conditionOf : lwI (.instanceMethod yX5_conditionOf) ∧ lwI (.selects yX5_conditionOf.cls yX5_conditionOf yX5_conditionOf) := ⟨li_221, ls_0⟩
theorem cf_X5_113 : CF RX5 113 yX5_judgementOf cX5_judgementOf 2 (some .int) 2 := ⟨li_223, li_1, li_225, ⟨by decide +kernel, by decide +kernel⟩, by decide +kernel⟩
theorem cs_X5_judgementOf : lwI (.static yX5_judgementOf) := li_224
theorem cf_X5_212 : CF RX5 212 yX1_judgement cX1_judgement 7 (some .int) 1 := ⟨li_226, li_7, li_229, ⟨by decide +kernel, by decide +kernel⟩, by decide +kernel⟩
theorem cv_X1_judgement : lwI (.instanceMethod yX1_judgement) ∧ lwI (.selects yX1_judgement.cls yX1_judgement yX1_judgement) := ⟨li_227, li_228⟩
theorem cf_X1_21 : CF RX1 21 yX1_statesBehind cX1_statesBehind 6 (some .long) 1 := ⟨li_230, li_7, li_233, ⟨by decide +kernel, by decide +kernel⟩, by decide +kernel⟩
theorem cv_X1_statesBehind : lwI (.instanceMethod yX1_statesBehind) ∧ lwI (.selects yX1_statesBehind.cls yX1_statesBehind yX1_statesBehind) := ⟨li_231, li_232⟩
theorem cf_X1_25 : CF RX1 25 yX1_lastState cX1_lastState 1 (some .int) 0 := ⟨li_239, li_7, li_242, ⟨by decide +kernel, by decide +kernel⟩, by decide +kernel⟩
theorem cv_X1_lastState : lwI (.instanceMethod yX1_lastState) ∧ lwI (.selects yX1_lastState.cls yX1_lastState yX1_lastState) := ⟨li_240, li_241⟩
theorem cf_X1_29 : CFn RX1 29 yX5_hasBit cX5_hasBit 3 (some .boolean) 2 := ⟨li_1, li_245, ⟨by decide +kernel, by decide +kernel⟩, by decide +kernel⟩
theorem cs_X5_hasBit : lwI (.static yX5_hasBit) := li_244
theorem cf_X1_33 : CF RX1 33 yX1_isBroken cX1_isBroken 2 (some .boolean) 1 := ⟨li_254, li_7, li_257, ⟨by decide +kernel, by decide +kernel⟩, by decide +kernel⟩
theorem cv_X1_isBroken : lwI (.instanceMethod yX1_isBroken) ∧ lwI (.selects yX1_isBroken.cls yX1_isBroken yX1_isBroken) := ⟨li_255, li_256⟩
theorem fa_X1_37 : FA RX1 37 2 1 := ⟨RX2, TX2, 2, RX2, rfl, by decide, rfl, li_53⟩
theorem cf_X1_42 : CF RX1 42 yX2_at cX2_at 2 (some .int) 1 := ⟨li_234, li_4, li_133, ⟨by decide +kernel, by decide +kernel⟩, by decide +kernel⟩
theorem cf_X1_46 : CF RX1 46 yX1_statesBehindGap cX1_statesBehindGap 9 (some .long) 1 := ⟨li_235, li_7, li_238, ⟨by decide +kernel, by decide +kernel⟩, by decide +kernel⟩
theorem cv_X1_statesBehindGap : lwI (.instanceMethod yX1_statesBehindGap) ∧ lwI (.selects yX1_statesBehindGap.cls yX1_statesBehindGap yX1_statesBehindGap) := ⟨li_236, li_237⟩
theorem cf_X1_50 : CF RX1 50 yX1_statesBehindLine cX1_statesBehindLine 7 (some .long) 2 := ⟨li_250, li_7, li_253, ⟨by decide +kernel, by decide +kernel⟩, by decide +kernel⟩
theorem cv_X1_statesBehindLine : lwI (.instanceMethod yX1_statesBehindLine) ∧ lwI (.selects yX1_statesBehindLine.cls yX1_statesBehindLine yX1_statesBehindLine) := ⟨li_251, li_252⟩
theorem fa_X1_15 : FA RX1 15 1 1 := ⟨RX1, TX1, 3, RX1, rfl, by decide, rfl, li_200⟩
theorem cf_X1_54 : CF RX1 54 yX1_next cX1_next 3 (some .int) 2 := ⟨li_246, li_7, li_249, ⟨by decide +kernel, by decide +kernel⟩, by decide +kernel⟩
theorem cv_X1_next : lwI (.instanceMethod yX1_next) ∧ lwI (.selects yX1_next.cls yX1_next yX1_next) := ⟨li_247, li_248⟩
theorem fa_X1_18 : FA RX1 18 1 2 := ⟨RX1, TX1, 3, RX1, rfl, by decide, rfl, li_202⟩
theorem fa_X1_9 : FA RX1 9 1 0 := ⟨RX1, TX1, 3, RX1, rfl, by decide, rfl, li_198⟩
theorem cf_X5_117 : CF RX5 117 yX2_empty cX2_empty 1 none 0 := ⟨li_266, li_4, li_269, ⟨by decide +kernel, by decide +kernel⟩, by decide +kernel⟩
theorem cv_X2_empty : lwI (.instanceMethod yX2_empty) ∧ lwI (.selects yX2_empty.cls yX2_empty yX2_empty) := ⟨li_267, li_268⟩
theorem mm_X5_120 : lwI (.methodLink RX5 120 Lib.Math.max.name) ∧ lwI (.static Lib.Math.max.name) ∧ lwI (.initialized "java/lang/Math") ∧ lwI (.code Lib.Math.max.name Lib.Math.max.code 2 (some .int)) := ⟨li_282, li_283, li_6, li_284⟩
theorem fa_X5_49 : FA RX5 49 5 7 := ⟨RX5, TX5, 10, RX5, rfl, by decide, rfl, li_79⟩
theorem cf_X5_126 : CF RX5 126 yX5_isQuarrel cX5_isQuarrel 2 (some .boolean) 2 := ⟨li_289, li_1, li_291, ⟨by decide +kernel, by decide +kernel⟩, by decide +kernel⟩
theorem cs_X5_isQuarrel : lwI (.static yX5_isQuarrel) := li_290
theorem cf_X5_130 : CF RX5 130 yX5_heardByTwo cX5_heardByTwo 2 (some .int) 2 := ⟨li_292, li_1, li_294, ⟨by decide +kernel, by decide +kernel⟩, by decide +kernel⟩
theorem cs_X5_heardByTwo : lwI (.static yX5_heardByTwo) := li_293
theorem cf_X5_133 : CF RX5 133 yX5_placesBehind cX5_placesBehind 6 (some .long) 2 := ⟨li_299, li_1, li_301, ⟨by decide +kernel, by decide +kernel⟩, by decide +kernel⟩
theorem cs_X5_placesBehind : lwI (.static yX5_placesBehind) := li_300
theorem cf_X5_137 : CF RX5 137 yX5_hasBit cX5_hasBit 3 (some .boolean) 2 := ⟨li_305, li_1, li_245, ⟨by decide +kernel, by decide +kernel⟩, by decide +kernel⟩
theorem cf_X5_215 : CF RX5 215 yX5_placesBehindGap cX5_placesBehindGap 6 (some .long) 2 := ⟨li_302, li_1, li_304, ⟨by decide +kernel, by decide +kernel⟩, by decide +kernel⟩
theorem cs_X5_placesBehindGap : lwI (.static yX5_placesBehindGap) := li_303
theorem cf_X5_219 : CF RX5 219 yX5_placesBehindLine cX5_placesBehindLine 7 (some .long) 3 := ⟨li_306, li_1, li_308, ⟨by decide +kernel, by decide +kernel⟩, by decide +kernel⟩
theorem cs_X5_placesBehindLine : lwI (.static yX5_placesBehindLine) := li_307
theorem cf_X5_141 : CF RX5 141 yX5_isMarks cX5_isMarks 1 (some .boolean) 1 := ⟨li_313, li_1, li_315, ⟨by decide +kernel, by decide +kernel⟩, by decide +kernel⟩
theorem cs_X5_isMarks : lwI (.static yX5_isMarks) := li_314
theorem fa_X5_30 : FA RX5 30 5 4 := ⟨RX5, TX5, 10, RX5, rfl, by decide, rfl, li_76⟩
theorem cf_X5_144 : CF RX5 144 yX5_isTown cX5_isTown 1 (some .boolean) 1 := ⟨li_320, li_1, li_322, ⟨by decide +kernel, by decide +kernel⟩, by decide +kernel⟩
theorem cs_X5_isTown : lwI (.static yX5_isTown) := li_321
theorem cf_X5_147 : CF RX5 147 yX5_isDay cX5_isDay 1 (some .boolean) 1 := ⟨li_323, li_1, li_325, ⟨by decide +kernel, by decide +kernel⟩, by decide +kernel⟩
theorem cs_X5_isDay : lwI (.static yX5_isDay) := li_324
theorem fa_X5_57 : FA RX5 57 5 9 := ⟨RX5, TX5, 10, RX5, rfl, by decide, rfl, li_81⟩
theorem fa_X5_26 : FA RX5 26 5 3 := ⟨RX5, TX5, 10, RX5, rfl, by decide, rfl, li_75⟩
theorem nw_X5_24 : lwI (.classLink RX5 24 RX3) ∧ lwI (.instantiable RX3 4) ∧ lwI (.initialized RX3) := ⟨li_22, li_326, li_8⟩
theorem cf_X5_150 : CF RX5 150 yX3_init cX3_init 5 none 4 := ⟨li_327, li_8, li_329, ⟨by decide +kernel, by decide +kernel⟩, by decide +kernel⟩
theorem ci_X3_init : yX3_init.name = "<init>" ∧ lwI (.instanceMethod yX3_init) := ⟨rfl, li_328⟩
theorem oi_X3_1 : lwI (.methodLink RX3 1 objectInit) ∧ lwI (.instanceMethod objectInit) ∧ lwI (.code objectInit ⟨#[0xb1]⟩ 1 none) := ⟨li_330, li_16, li_17⟩
theorem fp_X3_7 : FP RX3 7 3 0 true .int := ⟨RX3, TX3, 4, RX3, tyX3, rfl, by decide, rfl, li_331, tyX3_ok, nmX3, rfl, by decide +kernel, fun _ => rfl⟩
theorem fp_X3_13 : FP RX3 13 3 1 true .int := ⟨RX3, TX3, 4, RX3, tyX3, rfl, by decide, rfl, li_333, tyX3_ok, nmX3, rfl, by decide +kernel, fun _ => rfl⟩
theorem fp_X3_16 : FP RX3 16 3 2 true .int := ⟨RX3, TX3, 4, RX3, tyX3, rfl, by decide, rfl, li_335, tyX3_ok, nmX3, rfl, by decide +kernel, fun _ => rfl⟩
theorem fp_X3_19 : FP RX3 19 3 3 true .int := ⟨RX3, TX3, 4, RX3, tyX3, rfl, by decide, rfl, li_337, tyX3_ok, nmX3, rfl, by decide +kernel, fun _ => rfl⟩
theorem cf_X5_153 : CF RX5 153 yX5_forbiddenMarks cX5_forbiddenMarks 6 (some .int) 2 := ⟨li_352, li_1, li_355, ⟨by decide +kernel, by decide +kernel⟩, by decide +kernel⟩
theorem cv_X5_forbiddenMarks : lwI (.instanceMethod yX5_forbiddenMarks) ∧ lwI (.selects yX5_forbiddenMarks.cls yX5_forbiddenMarks yX5_forbiddenMarks) := ⟨li_354, ls_1⟩
theorem cf_X5_156 : CF RX5 156 yX5_linesWith cX5_linesWith 5 (some .int) 2 := ⟨li_364, li_1, li_367, ⟨by decide +kernel, by decide +kernel⟩, by decide +kernel⟩
theorem cv_X5_linesWith : lwI (.instanceMethod yX5_linesWith) ∧ lwI (.selects yX5_linesWith.cls yX5_linesWith yX5_linesWith) := ⟨li_366, ls_3⟩
theorem cf_X5_223 : CF RX5 223 yX5_ruleOf cX5_ruleOf 2 (some (.object "PlayReader$Rule")) 1 := ⟨li_356, li_1, li_359, ⟨by decide +kernel, by decide +kernel⟩, by decide +kernel⟩
theorem cv_X5_ruleOf : lwI (.instanceMethod yX5_ruleOf) ∧ lwI (.selects yX5_ruleOf.cls yX5_ruleOf yX5_ruleOf) := ⟨li_358, ls_2⟩
theorem cf_X5_227 : CF RX5 227 yX3_isInForce cX3_isInForce 3 (some .boolean) 2 := ⟨li_360, li_8, li_363, ⟨by decide +kernel, by decide +kernel⟩, by decide +kernel⟩
theorem cv_X3_isInForce : lwI (.instanceMethod yX3_isInForce) ∧ lwI (.selects yX3_isInForce.cls yX3_isInForce yX3_isInForce) := ⟨li_361, li_362⟩
theorem fa_X5_230 : FA RX5 230 3 1 := ⟨RX3, TX3, 4, RX3, rfl, by decide, rfl, li_334⟩
theorem fa_X3_7 : FA RX3 7 3 0 := ⟨RX3, TX3, 4, RX3, rfl, by decide, rfl, li_331⟩
theorem fa_X3_16 : FA RX3 16 3 2 := ⟨RX3, TX3, 4, RX3, rfl, by decide, rfl, li_335⟩
theorem fa_X3_19 : FA RX3 19 3 3 := ⟨RX3, TX3, 4, RX3, rfl, by decide, rfl, li_337⟩
theorem cf_X5_160 : CF RX5 160 yX5_marksOf cX5_marksOf 2 (some .int) 1 := ⟨li_368, li_1, li_371, ⟨by decide +kernel, by decide +kernel⟩, by decide +kernel⟩
theorem cv_X5_marksOf : lwI (.instanceMethod yX5_marksOf) ∧ lwI (.selects yX5_marksOf.cls yX5_marksOf yX5_marksOf) := ⟨li_370, ls_4⟩
theorem cf_X5_163 : CF RX5 163 yJ6_bitCount_0f7a4 cJ6_bitCount_0f7a4 1 (some .int) 1 := ⟨li_380, li_9, li_382, ⟨by decide +kernel, by decide +kernel⟩, by decide +kernel⟩
theorem cs_J6_bitCount_0f7a4 : lwI (.static yJ6_bitCount_0f7a4) := li_381
theorem fa_X5_44 : FA RX5 44 5 6 := ⟨RX5, TX5, 10, RX5, rfl, by decide, rfl, li_78⟩
theorem cf_X5_168 : CF RX5 168 yX4_setCuts cX4_setCuts 4 none 3 := ⟨li_386, li_3, li_389, ⟨by decide +kernel, by decide +kernel⟩, by decide +kernel⟩
theorem cv_X4_setCuts : lwI (.instanceMethod yX4_setCuts) ∧ lwI (.selects yX4_setCuts.cls yX4_setCuts yX4_setCuts) := ⟨li_387, li_388⟩
theorem cf_X5_171 : CF RX5 171 yX4_find cX4_find 5 (some .int) 1 := ⟨li_391, li_3, li_394, ⟨by decide +kernel, by decide +kernel⟩, by decide +kernel⟩
theorem cv_X4_find : lwI (.instanceMethod yX4_find) ∧ lwI (.selects yX4_find.cls yX4_find yX4_find) := ⟨li_392, li_393⟩
theorem lc_J6_265 : lwI (.constant "java/lang/Integer" 265 (1431655765 : Int32)) := li_383
theorem lc_J6_266 : lwI (.constant "java/lang/Integer" 266 (858993459 : Int32)) := li_384
theorem lc_J6_267 : lwI (.constant "java/lang/Integer" 267 (252645135 : Int32)) := li_385
theorem cf_X4_27 : CFn RX4 27 yX5_isTown cX5_isTown 1 (some .boolean) 1 := ⟨li_1, li_322, ⟨by decide +kernel, by decide +kernel⟩, by decide +kernel⟩
theorem fa_X4_20 : FA RX4 20 4 1 := ⟨RX4, TX4, 3, RX4, rfl, by decide, rfl, li_62⟩
theorem fa_X4_23 : FA RX4 23 4 2 := ⟨RX4, TX4, 3, RX4, rfl, by decide, rfl, li_63⟩
theorem cf_X4_31 : CF RX4 31 yX4_fewestBehind cX4_fewestBehind 4 (some .int) 2 := ⟨li_395, li_3, li_398, ⟨by decide +kernel, by decide +kernel⟩, by decide +kernel⟩
theorem cv_X4_fewestBehind : lwI (.instanceMethod yX4_fewestBehind) ∧ lwI (.selects yX4_fewestBehind.cls yX4_fewestBehind yX4_fewestBehind) := ⟨li_396, li_397⟩
theorem fa_X4_12 : FA RX4 12 4 0 := ⟨RX4, TX4, 3, RX4, rfl, by decide, rfl, li_60⟩
theorem cf_X4_35 : CF RX4 35 yX2_empty cX2_empty 1 none 0 := ⟨li_409, li_4, li_269, ⟨by decide +kernel, by decide +kernel⟩, by decide +kernel⟩
theorem cf_X4_38 : CF RX4 38 yX4_nextTown cX4_nextTown 5 (some .int) 2 := ⟨li_399, li_3, li_402, ⟨by decide +kernel, by decide +kernel⟩, by decide +kernel⟩
theorem cv_X4_nextTown : lwI (.instanceMethod yX4_nextTown) ∧ lwI (.selects yX4_nextTown.cls yX4_nextTown yX4_nextTown) := ⟨li_400, li_401⟩
theorem cf_X4_41 : CF RX4 41 yX2_insert cX2_insert 4 none 2 := ⟨li_410, li_4, li_120, ⟨by decide +kernel, by decide +kernel⟩, by decide +kernel⟩
theorem cf_X4_45 : CF RX4 45 yX4_cutsBy cX4_cutsBy 5 (some .int) 2 := ⟨li_404, li_3, li_407, ⟨by decide +kernel, by decide +kernel⟩, by decide +kernel⟩
theorem cv_X4_cutsBy : lwI (.instanceMethod yX4_cutsBy) ∧ lwI (.selects yX4_cutsBy.cls yX4_cutsBy yX4_cutsBy) := ⟨li_405, li_406⟩
theorem cf_X4_48 : CFn RX4 48 yX5_hasBit cX5_hasBit 3 (some .boolean) 2 := ⟨li_1, li_245, ⟨by decide +kernel, by decide +kernel⟩, by decide +kernel⟩
theorem cf_X4_52 : CF RX4 52 yJ6_bitCount_0f7a4 cJ6_bitCount_0f7a4 1 (some .int) 1 := ⟨li_408, li_9, li_382, ⟨by decide +kernel, by decide +kernel⟩, by decide +kernel⟩
theorem fa_X5_174 : FA RX5 174 4 0 := ⟨RX4, TX4, 3, RX4, rfl, by decide, rfl, li_61⟩
theorem cf_X5_177 : CF RX5 177 yX5_marksOfAll cX5_marksOfAll 4 (some .int) 1 := ⟨li_419, li_1, li_422, ⟨by decide +kernel, by decide +kernel⟩, by decide +kernel⟩
theorem cv_X5_marksOfAll : lwI (.instanceMethod yX5_marksOfAll) ∧ lwI (.selects yX5_marksOfAll.cls yX5_marksOfAll yX5_marksOfAll) := ⟨li_421, ls_5⟩
theorem cf_X5_181 : CF RX5 181 yX5_lastForbiddenDay cX5_lastForbiddenDay 7 (some .int) 3 := ⟨li_423, li_1, li_426, ⟨by decide +kernel, by decide +kernel⟩, by decide +kernel⟩
theorem cv_X5_lastForbiddenDay : lwI (.instanceMethod yX5_lastForbiddenDay) ∧ lwI (.selects yX5_lastForbiddenDay.cls yX5_lastForbiddenDay yX5_lastForbiddenDay) := ⟨li_425, ls_6⟩
theorem fa_X5_232 : FA RX5 232 3 3 := ⟨RX3, TX3, 4, RX3, rfl, by decide, rfl, li_338⟩
theorem cf_X5_185 : CF RX5 185 yX5_thingsIn cX5_thingsIn 4 (some .int) 1 := ⟨li_431, li_1, li_433, ⟨by decide +kernel, by decide +kernel⟩, by decide +kernel⟩
theorem cs_X5_thingsIn : lwI (.static yX5_thingsIn) := li_432
theorem cf_X5_189 : CF RX5 189 yX5_gapsHeard cX5_gapsHeard 5 (some .int) 0 := ⟨li_434, li_1, li_437, ⟨by decide +kernel, by decide +kernel⟩, by decide +kernel⟩
theorem cv_X5_gapsHeard : lwI (.instanceMethod yX5_gapsHeard) ∧ lwI (.selects yX5_gapsHeard.cls yX5_gapsHeard yX5_gapsHeard) := ⟨li_436, ls_7⟩
theorem lc_X5_192 : lwI (.constantLong "PlayReader" 192 (181 : Int64)) := li_442
theorem cf_X5_194 : CF RX5 194 yX5_count cX5_count 2 (some .int) 1 := ⟨li_443, li_1, li_430, ⟨by decide +kernel, by decide +kernel⟩, by decide +kernel⟩
theorem cv_X5_count : lwI (.instanceMethod yX5_count) ∧ lwI (.selects yX5_count.cls yX5_count yX5_count) := ⟨li_428, li_429⟩
theorem cf_X5_197 : CF RX5 197 yX5_mixed cX5_mixed 3 (some .long) 2 := ⟨li_444, li_1, li_446, ⟨by decide +kernel, by decide +kernel⟩, by decide +kernel⟩
theorem cs_X5_mixed : lwI (.static yX5_mixed) := li_445
theorem cf_X5_201 : CF RX5 201 yX5_mixedRows cX5_mixedRows 8 (some .long) 2 := ⟨li_448, li_1, li_450, ⟨by decide +kernel, by decide +kernel⟩, by decide +kernel⟩
theorem cs_X5_mixedRows : lwI (.static yX5_mixedRows) := li_449
theorem cf_X5_205 : CF RX5 205 yX5_mixedRules cX5_mixedRules 7 (some .long) 1 := ⟨li_451, li_1, li_454, ⟨by decide +kernel, by decide +kernel⟩, by decide +kernel⟩
theorem cv_X5_mixedRules : lwI (.instanceMethod yX5_mixedRules) ∧ lwI (.selects yX5_mixedRules.cls yX5_mixedRules yX5_mixedRules) := ⟨li_453, ls_8⟩
theorem cf_X5_209 : CF RX5 209 yX5_mixedConditions cX5_mixedConditions 7 (some .long) 1 := ⟨li_455, li_1, li_458, ⟨by decide +kernel, by decide +kernel⟩, by decide +kernel⟩
theorem cv_X5_mixedConditions : lwI (.instanceMethod yX5_mixedConditions) ∧ lwI (.selects yX5_mixedConditions.cls yX5_mixedConditions yX5_mixedConditions) := ⟨li_457, ls_9⟩
theorem lc_X5_235 : lwI (.constantLong "PlayReader" 235 (31 : Int64)) := li_447
theorem fa_X5_237 : FA RX5 237 3 0 := ⟨RX3, TX3, 4, RX3, rfl, by decide, rfl, li_332⟩
theorem fa_X5_240 : FA RX5 240 3 2 := ⟨RX3, TX3, 4, RX3, rfl, by decide, rfl, li_336⟩
theorem fa_X5_243 : FA RX5 243 1 0 := ⟨RX1, TX1, 3, RX1, rfl, by decide, rfl, li_199⟩
theorem fa_X5_246 : FA RX5 246 1 1 := ⟨RX1, TX1, 3, RX1, rfl, by decide, rfl, li_201⟩
theorem fa_X5_249 : FA RX5 249 1 2 := ⟨RX1, TX1, 3, RX1, rfl, by decide, rfl, li_203⟩
theorem oi_X6_1 : lwI (.methodLink RX6 1 objectInit) ∧ lwI (.instanceMethod objectInit) ∧ lwI (.code objectInit ⟨#[0xb1]⟩ 1 none) := ⟨li_464, li_16, li_17⟩
theorem fp_X6_7 : FP RX6 7 6 0 true (.array .int) := ⟨RX6, TX6, 20, RX6, tyX6, rfl, by decide, rfl, li_465, tyX6_ok, nmX6, rfl, by decide +kernel, fun _ => rfl⟩
theorem fp_X6_13 : FP RX6 13 6 1 true (.array .int) := ⟨RX6, TX6, 20, RX6, tyX6, rfl, by decide, rfl, li_466, tyX6_ok, nmX6, rfl, by decide +kernel, fun _ => rfl⟩
theorem fp_X6_16 : FP RX6 16 6 2 true (.array .int) := ⟨RX6, TX6, 20, RX6, tyX6, rfl, by decide, rfl, li_467, tyX6_ok, nmX6, rfl, by decide +kernel, fun _ => rfl⟩
theorem fp_X6_19 : FP RX6 19 6 3 true (.array .int) := ⟨RX6, TX6, 20, RX6, tyX6, rfl, by decide, rfl, li_468, tyX6_ok, nmX6, rfl, by decide +kernel, fun _ => rfl⟩
theorem fp_X6_22 : FP RX6 22 6 5 true (.array .int) := ⟨RX6, TX6, 20, RX6, tyX6, rfl, by decide, rfl, li_470, tyX6_ok, nmX6, rfl, by decide +kernel, fun _ => rfl⟩
theorem fp_X6_25 : FP RX6 25 6 6 true (.array .int) := ⟨RX6, TX6, 20, RX6, tyX6, rfl, by decide, rfl, li_471, tyX6_ok, nmX6, rfl, by decide +kernel, fun _ => rfl⟩
theorem fp_X6_28 : FP RX6 28 6 7 true (.array .int) := ⟨RX6, TX6, 20, RX6, tyX6, rfl, by decide, rfl, li_472, tyX6_ok, nmX6, rfl, by decide +kernel, fun _ => rfl⟩
theorem fp_X6_31 : FP RX6 31 6 8 true (.array .int) := ⟨RX6, TX6, 20, RX6, tyX6, rfl, by decide, rfl, li_473, tyX6_ok, nmX6, rfl, by decide +kernel, fun _ => rfl⟩
theorem fp_X6_34 : FP RX6 34 6 10 true (.array .int) := ⟨RX6, TX6, 20, RX6, tyX6, rfl, by decide, rfl, li_475, tyX6_ok, nmX6, rfl, by decide +kernel, fun _ => rfl⟩
theorem fp_X6_37 : FP RX6 37 6 11 true (.array .int) := ⟨RX6, TX6, 20, RX6, tyX6, rfl, by decide, rfl, li_476, tyX6_ok, nmX6, rfl, by decide +kernel, fun _ => rfl⟩
theorem fp_X6_40 : FP RX6 40 6 12 true (.array .int) := ⟨RX6, TX6, 20, RX6, tyX6, rfl, by decide, rfl, li_477, tyX6_ok, nmX6, rfl, by decide +kernel, fun _ => rfl⟩
theorem fp_X6_43 : FP RX6 43 6 13 true (.array .int) := ⟨RX6, TX6, 20, RX6, tyX6, rfl, by decide, rfl, li_478, tyX6_ok, nmX6, rfl, by decide +kernel, fun _ => rfl⟩
theorem fp_X6_46 : FP RX6 46 6 14 true (.array .int) := ⟨RX6, TX6, 20, RX6, tyX6, rfl, by decide, rfl, li_479, tyX6_ok, nmX6, rfl, by decide +kernel, fun _ => rfl⟩
theorem fp_X6_49 : FP RX6 49 6 15 true (.array .int) := ⟨RX6, TX6, 20, RX6, tyX6, rfl, by decide, rfl, li_480, tyX6_ok, nmX6, rfl, by decide +kernel, fun _ => rfl⟩
theorem fp_X6_52 : FP RX6 52 6 16 true (.array .int) := ⟨RX6, TX6, 20, RX6, tyX6, rfl, by decide, rfl, li_481, tyX6_ok, nmX6, rfl, by decide +kernel, fun _ => rfl⟩
theorem fp_X6_55 : FP RX6 55 6 18 true (.array .int) := ⟨RX6, TX6, 20, RX6, tyX6, rfl, by decide, rfl, li_483, tyX6_ok, nmX6, rfl, by decide +kernel, fun _ => rfl⟩
theorem fp_X6_58 : FP RX6 58 6 19 true (.array .boolean) := ⟨RX6, TX6, 20, RX6, tyX6, rfl, by decide, rfl, li_484, tyX6_ok, nmX6, rfl, by decide +kernel, fun _ => rfl⟩
theorem cf_X6_66 : CF RX6 66 yX6_isVersion cX6_isVersion 1 (some .boolean) 1 := ⟨li_531, li_5, li_533, ⟨by decide +kernel, by decide +kernel⟩, by decide +kernel⟩
theorem cs_X6_isVersion : lwI (.static yX6_isVersion) := li_532
theorem fa_X6_13 : FA RX6 13 6 1 := ⟨RX6, TX6, 20, RX6, rfl, by decide, rfl, li_466⟩
theorem cf_X6_62 : CF RX6 62 yX6_in cX6_in 3 (some .boolean) 3 := ⟨li_534, li_5, li_536, ⟨by decide +kernel, by decide +kernel⟩, by decide +kernel⟩
theorem cs_X6_in : lwI (.static yX6_in) := li_535
theorem cf_X6_70 : CF RX6 70 yX6_isLine cX6_isLine 1 (some .boolean) 1 := ⟨li_537, li_5, li_539, ⟨by decide +kernel, by decide +kernel⟩, by decide +kernel⟩
theorem cs_X6_isLine : lwI (.static yX6_isLine) := li_538
theorem fa_X6_7 : FA RX6 7 6 0 := ⟨RX6, TX6, 20, RX6, rfl, by decide, rfl, li_465⟩
theorem cf_X6_77 : CF RX6 77 yX6_findFew cX6_findFew 6 (some .int) 2 := ⟨li_556, li_5, li_559, ⟨by decide +kernel, by decide +kernel⟩, by decide +kernel⟩
theorem cv_X6_findFew : lwI (.instanceMethod yX6_findFew) ∧ lwI (.selects yX6_findFew.cls yX6_findFew yX6_findFew) := ⟨li_558, ls_10⟩
theorem fa_X6_46 : FA RX6 46 6 14 := ⟨RX6, TX6, 20, RX6, rfl, by decide, rfl, li_479⟩
theorem cf_X6_73 : CF RX6 73 yX6_isAlike cX6_isAlike 5 (some .boolean) 4 := ⟨li_560, li_5, li_563, ⟨by decide +kernel, by decide +kernel⟩, by decide +kernel⟩
theorem cv_X6_isAlike : lwI (.instanceMethod yX6_isAlike) ∧ lwI (.selects yX6_isAlike.cls yX6_isAlike yX6_isAlike) := ⟨li_562, ls_11⟩
theorem fa_X6_81 : FA RX6 81 6 4 := ⟨RX6, TX6, 20, RX6, rfl, by decide, rfl, li_469⟩
theorem fa_X6_22 : FA RX6 22 6 5 := ⟨RX6, TX6, 20, RX6, rfl, by decide, rfl, li_470⟩
theorem fa_X6_25 : FA RX6 25 6 6 := ⟨RX6, TX6, 20, RX6, rfl, by decide, rfl, li_471⟩
theorem fa_X6_28 : FA RX6 28 6 7 := ⟨RX6, TX6, 20, RX6, rfl, by decide, rfl, li_472⟩
theorem fp_X6_81 : FP RX6 81 6 4 false .int := ⟨RX6, TX6, 20, RX6, tyX6, rfl, by decide, rfl, li_469, tyX6_ok, nmX6, rfl, by decide +kernel, fun h => by cases h⟩
theorem cf_X6_85 : CF RX6 85 yX6_keeps cX6_keeps 11 (some .boolean) 2 := ⟨li_580, li_5, li_583, ⟨by decide +kernel, by decide +kernel⟩, by decide +kernel⟩
theorem cv_X6_keeps : lwI (.instanceMethod yX6_keeps) ∧ lwI (.selects yX6_keeps.cls yX6_keeps yX6_keeps) := ⟨li_582, ls_12⟩
theorem cf_X6_89 : CF RX6 89 yX6_isHeard cX6_isHeard 1 (some .boolean) 1 := ⟨li_588, li_5, li_590, ⟨by decide +kernel, by decide +kernel⟩, by decide +kernel⟩
theorem cs_X6_isHeard : lwI (.static yX6_isHeard) := li_589
theorem fa_X6_19 : FA RX6 19 6 3 := ⟨RX6, TX6, 20, RX6, rfl, by decide, rfl, li_468⟩
theorem fa_X6_16 : FA RX6 16 6 2 := ⟨RX6, TX6, 20, RX6, rfl, by decide, rfl, li_467⟩
theorem cf_X6_92 : CF RX6 92 yX6_judged cX6_judged 14 (some .int) 2 := ⟨li_603, li_5, li_606, ⟨by decide +kernel, by decide +kernel⟩, by decide +kernel⟩
theorem cv_X6_judged : lwI (.instanceMethod yX6_judged) ∧ lwI (.selects yX6_judged.cls yX6_judged yX6_judged) := ⟨li_605, ls_13⟩
theorem fa_X6_58 : FA RX6 58 6 19 := ⟨RX6, TX6, 20, RX6, rfl, by decide, rfl, li_484⟩
theorem fa_X6_31 : FA RX6 31 6 8 := ⟨RX6, TX6, 20, RX6, rfl, by decide, rfl, li_473⟩
theorem cf_X6_95 : CF RX6 95 yX6_isTown cX6_isTown 1 (some .boolean) 1 := ⟨li_627, li_5, li_629, ⟨by decide +kernel, by decide +kernel⟩, by decide +kernel⟩
theorem cs_X6_isTown : lwI (.static yX6_isTown) := li_628
theorem cf_X6_98 : CF RX6 98 yX6_isDay cX6_isDay 1 (some .boolean) 1 := ⟨li_630, li_5, li_632, ⟨by decide +kernel, by decide +kernel⟩, by decide +kernel⟩
theorem cs_X6_isDay : lwI (.static yX6_isDay) := li_631
theorem fa_X6_101 : FA RX6 101 6 9 := ⟨RX6, TX6, 20, RX6, rfl, by decide, rfl, li_474⟩
theorem fa_X6_34 : FA RX6 34 6 10 := ⟨RX6, TX6, 20, RX6, rfl, by decide, rfl, li_475⟩
theorem fa_X6_37 : FA RX6 37 6 11 := ⟨RX6, TX6, 20, RX6, rfl, by decide, rfl, li_476⟩
theorem fa_X6_40 : FA RX6 40 6 12 := ⟨RX6, TX6, 20, RX6, rfl, by decide, rfl, li_477⟩
theorem fa_X6_43 : FA RX6 43 6 13 := ⟨RX6, TX6, 20, RX6, rfl, by decide, rfl, li_478⟩
theorem fp_X6_101 : FP RX6 101 6 9 false .int := ⟨RX6, TX6, 20, RX6, tyX6, rfl, by decide, rfl, li_474, tyX6_ok, nmX6, rfl, by decide +kernel, fun h => by cases h⟩
theorem cf_X6_107 : CF RX6 107 yX6_cutOf cX6_cutOf 7 (some .int) 3 := ⟨li_637, li_5, li_640, ⟨by decide +kernel, by decide +kernel⟩, by decide +kernel⟩
theorem cv_X6_cutOf : lwI (.instanceMethod yX6_cutOf) ∧ lwI (.selects yX6_cutOf.cls yX6_cutOf yX6_cutOf) := ⟨li_639, ls_14⟩
theorem cf_X6_104 : CF RX6 104 yX6_forbidden cX6_forbidden 5 (some .int) 2 := ⟨li_641, li_5, li_644, ⟨by decide +kernel, by decide +kernel⟩, by decide +kernel⟩
theorem cv_X6_forbidden : lwI (.instanceMethod yX6_forbidden) ∧ lwI (.selects yX6_forbidden.cls yX6_forbidden yX6_forbidden) := ⟨li_643, ls_15⟩
theorem cf_X6_111 : CF RX6 111 yX6_many cX6_many 3 (some .int) 1 := ⟨li_653, li_5, li_655, ⟨by decide +kernel, by decide +kernel⟩, by decide +kernel⟩
theorem cs_X6_many : lwI (.static yX6_many) := li_654
theorem fa_X6_52 : FA RX6 52 6 16 := ⟨RX6, TX6, 20, RX6, rfl, by decide, rfl, li_481⟩
theorem lc_X6_115 : lwI (.constant "PlayReaderModel" 115 (100000 : Int32)) := li_656
theorem fa_X6_49 : FA RX6 49 6 15 := ⟨RX6, TX6, 20, RX6, rfl, by decide, rfl, li_480⟩
theorem fa_X6_55 : FA RX6 55 6 18 := ⟨RX6, TX6, 20, RX6, rfl, by decide, rfl, li_483⟩
theorem fp_X6_116 : FP RX6 116 6 17 false .int := ⟨RX6, TX6, 20, RX6, tyX6, rfl, by decide, rfl, li_482, tyX6_ok, nmX6, rfl, by decide +kernel, fun h => by cases h⟩
theorem fa_X6_116 : FA RX6 116 6 17 := ⟨RX6, TX6, 20, RX6, rfl, by decide, rfl, li_482⟩
theorem lc_X6_119 : lwI (.constantLong "PlayReaderModel" 119 (181 : Int64)) := li_673
theorem lc_X6_121 : lwI (.constantLong "PlayReaderModel" 121 (31 : Int64)) := li_674
theorem cf_X6_123 : CF RX6 123 yX6_count cX6_count 5 (some .int) 1 := ⟨li_675, li_5, li_668, ⟨by decide +kernel, by decide +kernel⟩, by decide +kernel⟩
theorem cv_X6_count : lwI (.instanceMethod yX6_count) ∧ lwI (.selects yX6_count.cls yX6_count yX6_count) := ⟨li_666, li_667⟩
