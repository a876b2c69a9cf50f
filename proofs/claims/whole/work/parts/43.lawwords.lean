/-! the law: its decode rows and its words (own work; written by a program) -/
theorem li_10 : lwI (.classLink "PlayReaderLaw" 7 "PlayReader") := ⟨List.mem_append_right _ (List.mem_of_getElem? (i := 10) (by decide +kernel)), rfl⟩
theorem li_11 : lwI (.instantiable "PlayReader" 10) := ⟨List.mem_append_right _ (List.mem_of_getElem? (i := 11) (by decide +kernel)), rfl⟩
theorem li_14 : lwI (.code ⟨"PlayReader", "<init>", "()V"⟩ prog_1_method_1_code 2 none) := ⟨List.mem_append_right _ (List.mem_of_getElem? (i := 14) (by decide +kernel)), rfl⟩
theorem li_12 : lwI (.methodLink "PlayReaderLaw" 9 ⟨"PlayReader", "<init>", "()V"⟩) := ⟨List.mem_append_right _ (List.mem_of_getElem? (i := 12) (by decide +kernel)), rfl⟩
theorem li_13 : lwI (.instanceMethod ⟨"PlayReader", "<init>", "()V"⟩) := ⟨List.mem_append_right _ (List.mem_of_getElem? (i := 13) (by decide +kernel)), rfl⟩
theorem li_459 : lwI (.classLink "PlayReaderLaw" 10 "PlayReaderModel") := ⟨List.mem_append_right _ (List.mem_of_getElem? (i := 459) (by decide +kernel)), rfl⟩
theorem li_460 : lwI (.instantiable "PlayReaderModel" 20) := ⟨List.mem_append_right _ (List.mem_of_getElem? (i := 460) (by decide +kernel)), rfl⟩
theorem li_463 : lwI (.code ⟨"PlayReaderModel", "<init>", "()V"⟩ prog_8_method_1_code 1 none) := ⟨List.mem_append_right _ (List.mem_of_getElem? (i := 463) (by decide +kernel)), rfl⟩
theorem li_461 : lwI (.methodLink "PlayReaderLaw" 12 ⟨"PlayReaderModel", "<init>", "()V"⟩) := ⟨List.mem_append_right _ (List.mem_of_getElem? (i := 461) (by decide +kernel)), rfl⟩
theorem li_462 : lwI (.instanceMethod ⟨"PlayReaderModel", "<init>", "()V"⟩) := ⟨List.mem_append_right _ (List.mem_of_getElem? (i := 462) (by decide +kernel)), rfl⟩
theorem li_106 : lwI (.code ⟨"PlayReader", "put", "(III)I"⟩ prog_1_method_2_code 5 (some .int)) := ⟨List.mem_append_right _ (List.mem_of_getElem? (i := 106) (by decide +kernel)), rfl⟩
theorem li_103 : lwI (.methodLink "PlayReaderLaw" 13 ⟨"PlayReader", "put", "(III)I"⟩) := ⟨List.mem_append_right _ (List.mem_of_getElem? (i := 103) (by decide +kernel)), rfl⟩
theorem li_104 : lwI (.instanceMethod ⟨"PlayReader", "put", "(III)I"⟩) := ⟨List.mem_append_right _ (List.mem_of_getElem? (i := 104) (by decide +kernel)), rfl⟩
theorem li_105 : lwI (.selects "PlayReader" ⟨"PlayReader", "put", "(III)I"⟩ ⟨"PlayReader", "put", "(III)I"⟩) := ⟨List.mem_append_right _ (List.mem_of_getElem? (i := 105) (by decide +kernel)), rfl⟩
theorem li_530 : lwI (.code ⟨"PlayReaderModel", "put", "(III)I"⟩ prog_8_method_6_code 5 (some .int)) := ⟨List.mem_append_right _ (List.mem_of_getElem? (i := 530) (by decide +kernel)), rfl⟩
theorem li_527 : lwI (.methodLink "PlayReaderLaw" 17 ⟨"PlayReaderModel", "put", "(III)I"⟩) := ⟨List.mem_append_right _ (List.mem_of_getElem? (i := 527) (by decide +kernel)), rfl⟩
theorem li_528 : lwI (.instanceMethod ⟨"PlayReaderModel", "put", "(III)I"⟩) := ⟨List.mem_append_right _ (List.mem_of_getElem? (i := 528) (by decide +kernel)), rfl⟩
theorem li_529 : lwI (.selects "PlayReaderModel" ⟨"PlayReaderModel", "put", "(III)I"⟩ ⟨"PlayReaderModel", "put", "(III)I"⟩) := ⟨List.mem_append_right _ (List.mem_of_getElem? (i := 529) (by decide +kernel)), rfl⟩
theorem li_125 : lwI (.code ⟨"PlayReader", "take", "(II)I"⟩ prog_1_method_3_code 5 (some .int)) := ⟨List.mem_append_right _ (List.mem_of_getElem? (i := 125) (by decide +kernel)), rfl⟩
theorem li_122 : lwI (.methodLink "PlayReaderLaw" 18 ⟨"PlayReader", "take", "(II)I"⟩) := ⟨List.mem_append_right _ (List.mem_of_getElem? (i := 122) (by decide +kernel)), rfl⟩
theorem li_123 : lwI (.instanceMethod ⟨"PlayReader", "take", "(II)I"⟩) := ⟨List.mem_append_right _ (List.mem_of_getElem? (i := 123) (by decide +kernel)), rfl⟩
theorem li_124 : lwI (.selects "PlayReader" ⟨"PlayReader", "take", "(II)I"⟩ ⟨"PlayReader", "take", "(II)I"⟩) := ⟨List.mem_append_right _ (List.mem_of_getElem? (i := 124) (by decide +kernel)), rfl⟩
theorem li_543 : lwI (.code ⟨"PlayReaderModel", "take", "(II)I"⟩ prog_8_method_7_code 5 (some .int)) := ⟨List.mem_append_right _ (List.mem_of_getElem? (i := 543) (by decide +kernel)), rfl⟩
theorem li_540 : lwI (.methodLink "PlayReaderLaw" 22 ⟨"PlayReaderModel", "take", "(II)I"⟩) := ⟨List.mem_append_right _ (List.mem_of_getElem? (i := 540) (by decide +kernel)), rfl⟩
theorem li_541 : lwI (.instanceMethod ⟨"PlayReaderModel", "take", "(II)I"⟩) := ⟨List.mem_append_right _ (List.mem_of_getElem? (i := 541) (by decide +kernel)), rfl⟩
theorem li_542 : lwI (.selects "PlayReaderModel" ⟨"PlayReaderModel", "take", "(II)I"⟩ ⟨"PlayReaderModel", "take", "(II)I"⟩) := ⟨List.mem_append_right _ (List.mem_of_getElem? (i := 542) (by decide +kernel)), rfl⟩
theorem li_142 : lwI (.code ⟨"PlayReader", "copy", "(II)I"⟩ prog_1_method_4_code 5 (some .int)) := ⟨List.mem_append_right _ (List.mem_of_getElem? (i := 142) (by decide +kernel)), rfl⟩
theorem li_139 : lwI (.methodLink "PlayReaderLaw" 23 ⟨"PlayReader", "copy", "(II)I"⟩) := ⟨List.mem_append_right _ (List.mem_of_getElem? (i := 139) (by decide +kernel)), rfl⟩
theorem li_140 : lwI (.instanceMethod ⟨"PlayReader", "copy", "(II)I"⟩) := ⟨List.mem_append_right _ (List.mem_of_getElem? (i := 140) (by decide +kernel)), rfl⟩
theorem li_141 : lwI (.selects "PlayReader" ⟨"PlayReader", "copy", "(II)I"⟩ ⟨"PlayReader", "copy", "(II)I"⟩) := ⟨List.mem_append_right _ (List.mem_of_getElem? (i := 141) (by decide +kernel)), rfl⟩
theorem li_547 : lwI (.code ⟨"PlayReaderModel", "copy", "(II)I"⟩ prog_8_method_8_code 4 (some .int)) := ⟨List.mem_append_right _ (List.mem_of_getElem? (i := 547) (by decide +kernel)), rfl⟩
theorem li_544 : lwI (.methodLink "PlayReaderLaw" 26 ⟨"PlayReaderModel", "copy", "(II)I"⟩) := ⟨List.mem_append_right _ (List.mem_of_getElem? (i := 544) (by decide +kernel)), rfl⟩
theorem li_545 : lwI (.instanceMethod ⟨"PlayReaderModel", "copy", "(II)I"⟩) := ⟨List.mem_append_right _ (List.mem_of_getElem? (i := 545) (by decide +kernel)), rfl⟩
theorem li_546 : lwI (.selects "PlayReaderModel" ⟨"PlayReaderModel", "copy", "(II)I"⟩ ⟨"PlayReaderModel", "copy", "(II)I"⟩) := ⟨List.mem_append_right _ (List.mem_of_getElem? (i := 546) (by decide +kernel)), rfl⟩
theorem li_151 : lwI (.code ⟨"PlayReader", "lineAt", "(II)I"⟩ prog_1_method_5_code 4 (some .int)) := ⟨List.mem_append_right _ (List.mem_of_getElem? (i := 151) (by decide +kernel)), rfl⟩
theorem li_148 : lwI (.methodLink "PlayReaderLaw" 27 ⟨"PlayReader", "lineAt", "(II)I"⟩) := ⟨List.mem_append_right _ (List.mem_of_getElem? (i := 148) (by decide +kernel)), rfl⟩
theorem li_149 : lwI (.instanceMethod ⟨"PlayReader", "lineAt", "(II)I"⟩) := ⟨List.mem_append_right _ (List.mem_of_getElem? (i := 149) (by decide +kernel)), rfl⟩
theorem li_150 : lwI (.selects "PlayReader" ⟨"PlayReader", "lineAt", "(II)I"⟩ ⟨"PlayReader", "lineAt", "(II)I"⟩) := ⟨List.mem_append_right _ (List.mem_of_getElem? (i := 150) (by decide +kernel)), rfl⟩
theorem li_551 : lwI (.code ⟨"PlayReaderModel", "lineAt", "(II)I"⟩ prog_8_method_9_code 3 (some .int)) := ⟨List.mem_append_right _ (List.mem_of_getElem? (i := 551) (by decide +kernel)), rfl⟩
theorem li_548 : lwI (.methodLink "PlayReaderLaw" 30 ⟨"PlayReaderModel", "lineAt", "(II)I"⟩) := ⟨List.mem_append_right _ (List.mem_of_getElem? (i := 548) (by decide +kernel)), rfl⟩
theorem li_549 : lwI (.instanceMethod ⟨"PlayReaderModel", "lineAt", "(II)I"⟩) := ⟨List.mem_append_right _ (List.mem_of_getElem? (i := 549) (by decide +kernel)), rfl⟩
theorem li_550 : lwI (.selects "PlayReaderModel" ⟨"PlayReaderModel", "lineAt", "(II)I"⟩ ⟨"PlayReaderModel", "lineAt", "(II)I"⟩) := ⟨List.mem_append_right _ (List.mem_of_getElem? (i := 550) (by decide +kernel)), rfl⟩
theorem li_155 : lwI (.code ⟨"PlayReader", "differ", "(II)I"⟩ prog_1_method_6_code 5 (some .int)) := ⟨List.mem_append_right _ (List.mem_of_getElem? (i := 155) (by decide +kernel)), rfl⟩
theorem li_152 : lwI (.methodLink "PlayReaderLaw" 31 ⟨"PlayReader", "differ", "(II)I"⟩) := ⟨List.mem_append_right _ (List.mem_of_getElem? (i := 152) (by decide +kernel)), rfl⟩
theorem li_153 : lwI (.instanceMethod ⟨"PlayReader", "differ", "(II)I"⟩) := ⟨List.mem_append_right _ (List.mem_of_getElem? (i := 153) (by decide +kernel)), rfl⟩
theorem li_154 : lwI (.selects "PlayReader" ⟨"PlayReader", "differ", "(II)I"⟩ ⟨"PlayReader", "differ", "(II)I"⟩) := ⟨List.mem_append_right _ (List.mem_of_getElem? (i := 154) (by decide +kernel)), rfl⟩
theorem li_555 : lwI (.code ⟨"PlayReaderModel", "differ", "(II)I"⟩ prog_8_method_12_code 3 (some .int)) := ⟨List.mem_append_right _ (List.mem_of_getElem? (i := 555) (by decide +kernel)), rfl⟩
theorem li_552 : lwI (.methodLink "PlayReaderLaw" 34 ⟨"PlayReaderModel", "differ", "(II)I"⟩) := ⟨List.mem_append_right _ (List.mem_of_getElem? (i := 552) (by decide +kernel)), rfl⟩
theorem li_553 : lwI (.instanceMethod ⟨"PlayReaderModel", "differ", "(II)I"⟩) := ⟨List.mem_append_right _ (List.mem_of_getElem? (i := 553) (by decide +kernel)), rfl⟩
theorem li_554 : lwI (.selects "PlayReaderModel" ⟨"PlayReaderModel", "differ", "(II)I"⟩ ⟨"PlayReaderModel", "differ", "(II)I"⟩) := ⟨List.mem_append_right _ (List.mem_of_getElem? (i := 554) (by decide +kernel)), rfl⟩
theorem li_180 : lwI (.code ⟨"PlayReader", "step", "(III)I"⟩ prog_1_method_7_code 6 (some .int)) := ⟨List.mem_append_right _ (List.mem_of_getElem? (i := 180) (by decide +kernel)), rfl⟩
theorem li_177 : lwI (.methodLink "PlayReaderLaw" 35 ⟨"PlayReader", "step", "(III)I"⟩) := ⟨List.mem_append_right _ (List.mem_of_getElem? (i := 177) (by decide +kernel)), rfl⟩
theorem li_178 : lwI (.instanceMethod ⟨"PlayReader", "step", "(III)I"⟩) := ⟨List.mem_append_right _ (List.mem_of_getElem? (i := 178) (by decide +kernel)), rfl⟩
theorem li_179 : lwI (.selects "PlayReader" ⟨"PlayReader", "step", "(III)I"⟩ ⟨"PlayReader", "step", "(III)I"⟩) := ⟨List.mem_append_right _ (List.mem_of_getElem? (i := 179) (by decide +kernel)), rfl⟩
theorem li_567 : lwI (.code ⟨"PlayReaderModel", "step", "(III)I"⟩ prog_8_method_13_code 9 (some .int)) := ⟨List.mem_append_right _ (List.mem_of_getElem? (i := 567) (by decide +kernel)), rfl⟩
theorem li_564 : lwI (.methodLink "PlayReaderLaw" 38 ⟨"PlayReaderModel", "step", "(III)I"⟩) := ⟨List.mem_append_right _ (List.mem_of_getElem? (i := 564) (by decide +kernel)), rfl⟩
theorem li_565 : lwI (.instanceMethod ⟨"PlayReaderModel", "step", "(III)I"⟩) := ⟨List.mem_append_right _ (List.mem_of_getElem? (i := 565) (by decide +kernel)), rfl⟩
theorem li_566 : lwI (.selects "PlayReaderModel" ⟨"PlayReaderModel", "step", "(III)I"⟩ ⟨"PlayReaderModel", "step", "(III)I"⟩) := ⟨List.mem_append_right _ (List.mem_of_getElem? (i := 566) (by decide +kernel)), rfl⟩
theorem li_192 : lwI (.code ⟨"PlayReader", "condition", "(III)I"⟩ prog_1_method_8_code 4 (some .int)) := ⟨List.mem_append_right _ (List.mem_of_getElem? (i := 192) (by decide +kernel)), rfl⟩
theorem li_189 : lwI (.methodLink "PlayReaderLaw" 39 ⟨"PlayReader", "condition", "(III)I"⟩) := ⟨List.mem_append_right _ (List.mem_of_getElem? (i := 189) (by decide +kernel)), rfl⟩
theorem li_190 : lwI (.instanceMethod ⟨"PlayReader", "condition", "(III)I"⟩) := ⟨List.mem_append_right _ (List.mem_of_getElem? (i := 190) (by decide +kernel)), rfl⟩
theorem li_191 : lwI (.selects "PlayReader" ⟨"PlayReader", "condition", "(III)I"⟩ ⟨"PlayReader", "condition", "(III)I"⟩) := ⟨List.mem_append_right _ (List.mem_of_getElem? (i := 191) (by decide +kernel)), rfl⟩
theorem li_571 : lwI (.code ⟨"PlayReaderModel", "condition", "(III)I"⟩ prog_8_method_14_code 4 (some .int)) := ⟨List.mem_append_right _ (List.mem_of_getElem? (i := 571) (by decide +kernel)), rfl⟩
theorem li_568 : lwI (.methodLink "PlayReaderLaw" 42 ⟨"PlayReaderModel", "condition", "(III)I"⟩) := ⟨List.mem_append_right _ (List.mem_of_getElem? (i := 568) (by decide +kernel)), rfl⟩
theorem li_569 : lwI (.instanceMethod ⟨"PlayReaderModel", "condition", "(III)I"⟩) := ⟨List.mem_append_right _ (List.mem_of_getElem? (i := 569) (by decide +kernel)), rfl⟩
theorem li_570 : lwI (.selects "PlayReaderModel" ⟨"PlayReaderModel", "condition", "(III)I"⟩ ⟨"PlayReaderModel", "condition", "(III)I"⟩) := ⟨List.mem_append_right _ (List.mem_of_getElem? (i := 570) (by decide +kernel)), rfl⟩
theorem li_214 : lwI (.code ⟨"PlayReader", "clear", "()I"⟩ prog_1_method_9_code 2 (some .int)) := ⟨List.mem_append_right _ (List.mem_of_getElem? (i := 214) (by decide +kernel)), rfl⟩
theorem li_211 : lwI (.methodLink "PlayReaderLaw" 43 ⟨"PlayReader", "clear", "()I"⟩) := ⟨List.mem_append_right _ (List.mem_of_getElem? (i := 211) (by decide +kernel)), rfl⟩
theorem li_212 : lwI (.instanceMethod ⟨"PlayReader", "clear", "()I"⟩) := ⟨List.mem_append_right _ (List.mem_of_getElem? (i := 212) (by decide +kernel)), rfl⟩
theorem li_213 : lwI (.selects "PlayReader" ⟨"PlayReader", "clear", "()I"⟩ ⟨"PlayReader", "clear", "()I"⟩) := ⟨List.mem_append_right _ (List.mem_of_getElem? (i := 213) (by decide +kernel)), rfl⟩
theorem li_575 : lwI (.code ⟨"PlayReaderModel", "clear", "()I"⟩ prog_8_method_15_code 2 (some .int)) := ⟨List.mem_append_right _ (List.mem_of_getElem? (i := 575) (by decide +kernel)), rfl⟩
theorem li_572 : lwI (.methodLink "PlayReaderLaw" 47 ⟨"PlayReaderModel", "clear", "()I"⟩) := ⟨List.mem_append_right _ (List.mem_of_getElem? (i := 572) (by decide +kernel)), rfl⟩
theorem li_573 : lwI (.instanceMethod ⟨"PlayReaderModel", "clear", "()I"⟩) := ⟨List.mem_append_right _ (List.mem_of_getElem? (i := 573) (by decide +kernel)), rfl⟩
theorem li_574 : lwI (.selects "PlayReaderModel" ⟨"PlayReaderModel", "clear", "()I"⟩ ⟨"PlayReaderModel", "clear", "()I"⟩) := ⟨List.mem_append_right _ (List.mem_of_getElem? (i := 574) (by decide +kernel)), rfl⟩
theorem li_218 : lwI (.code ⟨"PlayReader", "breaks", "(I)I"⟩ prog_1_method_10_code 4 (some .int)) := ⟨List.mem_append_right _ (List.mem_of_getElem? (i := 218) (by decide +kernel)), rfl⟩
theorem li_215 : lwI (.methodLink "PlayReaderLaw" 48 ⟨"PlayReader", "breaks", "(I)I"⟩) := ⟨List.mem_append_right _ (List.mem_of_getElem? (i := 215) (by decide +kernel)), rfl⟩
theorem li_216 : lwI (.instanceMethod ⟨"PlayReader", "breaks", "(I)I"⟩) := ⟨List.mem_append_right _ (List.mem_of_getElem? (i := 216) (by decide +kernel)), rfl⟩
theorem li_217 : lwI (.selects "PlayReader" ⟨"PlayReader", "breaks", "(I)I"⟩ ⟨"PlayReader", "breaks", "(I)I"⟩) := ⟨List.mem_append_right _ (List.mem_of_getElem? (i := 217) (by decide +kernel)), rfl⟩
theorem li_579 : lwI (.code ⟨"PlayReaderModel", "breaks", "(I)I"⟩ prog_8_method_17_code 3 (some .int)) := ⟨List.mem_append_right _ (List.mem_of_getElem? (i := 579) (by decide +kernel)), rfl⟩
theorem li_576 : lwI (.methodLink "PlayReaderLaw" 52 ⟨"PlayReaderModel", "breaks", "(I)I"⟩) := ⟨List.mem_append_right _ (List.mem_of_getElem? (i := 576) (by decide +kernel)), rfl⟩
theorem li_577 : lwI (.instanceMethod ⟨"PlayReaderModel", "breaks", "(I)I"⟩) := ⟨List.mem_append_right _ (List.mem_of_getElem? (i := 577) (by decide +kernel)), rfl⟩
theorem li_578 : lwI (.selects "PlayReaderModel" ⟨"PlayReaderModel", "breaks", "(I)I"⟩ ⟨"PlayReaderModel", "breaks", "(I)I"⟩) := ⟨List.mem_append_right _ (List.mem_of_getElem? (i := 578) (by decide +kernel)), rfl⟩
theorem li_261 : lwI (.code ⟨"PlayReader", "hear", "(II)I"⟩ prog_1_method_11_code 4 (some .int)) := ⟨List.mem_append_right _ (List.mem_of_getElem? (i := 261) (by decide +kernel)), rfl⟩
theorem li_258 : lwI (.methodLink "PlayReaderLaw" 53 ⟨"PlayReader", "hear", "(II)I"⟩) := ⟨List.mem_append_right _ (List.mem_of_getElem? (i := 258) (by decide +kernel)), rfl⟩
theorem li_259 : lwI (.instanceMethod ⟨"PlayReader", "hear", "(II)I"⟩) := ⟨List.mem_append_right _ (List.mem_of_getElem? (i := 259) (by decide +kernel)), rfl⟩
theorem li_260 : lwI (.selects "PlayReader" ⟨"PlayReader", "hear", "(II)I"⟩ ⟨"PlayReader", "hear", "(II)I"⟩) := ⟨List.mem_append_right _ (List.mem_of_getElem? (i := 260) (by decide +kernel)), rfl⟩
theorem li_587 : lwI (.code ⟨"PlayReaderModel", "hear", "(II)I"⟩ prog_8_method_18_code 3 (some .int)) := ⟨List.mem_append_right _ (List.mem_of_getElem? (i := 587) (by decide +kernel)), rfl⟩
theorem li_584 : lwI (.methodLink "PlayReaderLaw" 56 ⟨"PlayReaderModel", "hear", "(II)I"⟩) := ⟨List.mem_append_right _ (List.mem_of_getElem? (i := 584) (by decide +kernel)), rfl⟩
theorem li_585 : lwI (.instanceMethod ⟨"PlayReaderModel", "hear", "(II)I"⟩) := ⟨List.mem_append_right _ (List.mem_of_getElem? (i := 585) (by decide +kernel)), rfl⟩
theorem li_586 : lwI (.selects "PlayReaderModel" ⟨"PlayReaderModel", "hear", "(II)I"⟩ ⟨"PlayReaderModel", "hear", "(II)I"⟩) := ⟨List.mem_append_right _ (List.mem_of_getElem? (i := 586) (by decide +kernel)), rfl⟩
theorem li_265 : lwI (.code ⟨"PlayReader", "forget", "(I)I"⟩ prog_1_method_12_code 4 (some .int)) := ⟨List.mem_append_right _ (List.mem_of_getElem? (i := 265) (by decide +kernel)), rfl⟩
theorem li_262 : lwI (.methodLink "PlayReaderLaw" 57 ⟨"PlayReader", "forget", "(I)I"⟩) := ⟨List.mem_append_right _ (List.mem_of_getElem? (i := 262) (by decide +kernel)), rfl⟩
theorem li_263 : lwI (.instanceMethod ⟨"PlayReader", "forget", "(I)I"⟩) := ⟨List.mem_append_right _ (List.mem_of_getElem? (i := 263) (by decide +kernel)), rfl⟩
theorem li_264 : lwI (.selects "PlayReader" ⟨"PlayReader", "forget", "(I)I"⟩ ⟨"PlayReader", "forget", "(I)I"⟩) := ⟨List.mem_append_right _ (List.mem_of_getElem? (i := 264) (by decide +kernel)), rfl⟩
theorem li_594 : lwI (.code ⟨"PlayReaderModel", "forget", "(I)I"⟩ prog_8_method_19_code 3 (some .int)) := ⟨List.mem_append_right _ (List.mem_of_getElem? (i := 594) (by decide +kernel)), rfl⟩
theorem li_591 : lwI (.methodLink "PlayReaderLaw" 60 ⟨"PlayReaderModel", "forget", "(I)I"⟩) := ⟨List.mem_append_right _ (List.mem_of_getElem? (i := 591) (by decide +kernel)), rfl⟩
theorem li_592 : lwI (.instanceMethod ⟨"PlayReaderModel", "forget", "(I)I"⟩) := ⟨List.mem_append_right _ (List.mem_of_getElem? (i := 592) (by decide +kernel)), rfl⟩
theorem li_593 : lwI (.selects "PlayReaderModel" ⟨"PlayReaderModel", "forget", "(I)I"⟩ ⟨"PlayReaderModel", "forget", "(I)I"⟩) := ⟨List.mem_append_right _ (List.mem_of_getElem? (i := 593) (by decide +kernel)), rfl⟩
theorem li_273 : lwI (.code ⟨"PlayReader", "heard", "(II)I"⟩ prog_1_method_13_code 4 (some .int)) := ⟨List.mem_append_right _ (List.mem_of_getElem? (i := 273) (by decide +kernel)), rfl⟩
theorem li_270 : lwI (.methodLink "PlayReaderLaw" 61 ⟨"PlayReader", "heard", "(II)I"⟩) := ⟨List.mem_append_right _ (List.mem_of_getElem? (i := 270) (by decide +kernel)), rfl⟩
theorem li_271 : lwI (.instanceMethod ⟨"PlayReader", "heard", "(II)I"⟩) := ⟨List.mem_append_right _ (List.mem_of_getElem? (i := 271) (by decide +kernel)), rfl⟩
theorem li_272 : lwI (.selects "PlayReader" ⟨"PlayReader", "heard", "(II)I"⟩ ⟨"PlayReader", "heard", "(II)I"⟩) := ⟨List.mem_append_right _ (List.mem_of_getElem? (i := 272) (by decide +kernel)), rfl⟩
theorem li_598 : lwI (.code ⟨"PlayReaderModel", "heard", "(II)I"⟩ prog_8_method_20_code 3 (some .int)) := ⟨List.mem_append_right _ (List.mem_of_getElem? (i := 598) (by decide +kernel)), rfl⟩
theorem li_595 : lwI (.methodLink "PlayReaderLaw" 64 ⟨"PlayReaderModel", "heard", "(II)I"⟩) := ⟨List.mem_append_right _ (List.mem_of_getElem? (i := 595) (by decide +kernel)), rfl⟩
theorem li_596 : lwI (.instanceMethod ⟨"PlayReaderModel", "heard", "(II)I"⟩) := ⟨List.mem_append_right _ (List.mem_of_getElem? (i := 596) (by decide +kernel)), rfl⟩
theorem li_597 : lwI (.selects "PlayReaderModel" ⟨"PlayReaderModel", "heard", "(II)I"⟩ ⟨"PlayReaderModel", "heard", "(II)I"⟩) := ⟨List.mem_append_right _ (List.mem_of_getElem? (i := 597) (by decide +kernel)), rfl⟩
theorem li_277 : lwI (.code ⟨"PlayReader", "judge", "(II)I"⟩ prog_1_method_14_code 5 (some .int)) := ⟨List.mem_append_right _ (List.mem_of_getElem? (i := 277) (by decide +kernel)), rfl⟩
theorem li_274 : lwI (.methodLink "PlayReaderLaw" 65 ⟨"PlayReader", "judge", "(II)I"⟩) := ⟨List.mem_append_right _ (List.mem_of_getElem? (i := 274) (by decide +kernel)), rfl⟩
theorem li_275 : lwI (.instanceMethod ⟨"PlayReader", "judge", "(II)I"⟩) := ⟨List.mem_append_right _ (List.mem_of_getElem? (i := 275) (by decide +kernel)), rfl⟩
theorem li_276 : lwI (.selects "PlayReader" ⟨"PlayReader", "judge", "(II)I"⟩ ⟨"PlayReader", "judge", "(II)I"⟩) := ⟨List.mem_append_right _ (List.mem_of_getElem? (i := 276) (by decide +kernel)), rfl⟩
theorem li_602 : lwI (.code ⟨"PlayReaderModel", "judge", "(II)I"⟩ prog_8_method_22_code 3 (some .int)) := ⟨List.mem_append_right _ (List.mem_of_getElem? (i := 602) (by decide +kernel)), rfl⟩
theorem li_599 : lwI (.methodLink "PlayReaderLaw" 68 ⟨"PlayReaderModel", "judge", "(II)I"⟩) := ⟨List.mem_append_right _ (List.mem_of_getElem? (i := 599) (by decide +kernel)), rfl⟩
theorem li_600 : lwI (.instanceMethod ⟨"PlayReaderModel", "judge", "(II)I"⟩) := ⟨List.mem_append_right _ (List.mem_of_getElem? (i := 600) (by decide +kernel)), rfl⟩
theorem li_601 : lwI (.selects "PlayReaderModel" ⟨"PlayReaderModel", "judge", "(II)I"⟩ ⟨"PlayReaderModel", "judge", "(II)I"⟩) := ⟨List.mem_append_right _ (List.mem_of_getElem? (i := 601) (by decide +kernel)), rfl⟩
theorem li_281 : lwI (.code ⟨"PlayReader", "verdict", "(I)I"⟩ prog_1_method_15_code 5 (some .int)) := ⟨List.mem_append_right _ (List.mem_of_getElem? (i := 281) (by decide +kernel)), rfl⟩
theorem li_278 : lwI (.methodLink "PlayReaderLaw" 69 ⟨"PlayReader", "verdict", "(I)I"⟩) := ⟨List.mem_append_right _ (List.mem_of_getElem? (i := 278) (by decide +kernel)), rfl⟩
theorem li_279 : lwI (.instanceMethod ⟨"PlayReader", "verdict", "(I)I"⟩) := ⟨List.mem_append_right _ (List.mem_of_getElem? (i := 279) (by decide +kernel)), rfl⟩
theorem li_280 : lwI (.selects "PlayReader" ⟨"PlayReader", "verdict", "(I)I"⟩ ⟨"PlayReader", "verdict", "(I)I"⟩) := ⟨List.mem_append_right _ (List.mem_of_getElem? (i := 280) (by decide +kernel)), rfl⟩
theorem li_610 : lwI (.code ⟨"PlayReaderModel", "verdict", "(I)I"⟩ prog_8_method_23_code 5 (some .int)) := ⟨List.mem_append_right _ (List.mem_of_getElem? (i := 610) (by decide +kernel)), rfl⟩
theorem li_607 : lwI (.methodLink "PlayReaderLaw" 72 ⟨"PlayReaderModel", "verdict", "(I)I"⟩) := ⟨List.mem_append_right _ (List.mem_of_getElem? (i := 607) (by decide +kernel)), rfl⟩
theorem li_608 : lwI (.instanceMethod ⟨"PlayReaderModel", "verdict", "(I)I"⟩) := ⟨List.mem_append_right _ (List.mem_of_getElem? (i := 608) (by decide +kernel)), rfl⟩
theorem li_609 : lwI (.selects "PlayReaderModel" ⟨"PlayReaderModel", "verdict", "(I)I"⟩ ⟨"PlayReaderModel", "verdict", "(I)I"⟩) := ⟨List.mem_append_right _ (List.mem_of_getElem? (i := 609) (by decide +kernel)), rfl⟩
theorem li_288 : lwI (.code ⟨"PlayReader", "both", "(III)I"⟩ prog_1_method_16_code 9 (some .int)) := ⟨List.mem_append_right _ (List.mem_of_getElem? (i := 288) (by decide +kernel)), rfl⟩
theorem li_285 : lwI (.methodLink "PlayReaderLaw" 73 ⟨"PlayReader", "both", "(III)I"⟩) := ⟨List.mem_append_right _ (List.mem_of_getElem? (i := 285) (by decide +kernel)), rfl⟩
theorem li_286 : lwI (.instanceMethod ⟨"PlayReader", "both", "(III)I"⟩) := ⟨List.mem_append_right _ (List.mem_of_getElem? (i := 286) (by decide +kernel)), rfl⟩
theorem li_287 : lwI (.selects "PlayReader" ⟨"PlayReader", "both", "(III)I"⟩ ⟨"PlayReader", "both", "(III)I"⟩) := ⟨List.mem_append_right _ (List.mem_of_getElem? (i := 287) (by decide +kernel)), rfl⟩
theorem li_614 : lwI (.code ⟨"PlayReaderModel", "both", "(III)I"⟩ prog_8_method_24_code 10 (some .int)) := ⟨List.mem_append_right _ (List.mem_of_getElem? (i := 614) (by decide +kernel)), rfl⟩
theorem li_611 : lwI (.methodLink "PlayReaderLaw" 76 ⟨"PlayReaderModel", "both", "(III)I"⟩) := ⟨List.mem_append_right _ (List.mem_of_getElem? (i := 611) (by decide +kernel)), rfl⟩
theorem li_612 : lwI (.instanceMethod ⟨"PlayReaderModel", "both", "(III)I"⟩) := ⟨List.mem_append_right _ (List.mem_of_getElem? (i := 612) (by decide +kernel)), rfl⟩
theorem li_613 : lwI (.selects "PlayReaderModel" ⟨"PlayReaderModel", "both", "(III)I"⟩ ⟨"PlayReaderModel", "both", "(III)I"⟩) := ⟨List.mem_append_right _ (List.mem_of_getElem? (i := 613) (by decide +kernel)), rfl⟩
theorem li_298 : lwI (.code ⟨"PlayReader", "may", "(II)I"⟩ prog_1_method_17_code 7 (some .int)) := ⟨List.mem_append_right _ (List.mem_of_getElem? (i := 298) (by decide +kernel)), rfl⟩
theorem li_295 : lwI (.methodLink "PlayReaderLaw" 77 ⟨"PlayReader", "may", "(II)I"⟩) := ⟨List.mem_append_right _ (List.mem_of_getElem? (i := 295) (by decide +kernel)), rfl⟩
theorem li_296 : lwI (.instanceMethod ⟨"PlayReader", "may", "(II)I"⟩) := ⟨List.mem_append_right _ (List.mem_of_getElem? (i := 296) (by decide +kernel)), rfl⟩
theorem li_297 : lwI (.selects "PlayReader" ⟨"PlayReader", "may", "(II)I"⟩ ⟨"PlayReader", "may", "(II)I"⟩) := ⟨List.mem_append_right _ (List.mem_of_getElem? (i := 297) (by decide +kernel)), rfl⟩
theorem li_618 : lwI (.code ⟨"PlayReaderModel", "may", "(II)I"⟩ prog_8_method_25_code 8 (some .int)) := ⟨List.mem_append_right _ (List.mem_of_getElem? (i := 618) (by decide +kernel)), rfl⟩
theorem li_615 : lwI (.methodLink "PlayReaderLaw" 80 ⟨"PlayReaderModel", "may", "(II)I"⟩) := ⟨List.mem_append_right _ (List.mem_of_getElem? (i := 615) (by decide +kernel)), rfl⟩
theorem li_616 : lwI (.instanceMethod ⟨"PlayReaderModel", "may", "(II)I"⟩) := ⟨List.mem_append_right _ (List.mem_of_getElem? (i := 616) (by decide +kernel)), rfl⟩
theorem li_617 : lwI (.selects "PlayReaderModel" ⟨"PlayReaderModel", "may", "(II)I"⟩ ⟨"PlayReaderModel", "may", "(II)I"⟩) := ⟨List.mem_append_right _ (List.mem_of_getElem? (i := 617) (by decide +kernel)), rfl⟩
theorem li_312 : lwI (.code ⟨"PlayReader", "mark", "(II)I"⟩ prog_1_method_18_code 4 (some .int)) := ⟨List.mem_append_right _ (List.mem_of_getElem? (i := 312) (by decide +kernel)), rfl⟩
theorem li_309 : lwI (.methodLink "PlayReaderLaw" 81 ⟨"PlayReader", "mark", "(II)I"⟩) := ⟨List.mem_append_right _ (List.mem_of_getElem? (i := 309) (by decide +kernel)), rfl⟩
theorem li_310 : lwI (.instanceMethod ⟨"PlayReader", "mark", "(II)I"⟩) := ⟨List.mem_append_right _ (List.mem_of_getElem? (i := 310) (by decide +kernel)), rfl⟩
theorem li_311 : lwI (.selects "PlayReader" ⟨"PlayReader", "mark", "(II)I"⟩ ⟨"PlayReader", "mark", "(II)I"⟩) := ⟨List.mem_append_right _ (List.mem_of_getElem? (i := 311) (by decide +kernel)), rfl⟩
theorem li_622 : lwI (.code ⟨"PlayReaderModel", "mark", "(II)I"⟩ prog_8_method_26_code 4 (some .int)) := ⟨List.mem_append_right _ (List.mem_of_getElem? (i := 622) (by decide +kernel)), rfl⟩
theorem li_619 : lwI (.methodLink "PlayReaderLaw" 84 ⟨"PlayReaderModel", "mark", "(II)I"⟩) := ⟨List.mem_append_right _ (List.mem_of_getElem? (i := 619) (by decide +kernel)), rfl⟩
theorem li_620 : lwI (.instanceMethod ⟨"PlayReaderModel", "mark", "(II)I"⟩) := ⟨List.mem_append_right _ (List.mem_of_getElem? (i := 620) (by decide +kernel)), rfl⟩
theorem li_621 : lwI (.selects "PlayReaderModel" ⟨"PlayReaderModel", "mark", "(II)I"⟩ ⟨"PlayReaderModel", "mark", "(II)I"⟩) := ⟨List.mem_append_right _ (List.mem_of_getElem? (i := 621) (by decide +kernel)), rfl⟩
theorem li_319 : lwI (.code ⟨"PlayReader", "rule", "(IIII)I"⟩ prog_1_method_19_code 5 (some .int)) := ⟨List.mem_append_right _ (List.mem_of_getElem? (i := 319) (by decide +kernel)), rfl⟩
theorem li_316 : lwI (.methodLink "PlayReaderLaw" 85 ⟨"PlayReader", "rule", "(IIII)I"⟩) := ⟨List.mem_append_right _ (List.mem_of_getElem? (i := 316) (by decide +kernel)), rfl⟩
theorem li_317 : lwI (.instanceMethod ⟨"PlayReader", "rule", "(IIII)I"⟩) := ⟨List.mem_append_right _ (List.mem_of_getElem? (i := 317) (by decide +kernel)), rfl⟩
theorem li_318 : lwI (.selects "PlayReader" ⟨"PlayReader", "rule", "(IIII)I"⟩ ⟨"PlayReader", "rule", "(IIII)I"⟩) := ⟨List.mem_append_right _ (List.mem_of_getElem? (i := 318) (by decide +kernel)), rfl⟩
theorem li_626 : lwI (.code ⟨"PlayReaderModel", "rule", "(IIII)I"⟩ prog_8_method_29_code 5 (some .int)) := ⟨List.mem_append_right _ (List.mem_of_getElem? (i := 626) (by decide +kernel)), rfl⟩
theorem li_623 : lwI (.methodLink "PlayReaderLaw" 89 ⟨"PlayReaderModel", "rule", "(IIII)I"⟩) := ⟨List.mem_append_right _ (List.mem_of_getElem? (i := 623) (by decide +kernel)), rfl⟩
theorem li_624 : lwI (.instanceMethod ⟨"PlayReaderModel", "rule", "(IIII)I"⟩) := ⟨List.mem_append_right _ (List.mem_of_getElem? (i := 624) (by decide +kernel)), rfl⟩
theorem li_625 : lwI (.selects "PlayReaderModel" ⟨"PlayReaderModel", "rule", "(IIII)I"⟩ ⟨"PlayReaderModel", "rule", "(IIII)I"⟩) := ⟨List.mem_append_right _ (List.mem_of_getElem? (i := 625) (by decide +kernel)), rfl⟩
theorem li_351 : lwI (.code ⟨"PlayReader", "cut", "(III)I"⟩ prog_1_method_20_code 5 (some .int)) := ⟨List.mem_append_right _ (List.mem_of_getElem? (i := 351) (by decide +kernel)), rfl⟩
theorem li_348 : lwI (.methodLink "PlayReaderLaw" 90 ⟨"PlayReader", "cut", "(III)I"⟩) := ⟨List.mem_append_right _ (List.mem_of_getElem? (i := 348) (by decide +kernel)), rfl⟩
theorem li_349 : lwI (.instanceMethod ⟨"PlayReader", "cut", "(III)I"⟩) := ⟨List.mem_append_right _ (List.mem_of_getElem? (i := 349) (by decide +kernel)), rfl⟩
theorem li_350 : lwI (.selects "PlayReader" ⟨"PlayReader", "cut", "(III)I"⟩ ⟨"PlayReader", "cut", "(III)I"⟩) := ⟨List.mem_append_right _ (List.mem_of_getElem? (i := 350) (by decide +kernel)), rfl⟩
theorem li_636 : lwI (.code ⟨"PlayReaderModel", "cut", "(III)I"⟩ prog_8_method_32_code 4 (some .int)) := ⟨List.mem_append_right _ (List.mem_of_getElem? (i := 636) (by decide +kernel)), rfl⟩
theorem li_633 : lwI (.methodLink "PlayReaderLaw" 93 ⟨"PlayReaderModel", "cut", "(III)I"⟩) := ⟨List.mem_append_right _ (List.mem_of_getElem? (i := 633) (by decide +kernel)), rfl⟩
theorem li_634 : lwI (.instanceMethod ⟨"PlayReaderModel", "cut", "(III)I"⟩) := ⟨List.mem_append_right _ (List.mem_of_getElem? (i := 634) (by decide +kernel)), rfl⟩
theorem li_635 : lwI (.selects "PlayReaderModel" ⟨"PlayReaderModel", "cut", "(III)I"⟩ ⟨"PlayReaderModel", "cut", "(III)I"⟩) := ⟨List.mem_append_right _ (List.mem_of_getElem? (i := 635) (by decide +kernel)), rfl⟩
theorem li_375 : lwI (.code ⟨"PlayReader", "fit", "(IIII)I"⟩ prog_1_method_21_code 9 (some .int)) := ⟨List.mem_append_right _ (List.mem_of_getElem? (i := 375) (by decide +kernel)), rfl⟩
theorem li_372 : lwI (.methodLink "PlayReaderLaw" 94 ⟨"PlayReader", "fit", "(IIII)I"⟩) := ⟨List.mem_append_right _ (List.mem_of_getElem? (i := 372) (by decide +kernel)), rfl⟩
theorem li_373 : lwI (.instanceMethod ⟨"PlayReader", "fit", "(IIII)I"⟩) := ⟨List.mem_append_right _ (List.mem_of_getElem? (i := 373) (by decide +kernel)), rfl⟩
theorem li_374 : lwI (.selects "PlayReader" ⟨"PlayReader", "fit", "(IIII)I"⟩ ⟨"PlayReader", "fit", "(IIII)I"⟩) := ⟨List.mem_append_right _ (List.mem_of_getElem? (i := 374) (by decide +kernel)), rfl⟩
theorem li_648 : lwI (.code ⟨"PlayReaderModel", "fit", "(IIII)I"⟩ prog_8_method_33_code 10 (some .int)) := ⟨List.mem_append_right _ (List.mem_of_getElem? (i := 648) (by decide +kernel)), rfl⟩
theorem li_645 : lwI (.methodLink "PlayReaderLaw" 97 ⟨"PlayReaderModel", "fit", "(IIII)I"⟩) := ⟨List.mem_append_right _ (List.mem_of_getElem? (i := 645) (by decide +kernel)), rfl⟩
theorem li_646 : lwI (.instanceMethod ⟨"PlayReaderModel", "fit", "(IIII)I"⟩) := ⟨List.mem_append_right _ (List.mem_of_getElem? (i := 646) (by decide +kernel)), rfl⟩
theorem li_647 : lwI (.selects "PlayReaderModel" ⟨"PlayReaderModel", "fit", "(IIII)I"⟩ ⟨"PlayReaderModel", "fit", "(IIII)I"⟩) := ⟨List.mem_append_right _ (List.mem_of_getElem? (i := 647) (by decide +kernel)), rfl⟩
theorem li_379 : lwI (.code ⟨"PlayReader", "tour", "(IIII)I"⟩ prog_1_method_22_code 10 (some .int)) := ⟨List.mem_append_right _ (List.mem_of_getElem? (i := 379) (by decide +kernel)), rfl⟩
theorem li_376 : lwI (.methodLink "PlayReaderLaw" 98 ⟨"PlayReader", "tour", "(IIII)I"⟩) := ⟨List.mem_append_right _ (List.mem_of_getElem? (i := 376) (by decide +kernel)), rfl⟩
theorem li_377 : lwI (.instanceMethod ⟨"PlayReader", "tour", "(IIII)I"⟩) := ⟨List.mem_append_right _ (List.mem_of_getElem? (i := 377) (by decide +kernel)), rfl⟩
theorem li_378 : lwI (.selects "PlayReader" ⟨"PlayReader", "tour", "(IIII)I"⟩ ⟨"PlayReader", "tour", "(IIII)I"⟩) := ⟨List.mem_append_right _ (List.mem_of_getElem? (i := 378) (by decide +kernel)), rfl⟩
theorem li_652 : lwI (.code ⟨"PlayReaderModel", "tour", "(IIII)I"⟩ prog_8_method_35_code 11 (some .int)) := ⟨List.mem_append_right _ (List.mem_of_getElem? (i := 652) (by decide +kernel)), rfl⟩
theorem li_649 : lwI (.methodLink "PlayReaderLaw" 101 ⟨"PlayReaderModel", "tour", "(IIII)I"⟩) := ⟨List.mem_append_right _ (List.mem_of_getElem? (i := 649) (by decide +kernel)), rfl⟩
theorem li_650 : lwI (.instanceMethod ⟨"PlayReaderModel", "tour", "(IIII)I"⟩) := ⟨List.mem_append_right _ (List.mem_of_getElem? (i := 650) (by decide +kernel)), rfl⟩
theorem li_651 : lwI (.selects "PlayReaderModel" ⟨"PlayReaderModel", "tour", "(IIII)I"⟩ ⟨"PlayReaderModel", "tour", "(IIII)I"⟩) := ⟨List.mem_append_right _ (List.mem_of_getElem? (i := 651) (by decide +kernel)), rfl⟩
theorem li_414 : lwI (.code ⟨"PlayReader", "town", "(I)I"⟩ prog_1_method_23_code 2 (some .int)) := ⟨List.mem_append_right _ (List.mem_of_getElem? (i := 414) (by decide +kernel)), rfl⟩
theorem li_411 : lwI (.methodLink "PlayReaderLaw" 102 ⟨"PlayReader", "town", "(I)I"⟩) := ⟨List.mem_append_right _ (List.mem_of_getElem? (i := 411) (by decide +kernel)), rfl⟩
theorem li_412 : lwI (.instanceMethod ⟨"PlayReader", "town", "(I)I"⟩) := ⟨List.mem_append_right _ (List.mem_of_getElem? (i := 412) (by decide +kernel)), rfl⟩
theorem li_413 : lwI (.selects "PlayReader" ⟨"PlayReader", "town", "(I)I"⟩ ⟨"PlayReader", "town", "(I)I"⟩) := ⟨List.mem_append_right _ (List.mem_of_getElem? (i := 413) (by decide +kernel)), rfl⟩
theorem li_660 : lwI (.code ⟨"PlayReaderModel", "town", "(I)I"⟩ prog_8_method_36_code 2 (some .int)) := ⟨List.mem_append_right _ (List.mem_of_getElem? (i := 660) (by decide +kernel)), rfl⟩
theorem li_657 : lwI (.methodLink "PlayReaderLaw" 105 ⟨"PlayReaderModel", "town", "(I)I"⟩) := ⟨List.mem_append_right _ (List.mem_of_getElem? (i := 657) (by decide +kernel)), rfl⟩
theorem li_658 : lwI (.instanceMethod ⟨"PlayReaderModel", "town", "(I)I"⟩) := ⟨List.mem_append_right _ (List.mem_of_getElem? (i := 658) (by decide +kernel)), rfl⟩
theorem li_659 : lwI (.selects "PlayReaderModel" ⟨"PlayReaderModel", "town", "(I)I"⟩ ⟨"PlayReaderModel", "town", "(I)I"⟩) := ⟨List.mem_append_right _ (List.mem_of_getElem? (i := 659) (by decide +kernel)), rfl⟩
theorem li_418 : lwI (.code ⟨"PlayReader", "free", "(III)I"⟩ prog_1_method_24_code 9 (some .int)) := ⟨List.mem_append_right _ (List.mem_of_getElem? (i := 418) (by decide +kernel)), rfl⟩
theorem li_415 : lwI (.methodLink "PlayReaderLaw" 106 ⟨"PlayReader", "free", "(III)I"⟩) := ⟨List.mem_append_right _ (List.mem_of_getElem? (i := 415) (by decide +kernel)), rfl⟩
theorem li_416 : lwI (.instanceMethod ⟨"PlayReader", "free", "(III)I"⟩) := ⟨List.mem_append_right _ (List.mem_of_getElem? (i := 416) (by decide +kernel)), rfl⟩
theorem li_417 : lwI (.selects "PlayReader" ⟨"PlayReader", "free", "(III)I"⟩ ⟨"PlayReader", "free", "(III)I"⟩) := ⟨List.mem_append_right _ (List.mem_of_getElem? (i := 417) (by decide +kernel)), rfl⟩
theorem li_664 : lwI (.code ⟨"PlayReaderModel", "free", "(III)I"⟩ prog_8_method_37_code 5 (some .int)) := ⟨List.mem_append_right _ (List.mem_of_getElem? (i := 664) (by decide +kernel)), rfl⟩
theorem li_661 : lwI (.methodLink "PlayReaderLaw" 109 ⟨"PlayReaderModel", "free", "(III)I"⟩) := ⟨List.mem_append_right _ (List.mem_of_getElem? (i := 661) (by decide +kernel)), rfl⟩
theorem li_662 : lwI (.instanceMethod ⟨"PlayReaderModel", "free", "(III)I"⟩) := ⟨List.mem_append_right _ (List.mem_of_getElem? (i := 662) (by decide +kernel)), rfl⟩
theorem li_663 : lwI (.selects "PlayReaderModel" ⟨"PlayReaderModel", "free", "(III)I"⟩ ⟨"PlayReaderModel", "free", "(III)I"⟩) := ⟨List.mem_append_right _ (List.mem_of_getElem? (i := 663) (by decide +kernel)), rfl⟩
theorem li_427 : lwI (.methodLink "PlayReaderLaw" 110 ⟨"PlayReader", "count", "(I)I"⟩) := ⟨List.mem_append_right _ (List.mem_of_getElem? (i := 427) (by decide +kernel)), rfl⟩
theorem li_665 : lwI (.methodLink "PlayReaderLaw" 113 ⟨"PlayReaderModel", "count", "(I)I"⟩) := ⟨List.mem_append_right _ (List.mem_of_getElem? (i := 665) (by decide +kernel)), rfl⟩
theorem li_441 : lwI (.code ⟨"PlayReader", "digest", "()J"⟩ prog_1_method_26_code 4 (some .long)) := ⟨List.mem_append_right _ (List.mem_of_getElem? (i := 441) (by decide +kernel)), rfl⟩
theorem li_438 : lwI (.methodLink "PlayReaderLaw" 114 ⟨"PlayReader", "digest", "()J"⟩) := ⟨List.mem_append_right _ (List.mem_of_getElem? (i := 438) (by decide +kernel)), rfl⟩
theorem li_439 : lwI (.instanceMethod ⟨"PlayReader", "digest", "()J"⟩) := ⟨List.mem_append_right _ (List.mem_of_getElem? (i := 439) (by decide +kernel)), rfl⟩
theorem li_440 : lwI (.selects "PlayReader" ⟨"PlayReader", "digest", "()J"⟩ ⟨"PlayReader", "digest", "()J"⟩) := ⟨List.mem_append_right _ (List.mem_of_getElem? (i := 440) (by decide +kernel)), rfl⟩
theorem li_672 : lwI (.code ⟨"PlayReaderModel", "digest", "()J"⟩ prog_8_method_39_code 5 (some .long)) := ⟨List.mem_append_right _ (List.mem_of_getElem? (i := 672) (by decide +kernel)), rfl⟩
theorem li_669 : lwI (.methodLink "PlayReaderLaw" 118 ⟨"PlayReaderModel", "digest", "()J"⟩) := ⟨List.mem_append_right _ (List.mem_of_getElem? (i := 669) (by decide +kernel)), rfl⟩
theorem li_670 : lwI (.instanceMethod ⟨"PlayReaderModel", "digest", "()J"⟩) := ⟨List.mem_append_right _ (List.mem_of_getElem? (i := 670) (by decide +kernel)), rfl⟩
theorem li_671 : lwI (.selects "PlayReaderModel" ⟨"PlayReaderModel", "digest", "()J"⟩ ⟨"PlayReaderModel", "digest", "()J"⟩) := ⟨List.mem_append_right _ (List.mem_of_getElem? (i := 671) (by decide +kernel)), rfl⟩
theorem nw_L_7 : lwI (.classLink RL 7 RX5) ∧ lwI (.instantiable RX5 10) ∧ lwI (.initialized RX5) := ⟨li_10, li_11, li_1⟩
theorem cf_L_9 : CF RL 9 yX5_init cX5_init 2 none 0 := ⟨li_12, li_1, li_14, ⟨by decide +kernel, by decide +kernel⟩, by decide +kernel⟩
theorem ci_X5_init : yX5_init.name = "<init>" ∧ lwI (.instanceMethod yX5_init) := ⟨rfl, li_13⟩
theorem nw_L_10 : lwI (.classLink RL 10 RX6) ∧ lwI (.instantiable RX6 20) ∧ lwI (.initialized RX6) := ⟨li_459, li_460, li_5⟩
theorem cf_L_12 : CF RL 12 yX6_init cX6_init 1 none 0 := ⟨li_461, li_5, li_463, ⟨by decide +kernel, by decide +kernel⟩, by decide +kernel⟩
theorem ci_X6_init : yX6_init.name = "<init>" ∧ lwI (.instanceMethod yX6_init) := ⟨rfl, li_462⟩
theorem cf_L_13 : CF RL 13 yX5_put cX5_put 5 (some .int) 3 := ⟨li_103, li_1, li_106, ⟨by decide +kernel, by decide +kernel⟩, by decide +kernel⟩
theorem cv_X5_put : lwI (.instanceMethod yX5_put) ∧ lwI (.selects yX5_put.cls yX5_put yX5_put) := ⟨li_104, li_105⟩
theorem cf_L_17 : CF RL 17 yX6_put cX6_put 5 (some .int) 3 := ⟨li_527, li_5, li_530, ⟨by decide +kernel, by decide +kernel⟩, by decide +kernel⟩
theorem cv_X6_put : lwI (.instanceMethod yX6_put) ∧ lwI (.selects yX6_put.cls yX6_put yX6_put) := ⟨li_528, li_529⟩
theorem cf_L_18 : CF RL 18 yX5_take cX5_take 5 (some .int) 2 := ⟨li_122, li_1, li_125, ⟨by decide +kernel, by decide +kernel⟩, by decide +kernel⟩
theorem cv_X5_take : lwI (.instanceMethod yX5_take) ∧ lwI (.selects yX5_take.cls yX5_take yX5_take) := ⟨li_123, li_124⟩
theorem cf_L_22 : CF RL 22 yX6_take cX6_take 5 (some .int) 2 := ⟨li_540, li_5, li_543, ⟨by decide +kernel, by decide +kernel⟩, by decide +kernel⟩
theorem cv_X6_take : lwI (.instanceMethod yX6_take) ∧ lwI (.selects yX6_take.cls yX6_take yX6_take) := ⟨li_541, li_542⟩
theorem cf_L_23 : CF RL 23 yX5_copy cX5_copy 5 (some .int) 2 := ⟨li_139, li_1, li_142, ⟨by decide +kernel, by decide +kernel⟩, by decide +kernel⟩
theorem cv_X5_copy : lwI (.instanceMethod yX5_copy) ∧ lwI (.selects yX5_copy.cls yX5_copy yX5_copy) := ⟨li_140, li_141⟩
theorem cf_L_26 : CF RL 26 yX6_copy cX6_copy 4 (some .int) 2 := ⟨li_544, li_5, li_547, ⟨by decide +kernel, by decide +kernel⟩, by decide +kernel⟩
theorem cv_X6_copy : lwI (.instanceMethod yX6_copy) ∧ lwI (.selects yX6_copy.cls yX6_copy yX6_copy) := ⟨li_545, li_546⟩
theorem cf_L_27 : CF RL 27 yX5_lineAt cX5_lineAt 4 (some .int) 2 := ⟨li_148, li_1, li_151, ⟨by decide +kernel, by decide +kernel⟩, by decide +kernel⟩
theorem cv_X5_lineAt : lwI (.instanceMethod yX5_lineAt) ∧ lwI (.selects yX5_lineAt.cls yX5_lineAt yX5_lineAt) := ⟨li_149, li_150⟩
theorem cf_L_30 : CF RL 30 yX6_lineAt cX6_lineAt 3 (some .int) 2 := ⟨li_548, li_5, li_551, ⟨by decide +kernel, by decide +kernel⟩, by decide +kernel⟩
theorem cv_X6_lineAt : lwI (.instanceMethod yX6_lineAt) ∧ lwI (.selects yX6_lineAt.cls yX6_lineAt yX6_lineAt) := ⟨li_549, li_550⟩
theorem cf_L_31 : CF RL 31 yX5_differ cX5_differ 5 (some .int) 2 := ⟨li_152, li_1, li_155, ⟨by decide +kernel, by decide +kernel⟩, by decide +kernel⟩
theorem cv_X5_differ : lwI (.instanceMethod yX5_differ) ∧ lwI (.selects yX5_differ.cls yX5_differ yX5_differ) := ⟨li_153, li_154⟩
theorem cf_L_34 : CF RL 34 yX6_differ cX6_differ 3 (some .int) 2 := ⟨li_552, li_5, li_555, ⟨by decide +kernel, by decide +kernel⟩, by decide +kernel⟩
theorem cv_X6_differ : lwI (.instanceMethod yX6_differ) ∧ lwI (.selects yX6_differ.cls yX6_differ yX6_differ) := ⟨li_553, li_554⟩
theorem cf_L_35 : CF RL 35 yX5_step cX5_step 6 (some .int) 3 := ⟨li_177, li_1, li_180, ⟨by decide +kernel, by decide +kernel⟩, by decide +kernel⟩
theorem cv_X5_step : lwI (.instanceMethod yX5_step) ∧ lwI (.selects yX5_step.cls yX5_step yX5_step) := ⟨li_178, li_179⟩
theorem cf_L_38 : CF RL 38 yX6_step cX6_step 9 (some .int) 3 := ⟨li_564, li_5, li_567, ⟨by decide +kernel, by decide +kernel⟩, by decide +kernel⟩
theorem cv_X6_step : lwI (.instanceMethod yX6_step) ∧ lwI (.selects yX6_step.cls yX6_step yX6_step) := ⟨li_565, li_566⟩
theorem cf_L_39 : CF RL 39 yX5_condition cX5_condition 4 (some .int) 3 := ⟨li_189, li_1, li_192, ⟨by decide +kernel, by decide +kernel⟩, by decide +kernel⟩
theorem cv_X5_condition : lwI (.instanceMethod yX5_condition) ∧ lwI (.selects yX5_condition.cls yX5_condition yX5_condition) := ⟨li_190, li_191⟩
theorem cf_L_42 : CF RL 42 yX6_condition cX6_condition 4 (some .int) 3 := ⟨li_568, li_5, li_571, ⟨by decide +kernel, by decide +kernel⟩, by decide +kernel⟩
theorem cv_X6_condition : lwI (.instanceMethod yX6_condition) ∧ lwI (.selects yX6_condition.cls yX6_condition yX6_condition) := ⟨li_569, li_570⟩
theorem cf_L_43 : CF RL 43 yX5_clear cX5_clear 2 (some .int) 0 := ⟨li_211, li_1, li_214, ⟨by decide +kernel, by decide +kernel⟩, by decide +kernel⟩
theorem cv_X5_clear : lwI (.instanceMethod yX5_clear) ∧ lwI (.selects yX5_clear.cls yX5_clear yX5_clear) := ⟨li_212, li_213⟩
theorem cf_L_47 : CF RL 47 yX6_clear cX6_clear 2 (some .int) 0 := ⟨li_572, li_5, li_575, ⟨by decide +kernel, by decide +kernel⟩, by decide +kernel⟩
theorem cv_X6_clear : lwI (.instanceMethod yX6_clear) ∧ lwI (.selects yX6_clear.cls yX6_clear yX6_clear) := ⟨li_573, li_574⟩
theorem cf_L_48 : CF RL 48 yX5_breaks cX5_breaks 4 (some .int) 1 := ⟨li_215, li_1, li_218, ⟨by decide +kernel, by decide +kernel⟩, by decide +kernel⟩
theorem cv_X5_breaks : lwI (.instanceMethod yX5_breaks) ∧ lwI (.selects yX5_breaks.cls yX5_breaks yX5_breaks) := ⟨li_216, li_217⟩
theorem cf_L_52 : CF RL 52 yX6_breaks cX6_breaks 3 (some .int) 1 := ⟨li_576, li_5, li_579, ⟨by decide +kernel, by decide +kernel⟩, by decide +kernel⟩
theorem cv_X6_breaks : lwI (.instanceMethod yX6_breaks) ∧ lwI (.selects yX6_breaks.cls yX6_breaks yX6_breaks) := ⟨li_577, li_578⟩
theorem cf_L_53 : CF RL 53 yX5_hear cX5_hear 4 (some .int) 2 := ⟨li_258, li_1, li_261, ⟨by decide +kernel, by decide +kernel⟩, by decide +kernel⟩
theorem cv_X5_hear : lwI (.instanceMethod yX5_hear) ∧ lwI (.selects yX5_hear.cls yX5_hear yX5_hear) := ⟨li_259, li_260⟩
theorem cf_L_56 : CF RL 56 yX6_hear cX6_hear 3 (some .int) 2 := ⟨li_584, li_5, li_587, ⟨by decide +kernel, by decide +kernel⟩, by decide +kernel⟩
theorem cv_X6_hear : lwI (.instanceMethod yX6_hear) ∧ lwI (.selects yX6_hear.cls yX6_hear yX6_hear) := ⟨li_585, li_586⟩
theorem cf_L_57 : CF RL 57 yX5_forget cX5_forget 4 (some .int) 1 := ⟨li_262, li_1, li_265, ⟨by decide +kernel, by decide +kernel⟩, by decide +kernel⟩
theorem cv_X5_forget : lwI (.instanceMethod yX5_forget) ∧ lwI (.selects yX5_forget.cls yX5_forget yX5_forget) := ⟨li_263, li_264⟩
theorem cf_L_60 : CF RL 60 yX6_forget cX6_forget 3 (some .int) 1 := ⟨li_591, li_5, li_594, ⟨by decide +kernel, by decide +kernel⟩, by decide +kernel⟩
theorem cv_X6_forget : lwI (.instanceMethod yX6_forget) ∧ lwI (.selects yX6_forget.cls yX6_forget yX6_forget) := ⟨li_592, li_593⟩
theorem cf_L_61 : CF RL 61 yX5_heard cX5_heard 4 (some .int) 2 := ⟨li_270, li_1, li_273, ⟨by decide +kernel, by decide +kernel⟩, by decide +kernel⟩
theorem cv_X5_heard : lwI (.instanceMethod yX5_heard) ∧ lwI (.selects yX5_heard.cls yX5_heard yX5_heard) := ⟨li_271, li_272⟩
theorem cf_L_64 : CF RL 64 yX6_heard cX6_heard 3 (some .int) 2 := ⟨li_595, li_5, li_598, ⟨by decide +kernel, by decide +kernel⟩, by decide +kernel⟩
theorem cv_X6_heard : lwI (.instanceMethod yX6_heard) ∧ lwI (.selects yX6_heard.cls yX6_heard yX6_heard) := ⟨li_596, li_597⟩
theorem cf_L_65 : CF RL 65 yX5_judge cX5_judge 5 (some .int) 2 := ⟨li_274, li_1, li_277, ⟨by decide +kernel, by decide +kernel⟩, by decide +kernel⟩
theorem cv_X5_judge : lwI (.instanceMethod yX5_judge) ∧ lwI (.selects yX5_judge.cls yX5_judge yX5_judge) := ⟨li_275, li_276⟩
theorem cf_L_68 : CF RL 68 yX6_judge cX6_judge 3 (some .int) 2 := ⟨li_599, li_5, li_602, ⟨by decide +kernel, by decide +kernel⟩, by decide +kernel⟩
theorem cv_X6_judge : lwI (.instanceMethod yX6_judge) ∧ lwI (.selects yX6_judge.cls yX6_judge yX6_judge) := ⟨li_600, li_601⟩
theorem cf_L_69 : CF RL 69 yX5_verdict cX5_verdict 5 (some .int) 1 := ⟨li_278, li_1, li_281, ⟨by decide +kernel, by decide +kernel⟩, by decide +kernel⟩
theorem cv_X5_verdict : lwI (.instanceMethod yX5_verdict) ∧ lwI (.selects yX5_verdict.cls yX5_verdict yX5_verdict) := ⟨li_279, li_280⟩
theorem cf_L_72 : CF RL 72 yX6_verdict cX6_verdict 5 (some .int) 1 := ⟨li_607, li_5, li_610, ⟨by decide +kernel, by decide +kernel⟩, by decide +kernel⟩
theorem cv_X6_verdict : lwI (.instanceMethod yX6_verdict) ∧ lwI (.selects yX6_verdict.cls yX6_verdict yX6_verdict) := ⟨li_608, li_609⟩
theorem cf_L_73 : CF RL 73 yX5_both cX5_both 9 (some .int) 3 := ⟨li_285, li_1, li_288, ⟨by decide +kernel, by decide +kernel⟩, by decide +kernel⟩
theorem cv_X5_both : lwI (.instanceMethod yX5_both) ∧ lwI (.selects yX5_both.cls yX5_both yX5_both) := ⟨li_286, li_287⟩
theorem cf_L_76 : CF RL 76 yX6_both cX6_both 10 (some .int) 3 := ⟨li_611, li_5, li_614, ⟨by decide +kernel, by decide +kernel⟩, by decide +kernel⟩
theorem cv_X6_both : lwI (.instanceMethod yX6_both) ∧ lwI (.selects yX6_both.cls yX6_both yX6_both) := ⟨li_612, li_613⟩
theorem cf_L_77 : CF RL 77 yX5_may cX5_may 7 (some .int) 2 := ⟨li_295, li_1, li_298, ⟨by decide +kernel, by decide +kernel⟩, by decide +kernel⟩
theorem cv_X5_may : lwI (.instanceMethod yX5_may) ∧ lwI (.selects yX5_may.cls yX5_may yX5_may) := ⟨li_296, li_297⟩
theorem cf_L_80 : CF RL 80 yX6_may cX6_may 8 (some .int) 2 := ⟨li_615, li_5, li_618, ⟨by decide +kernel, by decide +kernel⟩, by decide +kernel⟩
theorem cv_X6_may : lwI (.instanceMethod yX6_may) ∧ lwI (.selects yX6_may.cls yX6_may yX6_may) := ⟨li_616, li_617⟩
theorem cf_L_81 : CF RL 81 yX5_mark cX5_mark 4 (some .int) 2 := ⟨li_309, li_1, li_312, ⟨by decide +kernel, by decide +kernel⟩, by decide +kernel⟩
theorem cv_X5_mark : lwI (.instanceMethod yX5_mark) ∧ lwI (.selects yX5_mark.cls yX5_mark yX5_mark) := ⟨li_310, li_311⟩
theorem cf_L_84 : CF RL 84 yX6_mark cX6_mark 4 (some .int) 2 := ⟨li_619, li_5, li_622, ⟨by decide +kernel, by decide +kernel⟩, by decide +kernel⟩
theorem cv_X6_mark : lwI (.instanceMethod yX6_mark) ∧ lwI (.selects yX6_mark.cls yX6_mark yX6_mark) := ⟨li_620, li_621⟩
theorem cf_L_85 : CF RL 85 yX5_rule cX5_rule 5 (some .int) 4 := ⟨li_316, li_1, li_319, ⟨by decide +kernel, by decide +kernel⟩, by decide +kernel⟩
theorem cv_X5_rule : lwI (.instanceMethod yX5_rule) ∧ lwI (.selects yX5_rule.cls yX5_rule yX5_rule) := ⟨li_317, li_318⟩
theorem cf_L_89 : CF RL 89 yX6_rule cX6_rule 5 (some .int) 4 := ⟨li_623, li_5, li_626, ⟨by decide +kernel, by decide +kernel⟩, by decide +kernel⟩
theorem cv_X6_rule : lwI (.instanceMethod yX6_rule) ∧ lwI (.selects yX6_rule.cls yX6_rule yX6_rule) := ⟨li_624, li_625⟩
theorem cf_L_90 : CF RL 90 yX5_cut cX5_cut 5 (some .int) 3 := ⟨li_348, li_1, li_351, ⟨by decide +kernel, by decide +kernel⟩, by decide +kernel⟩
theorem cv_X5_cut : lwI (.instanceMethod yX5_cut) ∧ lwI (.selects yX5_cut.cls yX5_cut yX5_cut) := ⟨li_349, li_350⟩
theorem cf_L_93 : CF RL 93 yX6_cut cX6_cut 4 (some .int) 3 := ⟨li_633, li_5, li_636, ⟨by decide +kernel, by decide +kernel⟩, by decide +kernel⟩
theorem cv_X6_cut : lwI (.instanceMethod yX6_cut) ∧ lwI (.selects yX6_cut.cls yX6_cut yX6_cut) := ⟨li_634, li_635⟩
theorem cf_L_94 : CF RL 94 yX5_fit cX5_fit 9 (some .int) 4 := ⟨li_372, li_1, li_375, ⟨by decide +kernel, by decide +kernel⟩, by decide +kernel⟩
theorem cv_X5_fit : lwI (.instanceMethod yX5_fit) ∧ lwI (.selects yX5_fit.cls yX5_fit yX5_fit) := ⟨li_373, li_374⟩
theorem cf_L_97 : CF RL 97 yX6_fit cX6_fit 10 (some .int) 4 := ⟨li_645, li_5, li_648, ⟨by decide +kernel, by decide +kernel⟩, by decide +kernel⟩
theorem cv_X6_fit : lwI (.instanceMethod yX6_fit) ∧ lwI (.selects yX6_fit.cls yX6_fit yX6_fit) := ⟨li_646, li_647⟩
theorem cf_L_98 : CF RL 98 yX5_tour cX5_tour 10 (some .int) 4 := ⟨li_376, li_1, li_379, ⟨by decide +kernel, by decide +kernel⟩, by decide +kernel⟩
theorem cv_X5_tour : lwI (.instanceMethod yX5_tour) ∧ lwI (.selects yX5_tour.cls yX5_tour yX5_tour) := ⟨li_377, li_378⟩
theorem cf_L_101 : CF RL 101 yX6_tour cX6_tour 11 (some .int) 4 := ⟨li_649, li_5, li_652, ⟨by decide +kernel, by decide +kernel⟩, by decide +kernel⟩
theorem cv_X6_tour : lwI (.instanceMethod yX6_tour) ∧ lwI (.selects yX6_tour.cls yX6_tour yX6_tour) := ⟨li_650, li_651⟩
theorem cf_L_102 : CF RL 102 yX5_town cX5_town 2 (some .int) 1 := ⟨li_411, li_1, li_414, ⟨by decide +kernel, by decide +kernel⟩, by decide +kernel⟩
theorem cv_X5_town : lwI (.instanceMethod yX5_town) ∧ lwI (.selects yX5_town.cls yX5_town yX5_town) := ⟨li_412, li_413⟩
theorem cf_L_105 : CF RL 105 yX6_town cX6_town 2 (some .int) 1 := ⟨li_657, li_5, li_660, ⟨by decide +kernel, by decide +kernel⟩, by decide +kernel⟩
theorem cv_X6_town : lwI (.instanceMethod yX6_town) ∧ lwI (.selects yX6_town.cls yX6_town yX6_town) := ⟨li_658, li_659⟩
theorem cf_L_106 : CF RL 106 yX5_free cX5_free 9 (some .int) 3 := ⟨li_415, li_1, li_418, ⟨by decide +kernel, by decide +kernel⟩, by decide +kernel⟩
theorem cv_X5_free : lwI (.instanceMethod yX5_free) ∧ lwI (.selects yX5_free.cls yX5_free yX5_free) := ⟨li_416, li_417⟩
theorem cf_L_109 : CF RL 109 yX6_free cX6_free 5 (some .int) 3 := ⟨li_661, li_5, li_664, ⟨by decide +kernel, by decide +kernel⟩, by decide +kernel⟩
theorem cv_X6_free : lwI (.instanceMethod yX6_free) ∧ lwI (.selects yX6_free.cls yX6_free yX6_free) := ⟨li_662, li_663⟩
theorem cf_L_110 : CF RL 110 yX5_count cX5_count 2 (some .int) 1 := ⟨li_427, li_1, li_430, ⟨by decide +kernel, by decide +kernel⟩, by decide +kernel⟩
theorem cf_L_113 : CF RL 113 yX6_count cX6_count 5 (some .int) 1 := ⟨li_665, li_5, li_668, ⟨by decide +kernel, by decide +kernel⟩, by decide +kernel⟩
theorem cf_L_114 : CF RL 114 yX5_digest cX5_digest 4 (some .long) 0 := ⟨li_438, li_1, li_441, ⟨by decide +kernel, by decide +kernel⟩, by decide +kernel⟩
theorem cv_X5_digest : lwI (.instanceMethod yX5_digest) ∧ lwI (.selects yX5_digest.cls yX5_digest yX5_digest) := ⟨li_439, li_440⟩
theorem cf_L_118 : CF RL 118 yX6_digest cX6_digest 5 (some .long) 0 := ⟨li_669, li_5, li_672, ⟨by decide +kernel, by decide +kernel⟩, by decide +kernel⟩
theorem cv_X6_digest : lwI (.instanceMethod yX6_digest) ∧ lwI (.selects yX6_digest.cls yX6_digest yX6_digest) := ⟨li_670, li_671⟩
theorem nst_0 : (Cond.methodLinkNest RX5 36 yX0_init RX5) ∈ lw_tbl := List.mem_append_right _ (List.mem_of_getElem? (i := 26) (by decide +kernel))
theorem nst_1 : (Cond.methodLinkNest RX5 43 yX4_init RX5) ∈ lw_tbl := List.mem_append_right _ (List.mem_of_getElem? (i := 39) (by decide +kernel))
theorem nst_2 : (Cond.methodLinkNest RX4 11 yX2_init RX5) ∈ lw_tbl := List.mem_append_right _ (List.mem_of_getElem? (i := 45) (by decide +kernel))
theorem nst_3 : (Cond.methodLinkNest RX5 48 yX2_init RX5) ∈ lw_tbl := List.mem_append_right _ (List.mem_of_getElem? (i := 71) (by decide +kernel))
theorem nst_4 : (Cond.methodLinkNest RX1 29 yX5_hasBit RX5) ∈ lw_tbl := List.mem_append_right _ (List.mem_of_getElem? (i := 243) (by decide +kernel))
theorem nst_5 : (Cond.methodLinkNest RX4 27 yX5_isTown RX5) ∈ lw_tbl := List.mem_append_right _ (List.mem_of_getElem? (i := 390) (by decide +kernel))
theorem nst_6 : (Cond.methodLinkNest RX4 48 yX5_hasBit RX5) ∈ lw_tbl := List.mem_append_right _ (List.mem_of_getElem? (i := 403) (by decide +kernel))
theorem aov_X2 : (Cond.arrayOver (.object RX2)) ∈ lw_tbl := List.mem_append_right _ (List.mem_of_getElem? (i := 19) (by decide +kernel))
theorem aov_X1 : (Cond.arrayOver (.object RX1)) ∈ lw_tbl := List.mem_append_right _ (List.mem_of_getElem? (i := 21) (by decide +kernel))
theorem aov_X3 : (Cond.arrayOver (.object RX3)) ∈ lw_tbl := List.mem_append_right _ (List.mem_of_getElem? (i := 23) (by decide +kernel))
theorem aov_I : (Cond.arrayOver (.array .int)) ∈ lw_tbl := List.mem_append_right _ (List.mem_of_getElem? (i := 31) (by decide +kernel))
theorem ins_X0 : (Cond.instantiable RX0 1) ∈ lw_tbl := List.mem_append_right _ (List.mem_of_getElem? (i := 25) (by decide +kernel))
theorem ins_X1 : (Cond.instantiable RX1 3) ∈ lw_tbl := List.mem_append_right _ (List.mem_of_getElem? (i := 193) (by decide +kernel))
theorem ins_X2 : (Cond.instantiable RX2 2) ∈ lw_tbl := List.mem_append_right _ (List.mem_of_getElem? (i := 44) (by decide +kernel))
theorem ins_X3 : (Cond.instantiable RX3 4) ∈ lw_tbl := List.mem_append_right _ (List.mem_of_getElem? (i := 326) (by decide +kernel))
theorem ins_X4 : (Cond.instantiable RX4 3) ∈ lw_tbl := List.mem_append_right _ (List.mem_of_getElem? (i := 38) (by decide +kernel))
theorem ins_X5 : (Cond.instantiable RX5 10) ∈ lw_tbl := List.mem_append_right _ (List.mem_of_getElem? (i := 11) (by decide +kernel))
theorem ins_X6 : (Cond.instantiable RX6 20) ∈ lw_tbl := List.mem_append_right _ (List.mem_of_getElem? (i := 460) (by decide +kernel))
