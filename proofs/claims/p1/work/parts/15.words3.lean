/-! the words that the rows use, each by its place in the tables; printed by wip/p1/gen.py -/
theorem q_p_109 : Cond.selects RX11 yX11_tries yX11_tries ∈ gw := gw_s (y := yX11_tries) (n := 65) (List.mem_append_right _ (List.mem_append_right _ (List.mem_append_right _ (List.mem_append_right _ (List.mem_append_right _ (List.mem_append_right _ (List.mem_append_left _ (List.mem_of_getElem? (i := 13) (by decide +kernel)))))))))
theorem q_p_110 : Cond.selects RX11 yX11_back yX11_back ∈ gw := gw_s (y := yX11_back) (n := 65) (List.mem_append_right _ (List.mem_append_right _ (List.mem_append_right _ (List.mem_append_right _ (List.mem_append_right _ (List.mem_append_right _ (List.mem_append_left _ (List.mem_of_getElem? (i := 14) (by decide +kernel)))))))))
theorem q_p_72 : Cond.selects RX11 yX11_begins yX11_begins ∈ gw := gw_s (y := yX11_begins) (n := 65) (List.mem_append_right _ (List.mem_append_right _ (List.mem_append_right _ (List.mem_append_right _ (List.mem_append_left _ (List.mem_of_getElem? (i := 8) (by decide +kernel)))))))
theorem q_1_151 : Cond.classLink RX10 30 RX7 ∈ gw := gw_1 151 (by decide +kernel) rfl
theorem q_1_152 : Cond.instantiable RX7 2 ∈ gw := gw_1 152 (by decide +kernel) rfl
theorem q_1_154 : Cond.instanceMethod yX7_init ∈ gw := gw_1 154 (by decide +kernel) rfl
theorem q_1_155 : Cond.code yX7_init cX7_init 1 none ∈ gw := gw_1 155 (by decide +kernel) rfl
theorem q_1_156 : Cond.methodLink RX7 3 objectInit ∈ gw := gw_1 156 (by decide +kernel) rfl
theorem q_1_30 : Cond.instanceMethod objectInit ∈ gw := gw_1 30 (by decide +kernel) rfl
theorem q_1_31 : Cond.code objectInit ⟨#[0xb1]⟩ 1 none ∈ gw := gw_1 31 (by decide +kernel) rfl
theorem q_1_32 : Cond.classLink RX10 20 RX2 ∈ gw := gw_1 32 (by decide +kernel) rfl
theorem q_1_33 : Cond.instantiable RX2 18 ∈ gw := gw_1 33 (by decide +kernel) rfl
theorem q_1_34 : Cond.methodLink RX10 22 yX2_init ∈ gw := gw_1 34 (by decide +kernel) rfl
theorem q_1_35 : Cond.instanceMethod yX2_init ∈ gw := gw_1 35 (by decide +kernel) rfl
theorem q_1_36 : Cond.code yX2_init cX2_init 1 none ∈ gw := gw_1 36 (by decide +kernel) rfl
theorem q_1_37 : Cond.methodLink RX2 3 objectInit ∈ gw := gw_1 37 (by decide +kernel) rfl
theorem q_1_38 : Cond.classLink RX2 66 RX3 ∈ gw := gw_1 38 (by decide +kernel) rfl
theorem q_1_39 : Cond.instantiable RX3 4 ∈ gw := gw_1 39 (by decide +kernel) rfl
theorem q_1_41 : Cond.instanceMethod yX3_init ∈ gw := gw_1 41 (by decide +kernel) rfl
theorem q_1_42 : Cond.code yX3_init cX3_init 1 none ∈ gw := gw_1 42 (by decide +kernel) rfl
theorem q_1_43 : Cond.methodLink RX3 3 objectInit ∈ gw := gw_1 43 (by decide +kernel) rfl
theorem q_1_58 : Cond.arrayClass .byte ∈ gw := gw_1 58 (by decide +kernel) rfl
theorem q_1_59 : Cond.arrayClass .long ∈ gw := gw_1 59 (by decide +kernel) rfl
theorem q_1_60 : Cond.arrayClass .int ∈ gw := gw_1 60 (by decide +kernel) rfl
theorem q_2_115 : Cond.fieldLink RX10 78 "SevenTable" "keptSentences" "[LSevenTable$Sentence;" ∈ gw := gw_2 115 (by decide +kernel) rfl
theorem q_2_30 : Cond.methodLink RX9 3 objectInit ∈ gw := gw_2 30 (by decide +kernel) rfl
theorem q_2_50 : Cond.methodLink RX1 3 objectInit ∈ gw := gw_2 50 (by decide +kernel) rfl
theorem q_2_52 : Cond.fieldLink RX1 9 "SevenTable$EveningText" "rows" "[I" ∈ gw := gw_2 52 (by decide +kernel) rfl
theorem q_2_67 : Cond.methodLink RX8 3 objectInit ∈ gw := gw_2 67 (by decide +kernel) rfl
theorem q_2_68 : Cond.classLink RX8 9 RX7 ∈ gw := gw_2 68 (by decide +kernel) rfl
theorem q_2_87 : Cond.methodLink RX5 1 objectInit ∈ gw := gw_2 87 (by decide +kernel) rfl
theorem q_2_88 : Cond.classLink RX5 9 RX2 ∈ gw := gw_2 88 (by decide +kernel) rfl
theorem q_2_90 : Cond.fieldLink RX5 11 "SevenTable$Past" "kept" "[LSevenTable$Game;" ∈ gw := gw_2 90 (by decide +kernel) rfl
theorem q_5_182 : Cond.methodLink RX10 348 yX7_copyFrom ∈ gw := gw_5 182 (by decide +kernel) rfl
theorem q_5_183 : Cond.instanceMethod yX7_copyFrom ∈ gw := gw_5 183 (by decide +kernel) rfl
theorem q_5_184 : Cond.selects RX7 yX7_copyFrom yX7_copyFrom ∈ gw := gw_5 184 (by decide +kernel) rfl
theorem q_5_185 : Cond.code yX7_copyFrom cX7_copyFrom 2 none ∈ gw := gw_5 185 (by decide +kernel) rfl
theorem q_6_105 : Cond.methodLink RX11 27 objectInit ∈ gw := gw_6 105 (by decide +kernel) rfl
theorem q_6_106 : Cond.constant RX11 77 (156250) ∈ gw := gw_6 106 (by decide +kernel) rfl
theorem q_6_107 : Cond.constantLong RX11 115 (461330343027) ∈ gw := gw_6 107 (by decide +kernel) rfl
theorem q_6_108 : Cond.constantLong RX11 117 (123581014175598) ∈ gw := gw_6 108 (by decide +kernel) rfl
theorem q_6_109 : Cond.constantLong RX11 119 (1751215716) ∈ gw := gw_6 109 (by decide +kernel) rfl
theorem q_6_110 : Cond.constantLong RX11 121 (1751474544) ∈ gw := gw_6 110 (by decide +kernel) rfl
theorem q_6_111 : Cond.constantLong RX11 123 (418346264942) ∈ gw := gw_6 111 (by decide +kernel) rfl
theorem q_6_112 : Cond.constantLong RX11 125 (125779835448428) ∈ gw := gw_6 112 (by decide +kernel) rfl
theorem q_6_113 : Cond.constantLong RX11 127 (1634954099) ∈ gw := gw_6 113 (by decide +kernel) rfl
theorem q_6_114 : Cond.constantLong RX11 129 (444150998387) ∈ gw := gw_6 114 (by decide +kernel) rfl
theorem q_6_115 : Cond.constantLong RX11 131 (28271) ∈ gw := gw_6 115 (by decide +kernel) rfl
theorem q_6_116 : Cond.constantLong RX11 133 (28530) ∈ gw := gw_6 116 (by decide +kernel) rfl
theorem q_6_117 : Cond.constantLong RX11 135 (6385252) ∈ gw := gw_6 117 (by decide +kernel) rfl
theorem q_6_133 : Cond.fieldLink RX11 37 "SevenTableModel" "h" "[I" ∈ gw := gw_6 133 (by decide +kernel) rfl
theorem q_6_134 : Cond.fieldLink RX11 40 "SevenTableModel" "read" "[I" ∈ gw := gw_6 134 (by decide +kernel) rfl
theorem q_6_135 : Cond.fieldLink RX11 43 "SevenTableModel" "names" "[J" ∈ gw := gw_6 135 (by decide +kernel) rfl
theorem q_6_136 : Cond.fieldLink RX11 47 "SevenTableModel" "reserved" "[J" ∈ gw := gw_6 136 (by decide +kernel) rfl
theorem q_6_145 : Cond.fieldLink RX11 237 "SevenTableModel" "lines" "I" ∈ gw := gw_6 145 (by decide +kernel) rfl
theorem q_6_146 : Cond.fieldLink RX11 206 "SevenTableModel" "hasKinds" "Z" ∈ gw := gw_6 146 (by decide +kernel) rfl
theorem q_6_147 : Cond.fieldLink RX11 228 "SevenTableModel" "hasAgain" "Z" ∈ gw := gw_6 147 (by decide +kernel) rfl
theorem q_6_148 : Cond.fieldLink RX11 231 "SevenTableModel" "hasRefill" "Z" ∈ gw := gw_6 148 (by decide +kernel) rfl
theorem q_6_149 : Cond.fieldLink RX11 50 "SevenTableModel" "askedAt" "[I" ∈ gw := gw_6 149 (by decide +kernel) rfl
theorem q_6_151 : Cond.fieldLink RX11 53 "SevenTableModel" "undone" "[I" ∈ gw := gw_6 151 (by decide +kernel) rfl
theorem q_6_152 : Cond.fieldLink RX11 56 "SevenTableModel" "before" "[I" ∈ gw := gw_6 152 (by decide +kernel) rfl
theorem q_6_154 : Cond.fieldLink RX11 59 "SevenTableModel" "left" "[I" ∈ gw := gw_6 154 (by decide +kernel) rfl
theorem q_6_155 : Cond.fieldLink RX11 62 "SevenTableModel" "kindAt" "[I" ∈ gw := gw_6 155 (by decide +kernel) rfl
theorem q_6_156 : Cond.fieldLink RX11 65 "SevenTableModel" "step" "[I" ∈ gw := gw_6 156 (by decide +kernel) rfl
theorem q_6_157 : Cond.fieldLink RX11 68 "SevenTableModel" "ways" "[J" ∈ gw := gw_6 157 (by decide +kernel) rfl
theorem q_6_158 : Cond.fieldLink RX11 71 "SevenTableModel" "waysOn" "[J" ∈ gw := gw_6 158 (by decide +kernel) rfl
theorem q_6_162 : Cond.fieldLink RX11 74 "SevenTableModel" "sweepRow" "[I" ∈ gw := gw_6 162 (by decide +kernel) rfl
theorem q_6_164 : Cond.fieldLink RX11 78 "SevenTableModel" "values" "[I" ∈ gw := gw_6 164 (by decide +kernel) rfl
theorem q_6_165 : Cond.fieldLink RX11 81 "SevenTableModel" "path" "[I" ∈ gw := gw_6 165 (by decide +kernel) rfl
theorem q_6_166 : Cond.fieldLink RX11 84 "SevenTableModel" "mine" "[I" ∈ gw := gw_6 166 (by decide +kernel) rfl
theorem q_6_167 : Cond.fieldLink RX11 87 "SevenTableModel" "hers" "[I" ∈ gw := gw_6 167 (by decide +kernel) rfl
theorem q_6_174 : Cond.fieldLink RX11 90 "SevenTableModel" "rules" "[I" ∈ gw := gw_6 174 (by decide +kernel) rfl
theorem q_6_176 : Cond.fieldLink RX11 93 "SevenTableModel" "pack" "[I" ∈ gw := gw_6 176 (by decide +kernel) rfl
theorem q_6_178 : Cond.fieldLink RX11 439 "SevenTableModel" "told" "I" ∈ gw := gw_6 178 (by decide +kernel) rfl
theorem q_6_179 : Cond.fieldLink RX11 96 "SevenTableModel" "heardAt" "[I" ∈ gw := gw_6 179 (by decide +kernel) rfl
theorem q_6_181 : Cond.fieldLink RX11 99 "SevenTableModel" "stack" "[I" ∈ gw := gw_6 181 (by decide +kernel) rfl
theorem q_6_187 : Cond.fieldLink RX11 102 "SevenTableModel" "truths" "[Z" ∈ gw := gw_6 187 (by decide +kernel) rfl
theorem q_6_188 : Cond.fieldLink RX11 106 "SevenTableModel" "kept" "[I" ∈ gw := gw_6 188 (by decide +kernel) rfl
theorem q_6_189 : Cond.fieldLink RX11 109 "SevenTableModel" "namesKept" "[J" ∈ gw := gw_6 189 (by decide +kernel) rfl
theorem q_7_148 : Cond.methodLink RX11 249 yX11_begins ∈ gw := gw_7 148 (by decide +kernel) rfl
theorem q_7_150 : Cond.instanceMethod yX11_begins ∈ gw := gw_7 150 (by decide +kernel) rfl
theorem q_7_151 : Cond.code yX11_begins cX11_begins 4 none ∈ gw := gw_7 151 (by decide +kernel) rfl
theorem q_7_82 : Cond.arrayClass .boolean ∈ gw := gw_7 82 (by decide +kernel) rfl
theorem q_8_172 : Cond.methodLink RX11 423 yX11_tries ∈ gw := gw_8 172 (by decide +kernel) rfl
theorem q_8_174 : Cond.instanceMethod yX11_tries ∈ gw := gw_8 174 (by decide +kernel) rfl
theorem q_8_175 : Cond.code yX11_tries cX11_tries 2 none ∈ gw := gw_8 175 (by decide +kernel) rfl
theorem q_8_176 : Cond.methodLink RX11 429 yX11_back ∈ gw := gw_8 176 (by decide +kernel) rfl
theorem q_8_178 : Cond.instanceMethod yX11_back ∈ gw := gw_8 178 (by decide +kernel) rfl
theorem q_8_179 : Cond.code yX11_back cX11_back 2 none ∈ gw := gw_8 179 (by decide +kernel) rfl
theorem px_fsX2 : ∀ j, j < 18 → defaultValue (tyX2 j) = vp_V [.int 0, .int 0, .int 0, .int 0, .null, .null, .null, .null, .int 0, .int 0, .null, .null, .null, .null, .int 0, .int 0, .int 0, .null] j := by
  intro j hj
  match j, hj with
  | 0, _ => rfl
  | 1, _ => rfl
  | 2, _ => rfl
  | 3, _ => rfl
  | 4, _ => rfl
  | 5, _ => rfl
  | 6, _ => rfl
  | 7, _ => rfl
  | 8, _ => rfl
  | 9, _ => rfl
  | 10, _ => rfl
  | 11, _ => rfl
  | 12, _ => rfl
  | 13, _ => rfl
  | 14, _ => rfl
  | 15, _ => rfl
  | 16, _ => rfl
  | 17, _ => rfl
  | (k + 18), h => exact absurd h (by omega)
theorem px_fsX3 : ∀ j, j < 4 → defaultValue (tyX3 j) = vp_V [.null, .null, .int 0, .null] j := by
  intro j hj
  match j, hj with
  | 0, _ => rfl
  | 1, _ => rfl
  | 2, _ => rfl
  | 3, _ => rfl
  | (k + 4), h => exact absurd h (by omega)
theorem px_fsX7 : ∀ j, j < 2 → defaultValue (tyX7 j) = vp_V [.null, .int 0] j := by
  intro j hj
  match j, hj with
  | 0, _ => rfl
  | 1, _ => rfl
  | (k + 2), h => exact absurd h (by omega)
theorem dX10_image_0 : decode cX10_image 0 = .ok (.iload_n 1, 1) := by decide +kernel
theorem dX10_image_1 : decode cX10_image 1 = .ok (.ifCond .lt 8, 3) := by decide +kernel
theorem dX10_image_4 : decode cX10_image 4 = .ok (.iload_n 1, 1) := by decide +kernel
theorem dX10_image_5 : decode cX10_image 5 = .ok (.iconst 2, 1) := by decide +kernel
theorem dX10_image_6 : decode cX10_image 6 = .ok (.if_icmp .lt 5, 3) := by decide +kernel
theorem dX10_image_9 : decode cX10_image 9 = .ok (.iconst 0, 1) := by decide +kernel
theorem dX10_image_10 : decode cX10_image 10 = .ok (.ireturn, 1) := by decide +kernel
theorem dX10_image_11 : decode cX10_image 11 = .ok (.aload_n 0, 1) := by decide +kernel
theorem dX10_image_12 : decode cX10_image 12 = .ok (.getfield 74, 3) := by decide +kernel
theorem dX10_image_15 : decode cX10_image 15 = .ok (.iload_n 1, 1) := by decide +kernel
theorem dX10_image_16 : decode cX10_image 16 = .ok (.aaload, 1) := by decide +kernel
theorem dX10_image_17 : decode cX10_image 17 = .ok (.ifnull 12, 3) := by decide +kernel
theorem dX10_image_29 : decode cX10_image 29 = .ok (.aload_n 0, 1) := by decide +kernel
theorem dX10_image_30 : decode cX10_image 30 = .ok (.getfield 74, 3) := by decide +kernel
theorem dX10_image_33 : decode cX10_image 33 = .ok (.iload_n 1, 1) := by decide +kernel
theorem dX10_image_34 : decode cX10_image 34 = .ok (.new 20, 3) := by decide +kernel
theorem dX10_image_37 : decode cX10_image 37 = .ok (.dup, 1) := by decide +kernel
theorem dX10_image_38 : decode cX10_image 38 = .ok (.invokespecial 22, 3) := by decide +kernel
theorem dX10_image_41 : decode cX10_image 41 = .ok (.aastore, 1) := by decide +kernel
theorem dX10_image_42 : decode cX10_image 42 = .ok (.aload_n 0, 1) := by decide +kernel
theorem dX10_image_43 : decode cX10_image 43 = .ok (.getfield 78, 3) := by decide +kernel
theorem dX10_image_46 : decode cX10_image 46 = .ok (.iload_n 1, 1) := by decide +kernel
theorem dX10_image_47 : decode cX10_image 47 = .ok (.new 30, 3) := by decide +kernel
theorem dX10_image_50 : decode cX10_image 50 = .ok (.dup, 1) := by decide +kernel
theorem dX10_image_51 : decode cX10_image 51 = .ok (.invokespecial 32, 3) := by decide +kernel
theorem dX10_image_54 : decode cX10_image 54 = .ok (.aastore, 1) := by decide +kernel
theorem dX10_image_55 : decode cX10_image 55 = .ok (.aload_n 0, 1) := by decide +kernel
theorem dX10_image_56 : decode cX10_image 56 = .ok (.getfield 74, 3) := by decide +kernel
theorem dX10_image_59 : decode cX10_image 59 = .ok (.iload_n 1, 1) := by decide +kernel
theorem dX10_image_60 : decode cX10_image 60 = .ok (.aaload, 1) := by decide +kernel
theorem dX10_image_61 : decode cX10_image 61 = .ok (.aload_n 0, 1) := by decide +kernel
theorem dX10_image_62 : decode cX10_image 62 = .ok (.getfield 23, 3) := by decide +kernel
theorem dX10_image_65 : decode cX10_image 65 = .ok (.invokevirtual 127, 3) := by decide +kernel
theorem dX10_image_68 : decode cX10_image 68 = .ok (.aload_n 0, 1) := by decide +kernel
theorem dX10_image_69 : decode cX10_image 69 = .ok (.getfield 78, 3) := by decide +kernel
theorem dX10_image_72 : decode cX10_image 72 = .ok (.iload_n 1, 1) := by decide +kernel
theorem dX10_image_73 : decode cX10_image 73 = .ok (.aaload, 1) := by decide +kernel
theorem dX10_image_74 : decode cX10_image 74 = .ok (.aload_n 0, 1) := by decide +kernel
theorem dX10_image_75 : decode cX10_image 75 = .ok (.getfield 33, 3) := by decide +kernel
theorem dX10_image_78 : decode cX10_image 78 = .ok (.invokevirtual 348, 3) := by decide +kernel
theorem dX10_image_81 : decode cX10_image 81 = .ok (.iconst 1, 1) := by decide +kernel
theorem dX10_image_82 : decode cX10_image 82 = .ok (.ireturn, 1) := by decide +kernel
theorem dX11_back_0 : decode cX11_back 0 = .ok (.iconst 0, 1) := by decide +kernel
theorem dX11_back_1 : decode cX11_back 1 = .ok (.istore_n 1, 1) := by decide +kernel
theorem dX11_back_2 : decode cX11_back 2 = .ok (.iload_n 1, 1) := by decide +kernel
theorem dX11_back_3 : decode cX11_back 3 = .ok (.sipush 580, 3) := by decide +kernel
theorem dX11_back_6 : decode cX11_back 6 = .ok (.if_icmp .ge 23, 3) := by decide +kernel
theorem dX11_back_9 : decode cX11_back 9 = .ok (.aload_n 0, 1) := by decide +kernel
theorem dX11_back_10 : decode cX11_back 10 = .ok (.getfield 33, 3) := by decide +kernel
theorem dX11_back_13 : decode cX11_back 13 = .ok (.iconst 4, 1) := by decide +kernel
theorem dX11_back_14 : decode cX11_back 14 = .ok (.iload_n 1, 1) := by decide +kernel
theorem dX11_back_15 : decode cX11_back 15 = .ok (.iadd, 1) := by decide +kernel
theorem dX11_back_16 : decode cX11_back 16 = .ok (.aload_n 0, 1) := by decide +kernel
theorem dX11_back_17 : decode cX11_back 17 = .ok (.getfield 56, 3) := by decide +kernel
theorem dX11_back_20 : decode cX11_back 20 = .ok (.iload_n 1, 1) := by decide +kernel
theorem dX11_back_21 : decode cX11_back 21 = .ok (.iaload, 1) := by decide +kernel
theorem dX11_back_22 : decode cX11_back 22 = .ok (.iastore, 1) := by decide +kernel
theorem dX11_back_23 : decode cX11_back 23 = .ok (.iinc 1 1, 3) := by decide +kernel
theorem dX11_back_26 : decode cX11_back 26 = .ok (.goto (-24), 3) := by decide +kernel
theorem dX11_back_29 : decode cX11_back 29 = .ok (.return_, 1) := by decide +kernel
theorem dX11_evening_0 : decode cX11_evening 0 = .ok (.aload_n 0, 1) := by decide +kernel
theorem dX11_evening_1 : decode cX11_evening 1 = .ok (.iconst 0, 1) := by decide +kernel
theorem dX11_evening_2 : decode cX11_evening 2 = .ok (.putfield 1, 3) := by decide +kernel
theorem dX11_evening_5 : decode cX11_evening 5 = .ok (.iload_n 1, 1) := by decide +kernel
theorem dX11_evening_6 : decode cX11_evening 6 = .ok (.iconst 0, 1) := by decide +kernel
theorem dX11_evening_7 : decode cX11_evening 7 = .ok (.iconst 1, 1) := by decide +kernel
theorem dX11_evening_8 : decode cX11_evening 8 = .ok (.invokestatic 195, 3) := by decide +kernel
theorem dX11_evening_11 : decode cX11_evening 11 = .ok (.ifCond .ne 7, 3) := by decide +kernel
theorem dX11_evening_14 : decode cX11_evening 14 = .ok (.sipush (-1000), 3) := by decide +kernel
theorem dX11_evening_17 : decode cX11_evening 17 = .ok (.ireturn, 1) := by decide +kernel
theorem dX11_evening_18 : decode cX11_evening 18 = .ok (.aload_n 0, 1) := by decide +kernel
theorem dX11_evening_19 : decode cX11_evening 19 = .ok (.sipush 500, 3) := by decide +kernel
theorem dX11_evening_22 : decode cX11_evening 22 = .ok (.invokevirtual 234, 3) := by decide +kernel
theorem dX11_evening_25 : decode cX11_evening 25 = .ok (.aload_n 0, 1) := by decide +kernel
theorem dX11_evening_26 : decode cX11_evening 26 = .ok (.iconst 0, 1) := by decide +kernel
theorem dX11_evening_27 : decode cX11_evening 27 = .ok (.putfield 180, 3) := by decide +kernel
theorem dX11_evening_30 : decode cX11_evening 30 = .ok (.aload_n 0, 1) := by decide +kernel
theorem dX11_evening_31 : decode cX11_evening 31 = .ok (.iconst 0, 1) := by decide +kernel
theorem dX11_evening_32 : decode cX11_evening 32 = .ok (.putfield 439, 3) := by decide +kernel
theorem dX11_evening_35 : decode cX11_evening 35 = .ok (.aload_n 0, 1) := by decide +kernel
theorem dX11_evening_36 : decode cX11_evening 36 = .ok (.invokevirtual 192, 3) := by decide +kernel
theorem dX11_evening_39 : decode cX11_evening 39 = .ok (.aload_n 0, 1) := by decide +kernel
theorem dX11_evening_40 : decode cX11_evening 40 = .ok (.getfield 163, 3) := by decide +kernel
theorem dX11_evening_43 : decode cX11_evening 43 = .ok (.ifCond .eq 40, 3) := by decide +kernel
theorem dX11_evening_83 : decode cX11_evening 83 = .ok (.aload_n 0, 1) := by decide +kernel
theorem dX11_evening_84 : decode cX11_evening 84 = .ok (.invokevirtual 423, 3) := by decide +kernel
theorem dX11_evening_87 : decode cX11_evening 87 = .ok (.iconst 0, 1) := by decide +kernel
theorem dX11_evening_88 : decode cX11_evening 88 = .ok (.istore_n 2, 1) := by decide +kernel
theorem dX11_evening_89 : decode cX11_evening 89 = .ok (.iload_n 2, 1) := by decide +kernel
theorem dX11_evening_90 : decode cX11_evening 90 = .ok (.iconst 4, 1) := by decide +kernel
theorem dX11_evening_91 : decode cX11_evening 91 = .ok (.if_icmp .ge 16, 3) := by decide +kernel
theorem dX11_evening_94 : decode cX11_evening 94 = .ok (.aload_n 0, 1) := by decide +kernel
theorem dX11_evening_95 : decode cX11_evening 95 = .ok (.getfield 96, 3) := by decide +kernel
theorem dX11_evening_98 : decode cX11_evening 98 = .ok (.iload_n 2, 1) := by decide +kernel
theorem dX11_evening_99 : decode cX11_evening 99 = .ok (.iconst 0, 1) := by decide +kernel
theorem dX11_evening_100 : decode cX11_evening 100 = .ok (.iastore, 1) := by decide +kernel
theorem dX11_evening_101 : decode cX11_evening 101 = .ok (.iinc 2 1, 3) := by decide +kernel
theorem dX11_evening_104 : decode cX11_evening 104 = .ok (.goto (-15), 3) := by decide +kernel
theorem dX11_evening_107 : decode cX11_evening 107 = .ok (.iconst (-1), 1) := by decide +kernel
theorem dX11_evening_108 : decode cX11_evening 108 = .ok (.istore_n 2, 1) := by decide +kernel
theorem dX11_evening_109 : decode cX11_evening 109 = .ok (.iconst 0, 1) := by decide +kernel
theorem dX11_evening_110 : decode cX11_evening 110 = .ok (.istore_n 3, 1) := by decide +kernel
theorem dX11_evening_111 : decode cX11_evening 111 = .ok (.iload_n 3, 1) := by decide +kernel
theorem dX11_evening_112 : decode cX11_evening 112 = .ok (.aload_n 0, 1) := by decide +kernel
theorem dX11_evening_113 : decode cX11_evening 113 = .ok (.getfield 439, 3) := by decide +kernel
theorem dX11_evening_116 : decode cX11_evening 116 = .ok (.if_icmp .ge 174, 3) := by decide +kernel
theorem dX11_evening_290 : decode cX11_evening 290 = .ok (.aload_n 0, 1) := by decide +kernel
theorem dX11_evening_291 : decode cX11_evening 291 = .ok (.getfield 96, 3) := by decide +kernel
theorem dX11_evening_294 : decode cX11_evening 294 = .ok (.iconst 2, 1) := by decide +kernel
theorem dX11_evening_295 : decode cX11_evening 295 = .ok (.aload_n 0, 1) := by decide +kernel
theorem dX11_evening_296 : decode cX11_evening 296 = .ok (.invokevirtual 295, 3) := by decide +kernel
theorem dX11_evening_299 : decode cX11_evening 299 = .ok (.iastore, 1) := by decide +kernel
theorem dX11_evening_300 : decode cX11_evening 300 = .ok (.aload_n 0, 1) := by decide +kernel
theorem dX11_evening_301 : decode cX11_evening 301 = .ok (.getfield 96, 3) := by decide +kernel
theorem dX11_evening_304 : decode cX11_evening 304 = .ok (.iconst 3, 1) := by decide +kernel
theorem dX11_evening_305 : decode cX11_evening 305 = .ok (.aload_n 0, 1) := by decide +kernel
theorem dX11_evening_306 : decode cX11_evening 306 = .ok (.getfield 33, 3) := by decide +kernel
theorem dX11_evening_309 : decode cX11_evening 309 = .ok (.iconst 4, 1) := by decide +kernel
theorem dX11_evening_310 : decode cX11_evening 310 = .ok (.iaload, 1) := by decide +kernel
theorem dX11_evening_311 : decode cX11_evening 311 = .ok (.iastore, 1) := by decide +kernel
theorem dX11_evening_312 : decode cX11_evening 312 = .ok (.aload_n 0, 1) := by decide +kernel
theorem dX11_evening_313 : decode cX11_evening 313 = .ok (.iconst 1, 1) := by decide +kernel
theorem dX11_evening_314 : decode cX11_evening 314 = .ok (.putfield 445, 3) := by decide +kernel
theorem dX11_evening_317 : decode cX11_evening 317 = .ok (.iload_n 1, 1) := by decide +kernel
theorem dX11_evening_318 : decode cX11_evening 318 = .ok (.ifCond .ne 7, 3) := by decide +kernel
theorem dX11_evening_321 : decode cX11_evening 321 = .ok (.aload_n 0, 1) := by decide +kernel
theorem dX11_evening_322 : decode cX11_evening 322 = .ok (.invokevirtual 429, 3) := by decide +kernel
theorem dX11_evening_325 : decode cX11_evening 325 = .ok (.iload_n 2, 1) := by decide +kernel
theorem dX11_evening_326 : decode cX11_evening 326 = .ok (.ireturn, 1) := by decide +kernel
theorem dX11_image_0 : decode cX11_image 0 = .ok (.aload_n 0, 1) := by decide +kernel
theorem dX11_image_1 : decode cX11_image 1 = .ok (.iconst 0, 1) := by decide +kernel
theorem dX11_image_2 : decode cX11_image 2 = .ok (.putfield 1, 3) := by decide +kernel
theorem dX11_image_5 : decode cX11_image 5 = .ok (.iload_n 1, 1) := by decide +kernel
theorem dX11_image_6 : decode cX11_image 6 = .ok (.iconst 0, 1) := by decide +kernel
theorem dX11_image_7 : decode cX11_image 7 = .ok (.iconst 1, 1) := by decide +kernel
theorem dX11_image_8 : decode cX11_image 8 = .ok (.invokestatic 195, 3) := by decide +kernel
theorem dX11_image_11 : decode cX11_image 11 = .ok (.ifCond .ne 5, 3) := by decide +kernel
theorem dX11_image_14 : decode cX11_image 14 = .ok (.iconst 0, 1) := by decide +kernel
theorem dX11_image_15 : decode cX11_image 15 = .ok (.ireturn, 1) := by decide +kernel
theorem dX11_image_16 : decode cX11_image 16 = .ok (.iconst 0, 1) := by decide +kernel
theorem dX11_image_17 : decode cX11_image 17 = .ok (.istore_n 2, 1) := by decide +kernel
theorem dX11_image_18 : decode cX11_image 18 = .ok (.iload_n 2, 1) := by decide +kernel
theorem dX11_image_19 : decode cX11_image 19 = .ok (.sipush 765, 3) := by decide +kernel
theorem dX11_image_22 : decode cX11_image 22 = .ok (.if_icmp .ge 27, 3) := by decide +kernel
theorem dX11_image_25 : decode cX11_image 25 = .ok (.aload_n 0, 1) := by decide +kernel
theorem dX11_image_26 : decode cX11_image 26 = .ok (.getfield 106, 3) := by decide +kernel
theorem dX11_image_29 : decode cX11_image 29 = .ok (.sipush 765, 3) := by decide +kernel
theorem dX11_image_32 : decode cX11_image 32 = .ok (.iload_n 1, 1) := by decide +kernel
theorem dX11_image_33 : decode cX11_image 33 = .ok (.imul, 1) := by decide +kernel
theorem dX11_image_34 : decode cX11_image 34 = .ok (.iload_n 2, 1) := by decide +kernel
theorem dX11_image_35 : decode cX11_image 35 = .ok (.iadd, 1) := by decide +kernel
theorem dX11_image_36 : decode cX11_image 36 = .ok (.aload_n 0, 1) := by decide +kernel
theorem dX11_image_37 : decode cX11_image 37 = .ok (.getfield 33, 3) := by decide +kernel
theorem dX11_image_40 : decode cX11_image 40 = .ok (.iload_n 2, 1) := by decide +kernel
theorem dX11_image_41 : decode cX11_image 41 = .ok (.iaload, 1) := by decide +kernel
theorem dX11_image_42 : decode cX11_image 42 = .ok (.iastore, 1) := by decide +kernel
theorem dX11_image_43 : decode cX11_image 43 = .ok (.iinc 2 1, 3) := by decide +kernel
theorem dX11_image_46 : decode cX11_image 46 = .ok (.goto (-28), 3) := by decide +kernel
theorem dX11_image_49 : decode cX11_image 49 = .ok (.iconst 0, 1) := by decide +kernel
theorem dX11_image_50 : decode cX11_image 50 = .ok (.istore_n 2, 1) := by decide +kernel
theorem dX11_image_51 : decode cX11_image 51 = .ok (.iload_n 2, 1) := by decide +kernel
theorem dX11_image_52 : decode cX11_image 52 = .ok (.bipush 6, 2) := by decide +kernel
theorem dX11_image_54 : decode cX11_image 54 = .ok (.if_icmp .ge 26, 3) := by decide +kernel
theorem dX11_image_57 : decode cX11_image 57 = .ok (.aload_n 0, 1) := by decide +kernel
theorem dX11_image_58 : decode cX11_image 58 = .ok (.getfield 109, 3) := by decide +kernel
theorem dX11_image_61 : decode cX11_image 61 = .ok (.bipush 6, 2) := by decide +kernel
theorem dX11_image_63 : decode cX11_image 63 = .ok (.iload_n 1, 1) := by decide +kernel
theorem dX11_image_64 : decode cX11_image 64 = .ok (.imul, 1) := by decide +kernel
theorem dX11_image_65 : decode cX11_image 65 = .ok (.iload_n 2, 1) := by decide +kernel
theorem dX11_image_66 : decode cX11_image 66 = .ok (.iadd, 1) := by decide +kernel
theorem dX11_image_67 : decode cX11_image 67 = .ok (.aload_n 0, 1) := by decide +kernel
theorem dX11_image_68 : decode cX11_image 68 = .ok (.getfield 43, 3) := by decide +kernel
theorem dX11_image_71 : decode cX11_image 71 = .ok (.iload_n 2, 1) := by decide +kernel
theorem dX11_image_72 : decode cX11_image 72 = .ok (.laload, 1) := by decide +kernel
theorem dX11_image_73 : decode cX11_image 73 = .ok (.lastore, 1) := by decide +kernel
theorem dX11_image_74 : decode cX11_image 74 = .ok (.iinc 2 1, 3) := by decide +kernel
theorem dX11_image_77 : decode cX11_image 77 = .ok (.goto (-26), 3) := by decide +kernel
theorem dX11_image_80 : decode cX11_image 80 = .ok (.aload_n 0, 1) := by decide +kernel
theorem dX11_image_81 : decode cX11_image 81 = .ok (.getfield 112, 3) := by decide +kernel
theorem dX11_image_84 : decode cX11_image 84 = .ok (.iload_n 1, 1) := by decide +kernel
theorem dX11_image_85 : decode cX11_image 85 = .ok (.iconst 1, 1) := by decide +kernel
theorem dX11_image_86 : decode cX11_image 86 = .ok (.bastore, 1) := by decide +kernel
theorem dX11_image_87 : decode cX11_image 87 = .ok (.iconst 1, 1) := by decide +kernel
theorem dX11_image_88 : decode cX11_image 88 = .ok (.ireturn, 1) := by decide +kernel
theorem dX11_init_0 : decode cX11_init 0 = .ok (.aload_n 0, 1) := by decide +kernel
theorem dX11_init_1 : decode cX11_init 1 = .ok (.invokespecial 27, 3) := by decide +kernel
theorem dX11_init_4 : decode cX11_init 4 = .ok (.aload_n 0, 1) := by decide +kernel
theorem dX11_init_5 : decode cX11_init 5 = .ok (.sipush 940, 3) := by decide +kernel
theorem dX11_init_8 : decode cX11_init 8 = .ok (.newarray .byte, 2) := by decide +kernel
theorem dX11_init_10 : decode cX11_init 10 = .ok (.putfield 14, 3) := by decide +kernel
theorem dX11_init_13 : decode cX11_init 13 = .ok (.aload_n 0, 1) := by decide +kernel
theorem dX11_init_14 : decode cX11_init 14 = .ok (.sipush 765, 3) := by decide +kernel
theorem dX11_init_17 : decode cX11_init 17 = .ok (.newarray .int, 2) := by decide +kernel
theorem dX11_init_19 : decode cX11_init 19 = .ok (.putfield 33, 3) := by decide +kernel
theorem dX11_init_22 : decode cX11_init 22 = .ok (.aload_n 0, 1) := by decide +kernel
theorem dX11_init_23 : decode cX11_init 23 = .ok (.sipush 584, 3) := by decide +kernel
theorem dX11_init_26 : decode cX11_init 26 = .ok (.newarray .int, 2) := by decide +kernel
theorem dX11_init_28 : decode cX11_init 28 = .ok (.putfield 37, 3) := by decide +kernel
theorem dX11_init_31 : decode cX11_init 31 = .ok (.aload_n 0, 1) := by decide +kernel
theorem dX11_init_32 : decode cX11_init 32 = .ok (.sipush 135, 3) := by decide +kernel
theorem dX11_init_35 : decode cX11_init 35 = .ok (.newarray .int, 2) := by decide +kernel
theorem dX11_init_37 : decode cX11_init 37 = .ok (.putfield 40, 3) := by decide +kernel
theorem dX11_init_40 : decode cX11_init 40 = .ok (.aload_n 0, 1) := by decide +kernel
theorem dX11_init_41 : decode cX11_init 41 = .ok (.bipush 12, 2) := by decide +kernel
theorem dX11_init_43 : decode cX11_init 43 = .ok (.newarray .long, 2) := by decide +kernel
theorem dX11_init_45 : decode cX11_init 45 = .ok (.putfield 43, 3) := by decide +kernel
theorem dX11_init_48 : decode cX11_init 48 = .ok (.aload_n 0, 1) := by decide +kernel
theorem dX11_init_49 : decode cX11_init 49 = .ok (.bipush 19, 2) := by decide +kernel
theorem dX11_init_51 : decode cX11_init 51 = .ok (.newarray .long, 2) := by decide +kernel
theorem dX11_init_53 : decode cX11_init 53 = .ok (.putfield 47, 3) := by decide +kernel
theorem dX11_init_56 : decode cX11_init 56 = .ok (.aload_n 0, 1) := by decide +kernel
theorem dX11_init_57 : decode cX11_init 57 = .ok (.bipush 8, 2) := by decide +kernel
theorem dX11_init_59 : decode cX11_init 59 = .ok (.newarray .int, 2) := by decide +kernel
theorem dX11_init_61 : decode cX11_init 61 = .ok (.putfield 50, 3) := by decide +kernel
theorem dX11_init_64 : decode cX11_init 64 = .ok (.aload_n 0, 1) := by decide +kernel
theorem dX11_init_65 : decode cX11_init 65 = .ok (.sipush 4640, 3) := by decide +kernel
theorem dX11_init_68 : decode cX11_init 68 = .ok (.newarray .int, 2) := by decide +kernel
theorem dX11_init_70 : decode cX11_init 70 = .ok (.putfield 53, 3) := by decide +kernel
theorem dX11_init_73 : decode cX11_init 73 = .ok (.aload_n 0, 1) := by decide +kernel
theorem dX11_init_74 : decode cX11_init 74 = .ok (.sipush 580, 3) := by decide +kernel
theorem dX11_init_77 : decode cX11_init 77 = .ok (.newarray .int, 2) := by decide +kernel
theorem dX11_init_79 : decode cX11_init 79 = .ok (.putfield 56, 3) := by decide +kernel
theorem dX11_init_82 : decode cX11_init 82 = .ok (.aload_n 0, 1) := by decide +kernel
theorem dX11_init_83 : decode cX11_init 83 = .ok (.bipush 13, 2) := by decide +kernel
theorem dX11_init_85 : decode cX11_init 85 = .ok (.newarray .int, 2) := by decide +kernel
theorem dX11_init_87 : decode cX11_init 87 = .ok (.putfield 59, 3) := by decide +kernel
theorem dX11_init_90 : decode cX11_init 90 = .ok (.aload_n 0, 1) := by decide +kernel
theorem dX11_init_91 : decode cX11_init 91 = .ok (.bipush 6, 2) := by decide +kernel
theorem dX11_init_93 : decode cX11_init 93 = .ok (.newarray .int, 2) := by decide +kernel
theorem dX11_init_95 : decode cX11_init 95 = .ok (.putfield 62, 3) := by decide +kernel
theorem dX11_init_98 : decode cX11_init 98 = .ok (.aload_n 0, 1) := by decide +kernel
theorem dX11_init_99 : decode cX11_init 99 = .ok (.bipush 6, 2) := by decide +kernel
theorem dX11_init_101 : decode cX11_init 101 = .ok (.newarray .int, 2) := by decide +kernel
theorem dX11_init_103 : decode cX11_init 103 = .ok (.putfield 65, 3) := by decide +kernel
theorem dX11_init_106 : decode cX11_init 106 = .ok (.aload_n 0, 1) := by decide +kernel
theorem dX11_init_107 : decode cX11_init 107 = .ok (.sipush 15625, 3) := by decide +kernel
theorem dX11_init_110 : decode cX11_init 110 = .ok (.newarray .long, 2) := by decide +kernel
theorem dX11_init_112 : decode cX11_init 112 = .ok (.putfield 68, 3) := by decide +kernel
theorem dX11_init_115 : decode cX11_init 115 = .ok (.aload_n 0, 1) := by decide +kernel
theorem dX11_init_116 : decode cX11_init 116 = .ok (.sipush 15625, 3) := by decide +kernel
theorem dX11_init_119 : decode cX11_init 119 = .ok (.newarray .long, 2) := by decide +kernel
theorem dX11_init_121 : decode cX11_init 121 = .ok (.putfield 71, 3) := by decide +kernel
theorem dX11_init_124 : decode cX11_init 124 = .ok (.aload_n 0, 1) := by decide +kernel
theorem dX11_init_125 : decode cX11_init 125 = .ok (.bipush 65, 2) := by decide +kernel
theorem dX11_init_127 : decode cX11_init 127 = .ok (.newarray .int, 2) := by decide +kernel
theorem dX11_init_129 : decode cX11_init 129 = .ok (.putfield 74, 3) := by decide +kernel
theorem dX11_init_132 : decode cX11_init 132 = .ok (.aload_n 0, 1) := by decide +kernel
theorem dX11_init_133 : decode cX11_init 133 = .ok (.ldc 77, 2) := by decide +kernel
theorem dX11_init_135 : decode cX11_init 135 = .ok (.newarray .int, 2) := by decide +kernel
theorem dX11_init_137 : decode cX11_init 137 = .ok (.putfield 78, 3) := by decide +kernel
theorem dX11_init_140 : decode cX11_init 140 = .ok (.aload_n 0, 1) := by decide +kernel
theorem dX11_init_141 : decode cX11_init 141 = .ok (.sipush 400, 3) := by decide +kernel
theorem dX11_init_144 : decode cX11_init 144 = .ok (.newarray .int, 2) := by decide +kernel
theorem dX11_init_146 : decode cX11_init 146 = .ok (.putfield 81, 3) := by decide +kernel
theorem dX11_init_149 : decode cX11_init 149 = .ok (.aload_n 0, 1) := by decide +kernel
theorem dX11_init_150 : decode cX11_init 150 = .ok (.iconst 3, 1) := by decide +kernel
theorem dX11_init_151 : decode cX11_init 151 = .ok (.newarray .int, 2) := by decide +kernel
theorem dX11_init_153 : decode cX11_init 153 = .ok (.putfield 84, 3) := by decide +kernel
theorem dX11_init_156 : decode cX11_init 156 = .ok (.aload_n 0, 1) := by decide +kernel
theorem dX11_init_157 : decode cX11_init 157 = .ok (.iconst 3, 1) := by decide +kernel
theorem dX11_init_158 : decode cX11_init 158 = .ok (.newarray .int, 2) := by decide +kernel
theorem dX11_init_160 : decode cX11_init 160 = .ok (.putfield 87, 3) := by decide +kernel
theorem dX11_init_163 : decode cX11_init 163 = .ok (.aload_n 0, 1) := by decide +kernel
theorem dX11_init_164 : decode cX11_init 164 = .ok (.bipush 6, 2) := by decide +kernel
theorem dX11_init_166 : decode cX11_init 166 = .ok (.newarray .int, 2) := by decide +kernel
theorem dX11_init_168 : decode cX11_init 168 = .ok (.putfield 90, 3) := by decide +kernel
theorem dX11_init_171 : decode cX11_init 171 = .ok (.aload_n 0, 1) := by decide +kernel
theorem dX11_init_172 : decode cX11_init 172 = .ok (.bipush 52, 2) := by decide +kernel
theorem dX11_init_174 : decode cX11_init 174 = .ok (.newarray .int, 2) := by decide +kernel
theorem dX11_init_176 : decode cX11_init 176 = .ok (.putfield 93, 3) := by decide +kernel
theorem dX11_init_179 : decode cX11_init 179 = .ok (.aload_n 0, 1) := by decide +kernel
theorem dX11_init_180 : decode cX11_init 180 = .ok (.iconst 4, 1) := by decide +kernel
theorem dX11_init_181 : decode cX11_init 181 = .ok (.newarray .int, 2) := by decide +kernel
theorem dX11_init_183 : decode cX11_init 183 = .ok (.putfield 96, 3) := by decide +kernel
theorem dX11_init_186 : decode cX11_init 186 = .ok (.aload_n 0, 1) := by decide +kernel
theorem dX11_init_187 : decode cX11_init 187 = .ok (.bipush 45, 2) := by decide +kernel
theorem dX11_init_189 : decode cX11_init 189 = .ok (.newarray .int, 2) := by decide +kernel
theorem dX11_init_191 : decode cX11_init 191 = .ok (.putfield 99, 3) := by decide +kernel
theorem dX11_init_194 : decode cX11_init 194 = .ok (.aload_n 0, 1) := by decide +kernel
theorem dX11_init_195 : decode cX11_init 195 = .ok (.bipush 45, 2) := by decide +kernel
theorem dX11_init_197 : decode cX11_init 197 = .ok (.newarray .boolean, 2) := by decide +kernel
theorem dX11_init_199 : decode cX11_init 199 = .ok (.putfield 102, 3) := by decide +kernel
theorem dX11_init_202 : decode cX11_init 202 = .ok (.aload_n 0, 1) := by decide +kernel
theorem dX11_init_203 : decode cX11_init 203 = .ok (.sipush 1530, 3) := by decide +kernel
theorem dX11_init_206 : decode cX11_init 206 = .ok (.newarray .int, 2) := by decide +kernel
theorem dX11_init_208 : decode cX11_init 208 = .ok (.putfield 106, 3) := by decide +kernel
theorem dX11_init_211 : decode cX11_init 211 = .ok (.aload_n 0, 1) := by decide +kernel
theorem dX11_init_212 : decode cX11_init 212 = .ok (.bipush 12, 2) := by decide +kernel
theorem dX11_init_214 : decode cX11_init 214 = .ok (.newarray .long, 2) := by decide +kernel
theorem dX11_init_216 : decode cX11_init 216 = .ok (.putfield 109, 3) := by decide +kernel
theorem dX11_init_219 : decode cX11_init 219 = .ok (.aload_n 0, 1) := by decide +kernel
theorem dX11_init_220 : decode cX11_init 220 = .ok (.iconst 2, 1) := by decide +kernel
theorem dX11_init_221 : decode cX11_init 221 = .ok (.newarray .boolean, 2) := by decide +kernel
theorem dX11_init_223 : decode cX11_init 223 = .ok (.putfield 112, 3) := by decide +kernel
theorem dX11_init_226 : decode cX11_init 226 = .ok (.aload_n 0, 1) := by decide +kernel
theorem dX11_init_227 : decode cX11_init 227 = .ok (.getfield 47, 3) := by decide +kernel
theorem dX11_init_230 : decode cX11_init 230 = .ok (.iconst 0, 1) := by decide +kernel
theorem dX11_init_231 : decode cX11_init 231 = .ok (.ldc2_w 115, 3) := by decide +kernel
theorem dX11_init_234 : decode cX11_init 234 = .ok (.lastore, 1) := by decide +kernel
theorem dX11_init_235 : decode cX11_init 235 = .ok (.aload_n 0, 1) := by decide +kernel
theorem dX11_init_236 : decode cX11_init 236 = .ok (.getfield 47, 3) := by decide +kernel
theorem dX11_init_239 : decode cX11_init 239 = .ok (.iconst 1, 1) := by decide +kernel
theorem dX11_init_240 : decode cX11_init 240 = .ok (.ldc2_w 117, 3) := by decide +kernel
theorem dX11_init_243 : decode cX11_init 243 = .ok (.lastore, 1) := by decide +kernel
theorem dX11_init_244 : decode cX11_init 244 = .ok (.aload_n 0, 1) := by decide +kernel
theorem dX11_init_245 : decode cX11_init 245 = .ok (.getfield 47, 3) := by decide +kernel
theorem dX11_init_248 : decode cX11_init 248 = .ok (.iconst 2, 1) := by decide +kernel
theorem dX11_init_249 : decode cX11_init 249 = .ok (.ldc2_w 119, 3) := by decide +kernel
theorem dX11_init_252 : decode cX11_init 252 = .ok (.lastore, 1) := by decide +kernel
theorem dX11_init_253 : decode cX11_init 253 = .ok (.aload_n 0, 1) := by decide +kernel
theorem dX11_init_254 : decode cX11_init 254 = .ok (.getfield 47, 3) := by decide +kernel
theorem dX11_init_257 : decode cX11_init 257 = .ok (.iconst 3, 1) := by decide +kernel
theorem dX11_init_258 : decode cX11_init 258 = .ok (.ldc2_w 121, 3) := by decide +kernel
theorem dX11_init_261 : decode cX11_init 261 = .ok (.lastore, 1) := by decide +kernel
theorem dX11_init_262 : decode cX11_init 262 = .ok (.aload_n 0, 1) := by decide +kernel
theorem dX11_init_263 : decode cX11_init 263 = .ok (.getfield 47, 3) := by decide +kernel
theorem dX11_init_266 : decode cX11_init 266 = .ok (.iconst 4, 1) := by decide +kernel
theorem dX11_init_267 : decode cX11_init 267 = .ok (.ldc2_w 123, 3) := by decide +kernel
theorem dX11_init_270 : decode cX11_init 270 = .ok (.lastore, 1) := by decide +kernel
theorem dX11_init_271 : decode cX11_init 271 = .ok (.aload_n 0, 1) := by decide +kernel
theorem dX11_init_272 : decode cX11_init 272 = .ok (.getfield 47, 3) := by decide +kernel
theorem dX11_init_275 : decode cX11_init 275 = .ok (.iconst 5, 1) := by decide +kernel
theorem dX11_init_276 : decode cX11_init 276 = .ok (.ldc2_w 125, 3) := by decide +kernel
theorem dX11_init_279 : decode cX11_init 279 = .ok (.lastore, 1) := by decide +kernel
theorem dX11_init_280 : decode cX11_init 280 = .ok (.aload_n 0, 1) := by decide +kernel
theorem dX11_init_281 : decode cX11_init 281 = .ok (.getfield 47, 3) := by decide +kernel
theorem dX11_init_284 : decode cX11_init 284 = .ok (.bipush 6, 2) := by decide +kernel
theorem dX11_init_286 : decode cX11_init 286 = .ok (.ldc2_w 127, 3) := by decide +kernel
theorem dX11_init_289 : decode cX11_init 289 = .ok (.lastore, 1) := by decide +kernel
theorem dX11_init_290 : decode cX11_init 290 = .ok (.aload_n 0, 1) := by decide +kernel
theorem dX11_init_291 : decode cX11_init 291 = .ok (.getfield 47, 3) := by decide +kernel
theorem dX11_init_294 : decode cX11_init 294 = .ok (.bipush 7, 2) := by decide +kernel
theorem dX11_init_296 : decode cX11_init 296 = .ok (.ldc2_w 129, 3) := by decide +kernel
theorem dX11_init_299 : decode cX11_init 299 = .ok (.lastore, 1) := by decide +kernel
theorem dX11_init_300 : decode cX11_init 300 = .ok (.aload_n 0, 1) := by decide +kernel
theorem dX11_init_301 : decode cX11_init 301 = .ok (.getfield 47, 3) := by decide +kernel
theorem dX11_init_304 : decode cX11_init 304 = .ok (.bipush 8, 2) := by decide +kernel
theorem dX11_init_306 : decode cX11_init 306 = .ok (.ldc2_w 131, 3) := by decide +kernel
theorem dX11_init_309 : decode cX11_init 309 = .ok (.lastore, 1) := by decide +kernel
theorem dX11_init_310 : decode cX11_init 310 = .ok (.aload_n 0, 1) := by decide +kernel
theorem dX11_init_311 : decode cX11_init 311 = .ok (.getfield 47, 3) := by decide +kernel
theorem dX11_init_314 : decode cX11_init 314 = .ok (.bipush 9, 2) := by decide +kernel
theorem dX11_init_316 : decode cX11_init 316 = .ok (.ldc2_w 133, 3) := by decide +kernel
theorem dX11_init_319 : decode cX11_init 319 = .ok (.lastore, 1) := by decide +kernel
theorem dX11_init_320 : decode cX11_init 320 = .ok (.aload_n 0, 1) := by decide +kernel
theorem dX11_init_321 : decode cX11_init 321 = .ok (.getfield 47, 3) := by decide +kernel
theorem dX11_init_324 : decode cX11_init 324 = .ok (.bipush 10, 2) := by decide +kernel
theorem dX11_init_326 : decode cX11_init 326 = .ok (.ldc2_w 135, 3) := by decide +kernel
theorem dX11_init_329 : decode cX11_init 329 = .ok (.lastore, 1) := by decide +kernel
theorem dX11_init_330 : decode cX11_init 330 = .ok (.aload_n 0, 1) := by decide +kernel
theorem dX11_init_331 : decode cX11_init 331 = .ok (.getfield 47, 3) := by decide +kernel
theorem dX11_init_334 : decode cX11_init 334 = .ok (.bipush 11, 2) := by decide +kernel
theorem dX11_init_336 : decode cX11_init 336 = .ok (.ldc2_w 137, 3) := by decide +kernel
theorem dX11_init_339 : decode cX11_init 339 = .ok (.lastore, 1) := by decide +kernel
theorem dX11_init_340 : decode cX11_init 340 = .ok (.aload_n 0, 1) := by decide +kernel
theorem dX11_init_341 : decode cX11_init 341 = .ok (.getfield 47, 3) := by decide +kernel
theorem dX11_init_344 : decode cX11_init 344 = .ok (.bipush 12, 2) := by decide +kernel
theorem dX11_init_346 : decode cX11_init 346 = .ok (.ldc2_w 139, 3) := by decide +kernel
theorem dX11_init_349 : decode cX11_init 349 = .ok (.lastore, 1) := by decide +kernel
theorem dX11_init_350 : decode cX11_init 350 = .ok (.aload_n 0, 1) := by decide +kernel
theorem dX11_init_351 : decode cX11_init 351 = .ok (.getfield 47, 3) := by decide +kernel
theorem dX11_init_354 : decode cX11_init 354 = .ok (.bipush 13, 2) := by decide +kernel
theorem dX11_init_356 : decode cX11_init 356 = .ok (.ldc2_w 141, 3) := by decide +kernel
theorem dX11_init_359 : decode cX11_init 359 = .ok (.lastore, 1) := by decide +kernel
theorem dX11_init_360 : decode cX11_init 360 = .ok (.aload_n 0, 1) := by decide +kernel
theorem dX11_init_361 : decode cX11_init 361 = .ok (.getfield 47, 3) := by decide +kernel
theorem dX11_init_364 : decode cX11_init 364 = .ok (.bipush 14, 2) := by decide +kernel
theorem dX11_init_366 : decode cX11_init 366 = .ok (.ldc2_w 143, 3) := by decide +kernel
theorem dX11_init_369 : decode cX11_init 369 = .ok (.lastore, 1) := by decide +kernel
theorem dX11_init_370 : decode cX11_init 370 = .ok (.aload_n 0, 1) := by decide +kernel
theorem dX11_init_371 : decode cX11_init 371 = .ok (.getfield 47, 3) := by decide +kernel
theorem dX11_init_374 : decode cX11_init 374 = .ok (.bipush 15, 2) := by decide +kernel
theorem dX11_init_376 : decode cX11_init 376 = .ok (.ldc2_w 145, 3) := by decide +kernel
theorem dX11_init_379 : decode cX11_init 379 = .ok (.lastore, 1) := by decide +kernel
theorem dX11_init_380 : decode cX11_init 380 = .ok (.aload_n 0, 1) := by decide +kernel
theorem dX11_init_381 : decode cX11_init 381 = .ok (.getfield 47, 3) := by decide +kernel
theorem dX11_init_384 : decode cX11_init 384 = .ok (.bipush 16, 2) := by decide +kernel
theorem dX11_init_386 : decode cX11_init 386 = .ok (.ldc2_w 147, 3) := by decide +kernel
theorem dX11_init_389 : decode cX11_init 389 = .ok (.lastore, 1) := by decide +kernel
theorem dX11_init_390 : decode cX11_init 390 = .ok (.aload_n 0, 1) := by decide +kernel
theorem dX11_init_391 : decode cX11_init 391 = .ok (.getfield 47, 3) := by decide +kernel
theorem dX11_init_394 : decode cX11_init 394 = .ok (.bipush 17, 2) := by decide +kernel
theorem dX11_init_396 : decode cX11_init 396 = .ok (.ldc2_w 149, 3) := by decide +kernel
theorem dX11_init_399 : decode cX11_init 399 = .ok (.lastore, 1) := by decide +kernel
theorem dX11_init_400 : decode cX11_init 400 = .ok (.aload_n 0, 1) := by decide +kernel
theorem dX11_init_401 : decode cX11_init 401 = .ok (.getfield 47, 3) := by decide +kernel
theorem dX11_init_404 : decode cX11_init 404 = .ok (.bipush 18, 2) := by decide +kernel
theorem dX11_init_406 : decode cX11_init 406 = .ok (.ldc2_w 151, 3) := by decide +kernel
theorem dX11_init_409 : decode cX11_init 409 = .ok (.lastore, 1) := by decide +kernel
theorem dX11_init_410 : decode cX11_init 410 = .ok (.aload_n 0, 1) := by decide +kernel
theorem dX11_init_411 : decode cX11_init 411 = .ok (.getfield 33, 3) := by decide +kernel
theorem dX11_init_414 : decode cX11_init 414 = .ok (.iconst 4, 1) := by decide +kernel
theorem dX11_init_415 : decode cX11_init 415 = .ok (.iconst (-1), 1) := by decide +kernel
theorem dX11_init_416 : decode cX11_init 416 = .ok (.iastore, 1) := by decide +kernel
theorem dX11_init_417 : decode cX11_init 417 = .ok (.return_, 1) := by decide +kernel
theorem dX11_table_0 : decode cX11_table 0 = .ok (.aload_n 0, 1) := by decide +kernel
theorem dX11_table_1 : decode cX11_table 1 = .ok (.iconst 0, 1) := by decide +kernel
theorem dX11_table_2 : decode cX11_table 2 = .ok (.putfield 1, 3) := by decide +kernel
theorem dX11_table_5 : decode cX11_table 5 = .ok (.aload_n 0, 1) := by decide +kernel
theorem dX11_table_6 : decode cX11_table 6 = .ok (.sipush 900, 3) := by decide +kernel
theorem dX11_table_9 : decode cX11_table 9 = .ok (.invokevirtual 234, 3) := by decide +kernel
theorem dX11_table_12 : decode cX11_table 12 = .ok (.aload_n 0, 1) := by decide +kernel
theorem dX11_table_13 : decode cX11_table 13 = .ok (.iconst 0, 1) := by decide +kernel
theorem dX11_table_14 : decode cX11_table 14 = .ok (.putfield 180, 3) := by decide +kernel
theorem dX11_table_17 : decode cX11_table 17 = .ok (.aload_n 0, 1) := by decide +kernel
theorem dX11_table_18 : decode cX11_table 18 = .ok (.iconst 0, 1) := by decide +kernel
theorem dX11_table_19 : decode cX11_table 19 = .ok (.putfield 237, 3) := by decide +kernel
theorem dX11_table_22 : decode cX11_table 22 = .ok (.aload_n 0, 1) := by decide +kernel
theorem dX11_table_23 : decode cX11_table 23 = .ok (.iconst 0, 1) := by decide +kernel
theorem dX11_table_24 : decode cX11_table 24 = .ok (.putfield 206, 3) := by decide +kernel
theorem dX11_table_27 : decode cX11_table 27 = .ok (.aload_n 0, 1) := by decide +kernel
theorem dX11_table_28 : decode cX11_table 28 = .ok (.iconst 0, 1) := by decide +kernel
theorem dX11_table_29 : decode cX11_table 29 = .ok (.putfield 228, 3) := by decide +kernel
theorem dX11_table_32 : decode cX11_table 32 = .ok (.aload_n 0, 1) := by decide +kernel
theorem dX11_table_33 : decode cX11_table 33 = .ok (.iconst 0, 1) := by decide +kernel
theorem dX11_table_34 : decode cX11_table 34 = .ok (.putfield 231, 3) := by decide +kernel
theorem dX11_table_37 : decode cX11_table 37 = .ok (.iconst 0, 1) := by decide +kernel
theorem dX11_table_38 : decode cX11_table 38 = .ok (.istore_n 1, 1) := by decide +kernel
theorem dX11_table_39 : decode cX11_table 39 = .ok (.iload_n 1, 1) := by decide +kernel
theorem dX11_table_40 : decode cX11_table 40 = .ok (.sipush 584, 3) := by decide +kernel
theorem dX11_table_43 : decode cX11_table 43 = .ok (.if_icmp .ge 16, 3) := by decide +kernel
theorem dX11_table_46 : decode cX11_table 46 = .ok (.aload_n 0, 1) := by decide +kernel
theorem dX11_table_47 : decode cX11_table 47 = .ok (.getfield 37, 3) := by decide +kernel
theorem dX11_table_50 : decode cX11_table 50 = .ok (.iload_n 1, 1) := by decide +kernel
theorem dX11_table_51 : decode cX11_table 51 = .ok (.iconst 0, 1) := by decide +kernel
theorem dX11_table_52 : decode cX11_table 52 = .ok (.iastore, 1) := by decide +kernel
theorem dX11_table_53 : decode cX11_table 53 = .ok (.iinc 1 1, 3) := by decide +kernel
theorem dX11_table_56 : decode cX11_table 56 = .ok (.goto (-17), 3) := by decide +kernel
theorem dX11_table_59 : decode cX11_table 59 = .ok (.aload_n 0, 1) := by decide +kernel
theorem dX11_table_60 : decode cX11_table 60 = .ok (.invokevirtual 192, 3) := by decide +kernel
theorem dX11_table_63 : decode cX11_table 63 = .ok (.aload_n 0, 1) := by decide +kernel
theorem dX11_table_64 : decode cX11_table 64 = .ok (.getfield 163, 3) := by decide +kernel
theorem dX11_table_67 : decode cX11_table 67 = .ok (.ifCond .eq 39, 3) := by decide +kernel
theorem dX11_table_106 : decode cX11_table 106 = .ok (.iconst 0, 1) := by decide +kernel
theorem dX11_table_107 : decode cX11_table 107 = .ok (.istore_n 1, 1) := by decide +kernel
theorem dX11_table_108 : decode cX11_table 108 = .ok (.iload_n 1, 1) := by decide +kernel
theorem dX11_table_109 : decode cX11_table 109 = .ok (.sipush 765, 3) := by decide +kernel
theorem dX11_table_112 : decode cX11_table 112 = .ok (.if_icmp .ge 32, 3) := by decide +kernel
theorem dX11_table_115 : decode cX11_table 115 = .ok (.aload_n 0, 1) := by decide +kernel
theorem dX11_table_116 : decode cX11_table 116 = .ok (.getfield 33, 3) := by decide +kernel
theorem dX11_table_119 : decode cX11_table 119 = .ok (.iload_n 1, 1) := by decide +kernel
theorem dX11_table_120 : decode cX11_table 120 = .ok (.iload_n 1, 1) := by decide +kernel
theorem dX11_table_121 : decode cX11_table 121 = .ok (.sipush 584, 3) := by decide +kernel
theorem dX11_table_124 : decode cX11_table 124 = .ok (.if_icmp .ge 12, 3) := by decide +kernel
theorem dX11_table_127 : decode cX11_table 127 = .ok (.aload_n 0, 1) := by decide +kernel
theorem dX11_table_128 : decode cX11_table 128 = .ok (.getfield 37, 3) := by decide +kernel
theorem dX11_table_131 : decode cX11_table 131 = .ok (.iload_n 1, 1) := by decide +kernel
theorem dX11_table_132 : decode cX11_table 132 = .ok (.iaload, 1) := by decide +kernel
theorem dX11_table_133 : decode cX11_table 133 = .ok (.goto 4, 3) := by decide +kernel
theorem dX11_table_136 : decode cX11_table 136 = .ok (.iconst 0, 1) := by decide +kernel
theorem dX11_table_137 : decode cX11_table 137 = .ok (.iastore, 1) := by decide +kernel
theorem dX11_table_138 : decode cX11_table 138 = .ok (.iinc 1 1, 3) := by decide +kernel
theorem dX11_table_141 : decode cX11_table 141 = .ok (.goto (-33), 3) := by decide +kernel
theorem dX11_table_144 : decode cX11_table 144 = .ok (.iconst 0, 1) := by decide +kernel
theorem dX11_table_145 : decode cX11_table 145 = .ok (.istore_n 1, 1) := by decide +kernel
theorem dX11_table_146 : decode cX11_table 146 = .ok (.iload_n 1, 1) := by decide +kernel
theorem dX11_table_147 : decode cX11_table 147 = .ok (.bipush 6, 2) := by decide +kernel
theorem dX11_table_149 : decode cX11_table 149 = .ok (.if_icmp .ge 24, 3) := by decide +kernel
theorem dX11_table_152 : decode cX11_table 152 = .ok (.aload_n 0, 1) := by decide +kernel
theorem dX11_table_153 : decode cX11_table 153 = .ok (.getfield 43, 3) := by decide +kernel
theorem dX11_table_156 : decode cX11_table 156 = .ok (.iload_n 1, 1) := by decide +kernel
theorem dX11_table_157 : decode cX11_table 157 = .ok (.aload_n 0, 1) := by decide +kernel
theorem dX11_table_158 : decode cX11_table 158 = .ok (.getfield 43, 3) := by decide +kernel
theorem dX11_table_161 : decode cX11_table 161 = .ok (.bipush 6, 2) := by decide +kernel
theorem dX11_table_163 : decode cX11_table 163 = .ok (.iload_n 1, 1) := by decide +kernel
theorem dX11_table_164 : decode cX11_table 164 = .ok (.iadd, 1) := by decide +kernel
theorem dX11_table_165 : decode cX11_table 165 = .ok (.laload, 1) := by decide +kernel
theorem dX11_table_166 : decode cX11_table 166 = .ok (.lastore, 1) := by decide +kernel
theorem dX11_table_167 : decode cX11_table 167 = .ok (.iinc 1 1, 3) := by decide +kernel
theorem dX11_table_170 : decode cX11_table 170 = .ok (.goto (-24), 3) := by decide +kernel
theorem dX11_table_173 : decode cX11_table 173 = .ok (.aload_n 0, 1) := by decide +kernel
theorem dX11_table_174 : decode cX11_table 174 = .ok (.iconst 0, 1) := by decide +kernel
theorem dX11_table_175 : decode cX11_table 175 = .ok (.putfield 246, 3) := by decide +kernel
theorem dX11_table_178 : decode cX11_table 178 = .ok (.aload_n 0, 1) := by decide +kernel
theorem dX11_table_179 : decode cX11_table 179 = .ok (.invokevirtual 249, 3) := by decide +kernel
theorem dX11_table_182 : decode cX11_table 182 = .ok (.aload_n 0, 1) := by decide +kernel
theorem dX11_table_183 : decode cX11_table 183 = .ok (.getfield 237, 3) := by decide +kernel
theorem dX11_table_186 : decode cX11_table 186 = .ok (.ireturn, 1) := by decide +kernel
theorem dX11_tries_0 : decode cX11_tries 0 = .ok (.iconst 0, 1) := by decide +kernel
theorem dX11_tries_1 : decode cX11_tries 1 = .ok (.istore_n 1, 1) := by decide +kernel
theorem dX11_tries_2 : decode cX11_tries 2 = .ok (.iload_n 1, 1) := by decide +kernel
theorem dX11_tries_3 : decode cX11_tries 3 = .ok (.sipush 580, 3) := by decide +kernel
theorem dX11_tries_6 : decode cX11_tries 6 = .ok (.if_icmp .ge 23, 3) := by decide +kernel
theorem dX11_tries_9 : decode cX11_tries 9 = .ok (.aload_n 0, 1) := by decide +kernel
theorem dX11_tries_10 : decode cX11_tries 10 = .ok (.getfield 56, 3) := by decide +kernel
theorem dX11_tries_13 : decode cX11_tries 13 = .ok (.iload_n 1, 1) := by decide +kernel
theorem dX11_tries_14 : decode cX11_tries 14 = .ok (.aload_n 0, 1) := by decide +kernel
theorem dX11_tries_15 : decode cX11_tries 15 = .ok (.getfield 33, 3) := by decide +kernel
theorem dX11_tries_18 : decode cX11_tries 18 = .ok (.iconst 4, 1) := by decide +kernel
theorem dX11_tries_19 : decode cX11_tries 19 = .ok (.iload_n 1, 1) := by decide +kernel
theorem dX11_tries_20 : decode cX11_tries 20 = .ok (.iadd, 1) := by decide +kernel
theorem dX11_tries_21 : decode cX11_tries 21 = .ok (.iaload, 1) := by decide +kernel
theorem dX11_tries_22 : decode cX11_tries 22 = .ok (.iastore, 1) := by decide +kernel
theorem dX11_tries_23 : decode cX11_tries 23 = .ok (.iinc 1 1, 3) := by decide +kernel
theorem dX11_tries_26 : decode cX11_tries 26 = .ok (.goto (-24), 3) := by decide +kernel
theorem dX11_tries_29 : decode cX11_tries 29 = .ok (.return_, 1) := by decide +kernel
theorem dX1_init_0 : decode cX1_init 0 = .ok (.aload_n 0, 1) := by decide +kernel
theorem dX1_init_1 : decode cX1_init 1 = .ok (.invokespecial 3, 3) := by decide +kernel
theorem dX1_init_4 : decode cX1_init 4 = .ok (.aload_n 0, 1) := by decide +kernel
theorem dX1_init_5 : decode cX1_init 5 = .ok (.bipush 120, 2) := by decide +kernel
theorem dX1_init_7 : decode cX1_init 7 = .ok (.newarray .int, 2) := by decide +kernel
theorem dX1_init_9 : decode cX1_init 9 = .ok (.putfield 9, 3) := by decide +kernel
theorem dX1_init_12 : decode cX1_init 12 = .ok (.aload_n 0, 1) := by decide +kernel
theorem dX1_init_13 : decode cX1_init 13 = .ok (.iconst 0, 1) := by decide +kernel
theorem dX1_init_14 : decode cX1_init 14 = .ok (.putfield 15, 3) := by decide +kernel
theorem dX1_init_17 : decode cX1_init 17 = .ok (.aload_n 0, 1) := by decide +kernel
theorem dX1_init_18 : decode cX1_init 18 = .ok (.aload_n 1, 1) := by decide +kernel
theorem dX1_init_19 : decode cX1_init 19 = .ok (.putfield 19, 3) := by decide +kernel
theorem dX1_init_22 : decode cX1_init 22 = .ok (.return_, 1) := by decide +kernel
theorem dX2_init_0 : decode cX2_init 0 = .ok (.aload_n 0, 1) := by decide +kernel
theorem dX2_init_1 : decode cX2_init 1 = .ok (.invokespecial 3, 3) := by decide +kernel
theorem dX2_init_4 : decode cX2_init 4 = .ok (.aload_n 0, 1) := by decide +kernel
theorem dX2_init_5 : decode cX2_init 5 = .ok (.iconst 0, 1) := by decide +kernel
theorem dX2_init_6 : decode cX2_init 6 = .ok (.putfield 9, 3) := by decide +kernel
theorem dX2_init_9 : decode cX2_init 9 = .ok (.aload_n 0, 1) := by decide +kernel
theorem dX2_init_10 : decode cX2_init 10 = .ok (.iconst 0, 1) := by decide +kernel
theorem dX2_init_11 : decode cX2_init 11 = .ok (.putfield 15, 3) := by decide +kernel
theorem dX2_init_14 : decode cX2_init 14 = .ok (.aload_n 0, 1) := by decide +kernel
theorem dX2_init_15 : decode cX2_init 15 = .ok (.iconst 0, 1) := by decide +kernel
theorem dX2_init_16 : decode cX2_init 16 = .ok (.putfield 18, 3) := by decide +kernel
theorem dX2_init_19 : decode cX2_init 19 = .ok (.aload_n 0, 1) := by decide +kernel
theorem dX2_init_20 : decode cX2_init 20 = .ok (.iconst 0, 1) := by decide +kernel
theorem dX2_init_21 : decode cX2_init 21 = .ok (.putfield 22, 3) := by decide +kernel
theorem dX2_init_24 : decode cX2_init 24 = .ok (.aload_n 0, 1) := by decide +kernel
theorem dX2_init_25 : decode cX2_init 25 = .ok (.bipush 6, 2) := by decide +kernel
theorem dX2_init_27 : decode cX2_init 27 = .ok (.newarray .long, 2) := by decide +kernel
theorem dX2_init_29 : decode cX2_init 29 = .ok (.putfield 25, 3) := by decide +kernel
theorem dX2_init_32 : decode cX2_init 32 = .ok (.aload_n 0, 1) := by decide +kernel
theorem dX2_init_33 : decode cX2_init 33 = .ok (.bipush 78, 2) := by decide +kernel
theorem dX2_init_35 : decode cX2_init 35 = .ok (.newarray .int, 2) := by decide +kernel
theorem dX2_init_37 : decode cX2_init 37 = .ok (.putfield 29, 3) := by decide +kernel
theorem dX2_init_40 : decode cX2_init 40 = .ok (.aload_n 0, 1) := by decide +kernel
theorem dX2_init_41 : decode cX2_init 41 = .ok (.bipush 6, 2) := by decide +kernel
theorem dX2_init_43 : decode cX2_init 43 = .ok (.newarray .int, 2) := by decide +kernel
theorem dX2_init_45 : decode cX2_init 45 = .ok (.putfield 33, 3) := by decide +kernel
theorem dX2_init_48 : decode cX2_init 48 = .ok (.aload_n 0, 1) := by decide +kernel
theorem dX2_init_49 : decode cX2_init 49 = .ok (.bipush 52, 2) := by decide +kernel
theorem dX2_init_51 : decode cX2_init 51 = .ok (.newarray .int, 2) := by decide +kernel
theorem dX2_init_53 : decode cX2_init 53 = .ok (.putfield 36, 3) := by decide +kernel
theorem dX2_init_56 : decode cX2_init 56 = .ok (.aload_n 0, 1) := by decide +kernel
theorem dX2_init_57 : decode cX2_init 57 = .ok (.iconst 0, 1) := by decide +kernel
theorem dX2_init_58 : decode cX2_init 58 = .ok (.putfield 39, 3) := by decide +kernel
theorem dX2_init_61 : decode cX2_init 61 = .ok (.aload_n 0, 1) := by decide +kernel
theorem dX2_init_62 : decode cX2_init 62 = .ok (.iconst 0, 1) := by decide +kernel
theorem dX2_init_63 : decode cX2_init 63 = .ok (.putfield 42, 3) := by decide +kernel
theorem dX2_init_66 : decode cX2_init 66 = .ok (.aload_n 0, 1) := by decide +kernel
theorem dX2_init_67 : decode cX2_init 67 = .ok (.bipush 13, 2) := by decide +kernel
theorem dX2_init_69 : decode cX2_init 69 = .ok (.newarray .int, 2) := by decide +kernel
theorem dX2_init_71 : decode cX2_init 71 = .ok (.putfield 45, 3) := by decide +kernel
theorem dX2_init_74 : decode cX2_init 74 = .ok (.aload_n 0, 1) := by decide +kernel
theorem dX2_init_75 : decode cX2_init 75 = .ok (.bipush 6, 2) := by decide +kernel
theorem dX2_init_77 : decode cX2_init 77 = .ok (.newarray .int, 2) := by decide +kernel
theorem dX2_init_79 : decode cX2_init 79 = .ok (.putfield 48, 3) := by decide +kernel
theorem dX2_init_82 : decode cX2_init 82 = .ok (.aload_n 0, 1) := by decide +kernel
theorem dX2_init_83 : decode cX2_init 83 = .ok (.bipush 6, 2) := by decide +kernel
theorem dX2_init_85 : decode cX2_init 85 = .ok (.newarray .int, 2) := by decide +kernel
theorem dX2_init_87 : decode cX2_init 87 = .ok (.putfield 51, 3) := by decide +kernel
theorem dX2_init_90 : decode cX2_init 90 = .ok (.aload_n 0, 1) := by decide +kernel
theorem dX2_init_91 : decode cX2_init 91 = .ok (.bipush 6, 2) := by decide +kernel
theorem dX2_init_93 : decode cX2_init 93 = .ok (.newarray .int, 2) := by decide +kernel
theorem dX2_init_95 : decode cX2_init 95 = .ok (.putfield 54, 3) := by decide +kernel
theorem dX2_init_98 : decode cX2_init 98 = .ok (.aload_n 0, 1) := by decide +kernel
theorem dX2_init_99 : decode cX2_init 99 = .ok (.iconst (-1), 1) := by decide +kernel
theorem dX2_init_100 : decode cX2_init 100 = .ok (.putfield 57, 3) := by decide +kernel
theorem dX2_init_103 : decode cX2_init 103 = .ok (.aload_n 0, 1) := by decide +kernel
theorem dX2_init_104 : decode cX2_init 104 = .ok (.iconst 0, 1) := by decide +kernel
theorem dX2_init_105 : decode cX2_init 105 = .ok (.putfield 60, 3) := by decide +kernel
theorem dX2_init_108 : decode cX2_init 108 = .ok (.aload_n 0, 1) := by decide +kernel
theorem dX2_init_109 : decode cX2_init 109 = .ok (.iconst 0, 1) := by decide +kernel
theorem dX2_init_110 : decode cX2_init 110 = .ok (.putfield 63, 3) := by decide +kernel
theorem dX2_init_113 : decode cX2_init 113 = .ok (.aload_n 0, 1) := by decide +kernel
theorem dX2_init_114 : decode cX2_init 114 = .ok (.new 66, 3) := by decide +kernel
theorem dX2_init_117 : decode cX2_init 117 = .ok (.dup, 1) := by decide +kernel
theorem dX2_init_118 : decode cX2_init 118 = .ok (.invokespecial 68, 3) := by decide +kernel
theorem dX2_init_121 : decode cX2_init 121 = .ok (.putfield 69, 3) := by decide +kernel
theorem dX2_init_124 : decode cX2_init 124 = .ok (.aload_n 0, 1) := by decide +kernel
theorem dX2_init_125 : decode cX2_init 125 = .ok (.getfield 45, 3) := by decide +kernel
theorem dX2_init_128 : decode cX2_init 128 = .ok (.iconst (-1), 1) := by decide +kernel
theorem dX2_init_129 : decode cX2_init 129 = .ok (.invokestatic 73, 3) := by decide +kernel
theorem dX2_init_132 : decode cX2_init 132 = .ok (.aload_n 0, 1) := by decide +kernel
theorem dX2_init_133 : decode cX2_init 133 = .ok (.getfield 54, 3) := by decide +kernel
theorem dX2_init_136 : decode cX2_init 136 = .ok (.iconst (-1), 1) := by decide +kernel
theorem dX2_init_137 : decode cX2_init 137 = .ok (.invokestatic 73, 3) := by decide +kernel
theorem dX2_init_140 : decode cX2_init 140 = .ok (.return_, 1) := by decide +kernel
theorem dX3_init_0 : decode cX3_init 0 = .ok (.aload_n 0, 1) := by decide +kernel
theorem dX3_init_1 : decode cX3_init 1 = .ok (.invokespecial 3, 3) := by decide +kernel
theorem dX3_init_4 : decode cX3_init 4 = .ok (.aload_n 0, 1) := by decide +kernel
theorem dX3_init_5 : decode cX3_init 5 = .ok (.bipush 78, 2) := by decide +kernel
theorem dX3_init_7 : decode cX3_init 7 = .ok (.newarray .int, 2) := by decide +kernel
theorem dX3_init_9 : decode cX3_init 9 = .ok (.putfield 9, 3) := by decide +kernel
theorem dX3_init_12 : decode cX3_init 12 = .ok (.aload_n 0, 1) := by decide +kernel
theorem dX3_init_13 : decode cX3_init 13 = .ok (.bipush 52, 2) := by decide +kernel
theorem dX3_init_15 : decode cX3_init 15 = .ok (.newarray .int, 2) := by decide +kernel
theorem dX3_init_17 : decode cX3_init 17 = .ok (.putfield 15, 3) := by decide +kernel
theorem dX3_init_20 : decode cX3_init 20 = .ok (.aload_n 0, 1) := by decide +kernel
theorem dX3_init_21 : decode cX3_init 21 = .ok (.iconst 0, 1) := by decide +kernel
theorem dX3_init_22 : decode cX3_init 22 = .ok (.putfield 18, 3) := by decide +kernel
theorem dX3_init_25 : decode cX3_init 25 = .ok (.aload_n 0, 1) := by decide +kernel
theorem dX3_init_26 : decode cX3_init 26 = .ok (.bipush 6, 2) := by decide +kernel
theorem dX3_init_28 : decode cX3_init 28 = .ok (.newarray .int, 2) := by decide +kernel
theorem dX3_init_30 : decode cX3_init 30 = .ok (.putfield 22, 3) := by decide +kernel
theorem dX3_init_33 : decode cX3_init 33 = .ok (.return_, 1) := by decide +kernel
theorem dX5_init_0 : decode cX5_init 0 = .ok (.aload_n 0, 1) := by decide +kernel
theorem dX5_init_1 : decode cX5_init 1 = .ok (.invokespecial 1, 3) := by decide +kernel
theorem dX5_init_4 : decode cX5_init 4 = .ok (.aload_n 0, 1) := by decide +kernel
theorem dX5_init_5 : decode cX5_init 5 = .ok (.bipush 8, 2) := by decide +kernel
theorem dX5_init_7 : decode cX5_init 7 = .ok (.anewarray 9, 3) := by decide +kernel
theorem dX5_init_10 : decode cX5_init 10 = .ok (.putfield 11, 3) := by decide +kernel
theorem dX5_init_13 : decode cX5_init 13 = .ok (.aload_n 0, 1) := by decide +kernel
theorem dX5_init_14 : decode cX5_init 14 = .ok (.iconst 0, 1) := by decide +kernel
theorem dX5_init_15 : decode cX5_init 15 = .ok (.putfield 15, 3) := by decide +kernel
theorem dX5_init_18 : decode cX5_init 18 = .ok (.aload_n 0, 1) := by decide +kernel
theorem dX5_init_19 : decode cX5_init 19 = .ok (.iconst 0, 1) := by decide +kernel
theorem dX5_init_20 : decode cX5_init 20 = .ok (.putfield 19, 3) := by decide +kernel
theorem dX5_init_23 : decode cX5_init 23 = .ok (.return_, 1) := by decide +kernel
theorem dX7_init_0 : decode cX7_init 0 = .ok (.aload_n 0, 1) := by decide +kernel
theorem dX7_init_1 : decode cX7_init 1 = .ok (.invokespecial 3, 3) := by decide +kernel
theorem dX7_init_4 : decode cX7_init 4 = .ok (.aload_n 0, 1) := by decide +kernel
theorem dX7_init_5 : decode cX7_init 5 = .ok (.bipush 40, 2) := by decide +kernel
theorem dX7_init_7 : decode cX7_init 7 = .ok (.newarray .int, 2) := by decide +kernel
theorem dX7_init_9 : decode cX7_init 9 = .ok (.putfield 11, 3) := by decide +kernel
theorem dX7_init_12 : decode cX7_init 12 = .ok (.aload_n 0, 1) := by decide +kernel
theorem dX7_init_13 : decode cX7_init 13 = .ok (.iconst 0, 1) := by decide +kernel
theorem dX7_init_14 : decode cX7_init 14 = .ok (.putfield 15, 3) := by decide +kernel
theorem dX7_init_17 : decode cX7_init 17 = .ok (.return_, 1) := by decide +kernel
theorem dX8_init_0 : decode cX8_init 0 = .ok (.aload_n 0, 1) := by decide +kernel
theorem dX8_init_1 : decode cX8_init 1 = .ok (.invokespecial 3, 3) := by decide +kernel
theorem dX8_init_4 : decode cX8_init 4 = .ok (.aload_n 0, 1) := by decide +kernel
theorem dX8_init_5 : decode cX8_init 5 = .ok (.new 9, 3) := by decide +kernel
theorem dX8_init_8 : decode cX8_init 8 = .ok (.dup, 1) := by decide +kernel
theorem dX8_init_9 : decode cX8_init 9 = .ok (.invokespecial 11, 3) := by decide +kernel
theorem dX8_init_12 : decode cX8_init 12 = .ok (.putfield 12, 3) := by decide +kernel
theorem dX8_init_15 : decode cX8_init 15 = .ok (.aload_n 0, 1) := by decide +kernel
theorem dX8_init_16 : decode cX8_init 16 = .ok (.iconst 0, 1) := by decide +kernel
theorem dX8_init_17 : decode cX8_init 17 = .ok (.putfield 18, 3) := by decide +kernel
theorem dX8_init_20 : decode cX8_init 20 = .ok (.aload_n 0, 1) := by decide +kernel
theorem dX8_init_21 : decode cX8_init 21 = .ok (.aload_n 1, 1) := by decide +kernel
theorem dX8_init_22 : decode cX8_init 22 = .ok (.putfield 22, 3) := by decide +kernel
theorem dX8_init_25 : decode cX8_init 25 = .ok (.return_, 1) := by decide +kernel
theorem dX9_init_0 : decode cX9_init 0 = .ok (.aload_n 0, 1) := by decide +kernel
theorem dX9_init_1 : decode cX9_init 1 = .ok (.invokespecial 3, 3) := by decide +kernel
theorem dX9_init_4 : decode cX9_init 4 = .ok (.aload_n 0, 1) := by decide +kernel
theorem dX9_init_5 : decode cX9_init 5 = .ok (.bipush 13, 2) := by decide +kernel
theorem dX9_init_7 : decode cX9_init 7 = .ok (.newarray .int, 2) := by decide +kernel
theorem dX9_init_9 : decode cX9_init 9 = .ok (.putfield 9, 3) := by decide +kernel
theorem dX9_init_12 : decode cX9_init 12 = .ok (.aload_n 0, 1) := by decide +kernel
theorem dX9_init_13 : decode cX9_init 13 = .ok (.iconst 0, 1) := by decide +kernel
theorem dX9_init_14 : decode cX9_init 14 = .ok (.putfield 15, 3) := by decide +kernel
theorem dX9_init_17 : decode cX9_init 17 = .ok (.aload_n 0, 1) := by decide +kernel
theorem dX9_init_18 : decode cX9_init 18 = .ok (.iconst 0, 1) := by decide +kernel
theorem dX9_init_19 : decode cX9_init 19 = .ok (.putfield 19, 3) := by decide +kernel
theorem dX9_init_22 : decode cX9_init 22 = .ok (.aload_n 0, 1) := by decide +kernel
theorem dX9_init_23 : decode cX9_init 23 = .ok (.aload_n 1, 1) := by decide +kernel
theorem dX9_init_24 : decode cX9_init 24 = .ok (.putfield 23, 3) := by decide +kernel
theorem dX9_init_27 : decode cX9_init 27 = .ok (.return_, 1) := by decide +kernel
