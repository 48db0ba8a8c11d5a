/-! the words that the rows use, each by its place in the tables; printed by wip/p1/gen.py -/
theorem q_1_21 : Cond.initialized "java/util/NoSuchElementException" ∈ gw := gw_1 21 (by decide +kernel) rfl
theorem q_5_228 : Cond.classLink RL 13 "java/util/NoSuchElementException" ∈ gw := gw_5 228 (by decide +kernel) rfl
theorem q_5_229 : Cond.methodLink RL 7 yX10_hand ∈ gw := gw_5 229 (by decide +kernel) rfl
theorem q_5_230 : Cond.instanceMethod yX10_hand ∈ gw := gw_5 230 (by decide +kernel) rfl
theorem q_5_231 : Cond.selects RX10 yX10_hand yX10_hand ∈ gw := gw_5 231 (by decide +kernel) rfl
theorem q_5_232 : Cond.code yX10_hand cX10_hand 3 (some .int) ∈ gw := gw_5 232 (by decide +kernel) rfl
theorem q_5_233 : Cond.classLink RX10 145 "java/util/NoSuchElementException" ∈ gw := gw_5 233 (by decide +kernel) rfl
theorem q_6_61 : Cond.methodLink RL 15 yX10_odds ∈ gw := gw_6 61 (by decide +kernel) rfl
theorem q_6_62 : Cond.instanceMethod yX10_odds ∈ gw := gw_6 62 (by decide +kernel) rfl
theorem q_6_63 : Cond.selects RX10 yX10_odds yX10_odds ∈ gw := gw_6 63 (by decide +kernel) rfl
theorem q_6_64 : Cond.code yX10_odds cX10_odds 6 (some .long) ∈ gw := gw_6 64 (by decide +kernel) rfl
theorem q_6_74 : Cond.methodLink RL 19 yX10_next ∈ gw := gw_6 74 (by decide +kernel) rfl
theorem q_6_75 : Cond.instanceMethod yX10_next ∈ gw := gw_6 75 (by decide +kernel) rfl
theorem q_6_76 : Cond.selects RX10 yX10_next yX10_next ∈ gw := gw_6 76 (by decide +kernel) rfl
theorem q_6_77 : Cond.code yX10_next cX10_next 6 (some .long) ∈ gw := gw_6 77 (by decide +kernel) rfl
theorem dL_hand_0 : decode cL_hand 0 = .ok (.aload_n 3, 1) := by decide +kernel
theorem dL_hand_1 : decode cL_hand 1 = .ok (.iconst 0, 1) := by decide +kernel
theorem dL_hand_2 : decode cL_hand 2 = .ok (.aload_n 0, 1) := by decide +kernel
theorem dL_hand_3 : decode cL_hand 3 = .ok (.iload_n 1, 1) := by decide +kernel
theorem dL_hand_4 : decode cL_hand 4 = .ok (.iload_n 2, 1) := by decide +kernel
theorem dL_hand_5 : decode cL_hand 5 = .ok (.invokevirtual 7, 3) := by decide +kernel
theorem dL_hand_13 : decode cL_hand 13 = .ok (.astore 4, 2) := by decide +kernel
theorem dL_hand_15 : decode cL_hand 15 = .ok (.iconst 1, 1) := by decide +kernel
theorem dL_hand_16 : decode cL_hand 16 = .ok (.ireturn, 1) := by decide +kernel
theorem dL_next_0 : decode cL_next 0 = .ok (.aload 4, 2) := by decide +kernel
theorem dL_next_2 : decode cL_next 2 = .ok (.iconst 0, 1) := by decide +kernel
theorem dL_next_3 : decode cL_next 3 = .ok (.aload_n 0, 1) := by decide +kernel
theorem dL_next_4 : decode cL_next 4 = .ok (.iload_n 1, 1) := by decide +kernel
theorem dL_next_5 : decode cL_next 5 = .ok (.iload_n 2, 1) := by decide +kernel
theorem dL_next_6 : decode cL_next 6 = .ok (.iload_n 3, 1) := by decide +kernel
theorem dL_next_7 : decode cL_next 7 = .ok (.invokevirtual 19, 3) := by decide +kernel
theorem dL_next_14 : decode cL_next 14 = .ok (.astore 5, 2) := by decide +kernel
theorem dL_next_16 : decode cL_next 16 = .ok (.iconst 1, 1) := by decide +kernel
theorem dL_next_17 : decode cL_next 17 = .ok (.ireturn, 1) := by decide +kernel
theorem dL_odds_0 : decode cL_odds 0 = .ok (.aload 5, 2) := by decide +kernel
theorem dL_odds_2 : decode cL_odds 2 = .ok (.iconst 0, 1) := by decide +kernel
theorem dL_odds_3 : decode cL_odds 3 = .ok (.aload_n 0, 1) := by decide +kernel
theorem dL_odds_4 : decode cL_odds 4 = .ok (.iload_n 1, 1) := by decide +kernel
theorem dL_odds_5 : decode cL_odds 5 = .ok (.iload_n 2, 1) := by decide +kernel
theorem dL_odds_6 : decode cL_odds 6 = .ok (.iload_n 3, 1) := by decide +kernel
theorem dL_odds_7 : decode cL_odds 7 = .ok (.iload 4, 2) := by decide +kernel
theorem dL_odds_9 : decode cL_odds 9 = .ok (.invokevirtual 15, 3) := by decide +kernel
theorem dL_odds_16 : decode cL_odds 16 = .ok (.astore 6, 2) := by decide +kernel
theorem dL_odds_18 : decode cL_odds 18 = .ok (.iconst 1, 1) := by decide +kernel
theorem dL_odds_19 : decode cL_odds 19 = .ok (.ireturn, 1) := by decide +kernel
theorem dX10_hand_0 : decode cX10_hand 0 = .ok (.aload_n 0, 1) := by decide +kernel
theorem dX10_hand_1 : decode cX10_hand 1 = .ok (.getfield 23, 3) := by decide +kernel
theorem dX10_hand_4 : decode cX10_hand 4 = .ok (.iload_n 1, 1) := by decide +kernel
theorem dX10_hand_5 : decode cX10_hand 5 = .ok (.invokevirtual 138, 3) := by decide +kernel
theorem dX10_hand_8 : decode cX10_hand 8 = .ok (.ifCond .eq 14, 3) := by decide +kernel
theorem dX10_hand_22 : decode cX10_hand 22 = .ok (.new 145, 3) := by decide +kernel
theorem dX10_hand_25 : decode cX10_hand 25 = .ok (.dup, 1) := by decide +kernel
theorem dX10_hand_26 : decode cX10_hand 26 = .ok (.ldc 147, 2) := by decide +kernel
theorem dX10_hand_28 : decode cX10_hand 28 = .ok (.invokespecial 149, 3) := by decide +kernel
theorem dX10_hand_31 : decode cX10_hand 31 = .ok (.athrow, 1) := by decide +kernel
theorem dX10_next_0 : decode cX10_next 0 = .ok (.aload_n 0, 1) := by decide +kernel
theorem dX10_next_1 : decode cX10_next 1 = .ok (.getfield 23, 3) := by decide +kernel
theorem dX10_next_4 : decode cX10_next 4 = .ok (.iload_n 1, 1) := by decide +kernel
theorem dX10_next_5 : decode cX10_next 5 = .ok (.invokevirtual 138, 3) := by decide +kernel
theorem dX10_next_8 : decode cX10_next 8 = .ok (.ifCond .eq 23, 3) := by decide +kernel
theorem dX10_next_31 : decode cX10_next 31 = .ok (.new 145, 3) := by decide +kernel
theorem dX10_next_34 : decode cX10_next 34 = .ok (.dup, 1) := by decide +kernel
theorem dX10_next_35 : decode cX10_next 35 = .ok (.ldc_w 269, 3) := by decide +kernel
theorem dX10_next_38 : decode cX10_next 38 = .ok (.invokespecial 149, 3) := by decide +kernel
theorem dX10_next_41 : decode cX10_next 41 = .ok (.athrow, 1) := by decide +kernel
theorem dX10_odds_0 : decode cX10_odds 0 = .ok (.aload_n 0, 1) := by decide +kernel
theorem dX10_odds_1 : decode cX10_odds 1 = .ok (.iload_n 1, 1) := by decide +kernel
theorem dX10_odds_2 : decode cX10_odds 2 = .ok (.iload_n 2, 1) := by decide +kernel
theorem dX10_odds_3 : decode cX10_odds 3 = .ok (.iload_n 3, 1) := by decide +kernel
theorem dX10_odds_4 : decode cX10_odds 4 = .ok (.invokevirtual 215, 3) := by decide +kernel
theorem dX10_odds_7 : decode cX10_odds 7 = .ok (.ifCond .eq 19, 3) := by decide +kernel
theorem dX10_odds_26 : decode cX10_odds 26 = .ok (.new 145, 3) := by decide +kernel
theorem dX10_odds_29 : decode cX10_odds 29 = .ok (.dup, 1) := by decide +kernel
theorem dX10_odds_30 : decode cX10_odds 30 = .ok (.ldc 243, 2) := by decide +kernel
theorem dX10_odds_32 : decode cX10_odds 32 = .ok (.invokespecial 149, 3) := by decide +kernel
theorem dX10_odds_35 : decode cX10_odds 35 = .ok (.athrow, 1) := by decide +kernel
