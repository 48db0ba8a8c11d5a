theorem dX10_areSuch_0 : decode cX10_areSuch 0 = .ok (.aload_n 0, 1) := by decide +kernel
theorem dX10_areSuch_1 : decode cX10_areSuch 1 = .ok (.getfield 23, 3) := by decide +kernel
theorem dX10_areSuch_4 : decode cX10_areSuch 4 = .ok (.iload_n 1, 1) := by decide +kernel
theorem dX10_areSuch_5 : decode cX10_areSuch 5 = .ok (.invokevirtual 138, 3) := by decide +kernel
theorem dX10_areSuch_8 : decode cX10_areSuch 8 = .ok (.ifCond .eq 29, 3) := by decide +kernel
theorem dX10_areSuch_37 : decode cX10_areSuch 37 = .ok (.iconst 0, 1) := by decide +kernel
theorem dX10_areSuch_38 : decode cX10_areSuch 38 = .ok (.ireturn, 1) := by decide +kernel
theorem dX10_why_0 : decode cX10_why 0 = .ok (.aload_n 0, 1) := by decide +kernel
theorem dX10_why_1 : decode cX10_why 1 = .ok (.iload_n 1, 1) := by decide +kernel
theorem dX10_why_2 : decode cX10_why 2 = .ok (.iload_n 2, 1) := by decide +kernel
theorem dX10_why_3 : decode cX10_why 3 = .ok (.iload_n 3, 1) := by decide +kernel
theorem dX10_why_4 : decode cX10_why 4 = .ok (.invokevirtual 215, 3) := by decide +kernel
theorem dX10_why_7 : decode cX10_why 7 = .ok (.ifCond .eq 16, 3) := by decide +kernel
theorem dX10_why_23 : decode cX10_why 23 = .ok (.iconst (-1), 1) := by decide +kernel
theorem dX10_why_24 : decode cX10_why 24 = .ok (.ireturn, 1) := by decide +kernel
theorem dX2_hasKind_0 : decode cX2_hasKind 0 = .ok (.iload_n 1, 1) := by decide +kernel
theorem dX2_hasKind_1 : decode cX2_hasKind 1 = .ok (.ifCond .lt 15, 3) := by decide +kernel
theorem dX2_hasKind_4 : decode cX2_hasKind 4 = .ok (.iload_n 1, 1) := by decide +kernel
theorem dX2_hasKind_5 : decode cX2_hasKind 5 = .ok (.aload_n 0, 1) := by decide +kernel
theorem dX2_hasKind_6 : decode cX2_hasKind 6 = .ok (.getfield 9, 3) := by decide +kernel
theorem dX2_hasKind_9 : decode cX2_hasKind 9 = .ok (.if_icmp .ge 7, 3) := by decide +kernel
theorem dX2_hasKind_16 : decode cX2_hasKind 16 = .ok (.iconst 0, 1) := by decide +kernel
theorem dX2_hasKind_17 : decode cX2_hasKind 17 = .ok (.ireturn, 1) := by decide +kernel
theorem dX2_hasPerson_0 : decode cX2_hasPerson 0 = .ok (.iload_n 1, 1) := by decide +kernel
theorem dX2_hasPerson_1 : decode cX2_hasPerson 1 = .ok (.ifCond .lt 15, 3) := by decide +kernel
theorem dX2_hasPerson_4 : decode cX2_hasPerson 4 = .ok (.iload_n 1, 1) := by decide +kernel
theorem dX2_hasPerson_5 : decode cX2_hasPerson 5 = .ok (.aload_n 0, 1) := by decide +kernel
theorem dX2_hasPerson_6 : decode cX2_hasPerson 6 = .ok (.getfield 15, 3) := by decide +kernel
theorem dX2_hasPerson_9 : decode cX2_hasPerson 9 = .ok (.if_icmp .ge 7, 3) := by decide +kernel
theorem dX2_hasPerson_16 : decode cX2_hasPerson 16 = .ok (.iconst 0, 1) := by decide +kernel
theorem dX2_hasPerson_17 : decode cX2_hasPerson 17 = .ok (.ireturn, 1) := by decide +kernel
