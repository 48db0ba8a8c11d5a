theorem dX10_areGames_0 : decode cX10_areGames 0 = .ok (.aload_n 0, 1) := by decide +kernel
theorem dX10_areGames_1 : decode cX10_areGames 1 = .ok (.iload_n 1, 1) := by decide +kernel
theorem dX10_areGames_2 : decode cX10_areGames 2 = .ok (.invokevirtual 311, 3) := by decide +kernel
theorem dX10_areGames_5 : decode cX10_areGames 5 = .ok (.ifCond .eq 48, 3) := by decide +kernel
theorem dX10_areGames_8 : decode cX10_areGames 8 = .ok (.aload_n 0, 1) := by decide +kernel
theorem dX10_areGames_9 : decode cX10_areGames 9 = .ok (.iload_n 2, 1) := by decide +kernel
theorem dX10_areGames_10 : decode cX10_areGames 10 = .ok (.invokevirtual 311, 3) := by decide +kernel
theorem dX10_areGames_13 : decode cX10_areGames 13 = .ok (.ifCond .eq 40, 3) := by decide +kernel
theorem dX10_areGames_16 : decode cX10_areGames 16 = .ok (.iload_n 3, 1) := by decide +kernel
theorem dX10_areGames_17 : decode cX10_areGames 17 = .ok (.iconst 1, 1) := by decide +kernel
theorem dX10_areGames_18 : decode cX10_areGames 18 = .ok (.if_icmp .lt 35, 3) := by decide +kernel
theorem dX10_areGames_21 : decode cX10_areGames 21 = .ok (.iload_n 3, 1) := by decide +kernel
theorem dX10_areGames_22 : decode cX10_areGames 22 = .ok (.bipush 30, 2) := by decide +kernel
theorem dX10_areGames_24 : decode cX10_areGames 24 = .ok (.if_icmp .gt 29, 3) := by decide +kernel
theorem dX10_areGames_27 : decode cX10_areGames 27 = .ok (.aload_n 0, 1) := by decide +kernel
theorem dX10_areGames_28 : decode cX10_areGames 28 = .ok (.getfield 23, 3) := by decide +kernel
theorem dX10_areGames_31 : decode cX10_areGames 31 = .ok (.getfield 277, 3) := by decide +kernel
theorem dX10_areGames_34 : decode cX10_areGames 34 = .ok (.iconst 2, 1) := by decide +kernel
theorem dX10_areGames_35 : decode cX10_areGames 35 = .ok (.if_icmp .lt 18, 3) := by decide +kernel
theorem dX10_areGames_53 : decode cX10_areGames 53 = .ok (.iconst 0, 1) := by decide +kernel
theorem dX10_areGames_54 : decode cX10_areGames 54 = .ok (.ireturn, 1) := by decide +kernel
theorem dX10_areSuch_0 : decode cX10_areSuch 0 = .ok (.aload_n 0, 1) := by decide +kernel
theorem dX10_areSuch_1 : decode cX10_areSuch 1 = .ok (.getfield 23, 3) := by decide +kernel
theorem dX10_areSuch_4 : decode cX10_areSuch 4 = .ok (.iload_n 1, 1) := by decide +kernel
theorem dX10_areSuch_5 : decode cX10_areSuch 5 = .ok (.invokevirtual 138, 3) := by decide +kernel
theorem dX10_areSuch_8 : decode cX10_areSuch 8 = .ok (.ifCond .eq 29, 3) := by decide +kernel
theorem dX10_areSuch_37 : decode cX10_areSuch 37 = .ok (.iconst 0, 1) := by decide +kernel
theorem dX10_areSuch_38 : decode cX10_areSuch 38 = .ok (.ireturn, 1) := by decide +kernel
theorem dX10_ask_0 : decode cX10_ask 0 = .ok (.aload_n 0, 1) := by decide +kernel
theorem dX10_ask_1 : decode cX10_ask 1 = .ok (.iload_n 1, 1) := by decide +kernel
theorem dX10_ask_2 : decode cX10_ask 2 = .ok (.iload_n 2, 1) := by decide +kernel
theorem dX10_ask_3 : decode cX10_ask 3 = .ok (.iload_n 3, 1) := by decide +kernel
theorem dX10_ask_4 : decode cX10_ask 4 = .ok (.invokevirtual 215, 3) := by decide +kernel
theorem dX10_ask_7 : decode cX10_ask 7 = .ok (.ifCond .eq 14, 3) := by decide +kernel
theorem dX10_ask_21 : decode cX10_ask 21 = .ok (.iconst (-1), 1) := by decide +kernel
theorem dX10_ask_22 : decode cX10_ask 22 = .ok (.ireturn, 1) := by decide +kernel
theorem dX10_asked_0 : decode cX10_asked 0 = .ok (.iload_n 1, 1) := by decide +kernel
theorem dX10_asked_1 : decode cX10_asked 1 = .ok (.ifCond .lt 18, 3) := by decide +kernel
theorem dX10_asked_4 : decode cX10_asked 4 = .ok (.iload_n 1, 1) := by decide +kernel
theorem dX10_asked_5 : decode cX10_asked 5 = .ok (.bipush 8, 2) := by decide +kernel
theorem dX10_asked_7 : decode cX10_asked 7 = .ok (.if_icmp .ge 12, 3) := by decide +kernel
theorem dX10_asked_10 : decode cX10_asked 10 = .ok (.aload_n 0, 1) := by decide +kernel
theorem dX10_asked_11 : decode cX10_asked 11 = .ok (.getfield 82, 3) := by decide +kernel
theorem dX10_asked_14 : decode cX10_asked 14 = .ok (.iload_n 1, 1) := by decide +kernel
theorem dX10_asked_15 : decode cX10_asked 15 = .ok (.iaload, 1) := by decide +kernel
theorem dX10_asked_16 : decode cX10_asked 16 = .ok (.goto 4, 3) := by decide +kernel
theorem dX10_asked_19 : decode cX10_asked 19 = .ok (.iconst (-1), 1) := by decide +kernel
theorem dX10_asked_20 : decode cX10_asked 20 = .ok (.ireturn, 1) := by decide +kernel
theorem dX10_bent_0 : decode cX10_bent 0 = .ok (.aload_n 0, 1) := by decide +kernel
theorem dX10_bent_1 : decode cX10_bent 1 = .ok (.getfield 23, 3) := by decide +kernel
theorem dX10_bent_4 : decode cX10_bent 4 = .ok (.iload_n 1, 1) := by decide +kernel
theorem dX10_bent_5 : decode cX10_bent 5 = .ok (.invokevirtual 138, 3) := by decide +kernel
theorem dX10_bent_8 : decode cX10_bent 8 = .ok (.ifCond .eq 23, 3) := by decide +kernel
theorem dX10_bent_31 : decode cX10_bent 31 = .ok (.iconst (-1), 1) := by decide +kernel
theorem dX10_bent_32 : decode cX10_bent 32 = .ok (.ireturn, 1) := by decide +kernel
theorem dX10_book_0 : decode cX10_book 0 = .ok (.aload_n 0, 1) := by decide +kernel
theorem dX10_book_1 : decode cX10_book 1 = .ok (.getfield 23, 3) := by decide +kernel
theorem dX10_book_4 : decode cX10_book 4 = .ok (.iload_n 1, 1) := by decide +kernel
theorem dX10_book_5 : decode cX10_book 5 = .ok (.invokevirtual 142, 3) := by decide +kernel
theorem dX10_book_8 : decode cX10_book 8 = .ok (.ifCond .eq 15, 3) := by decide +kernel
theorem dX10_book_23 : decode cX10_book 23 = .ok (.iconst (-1), 1) := by decide +kernel
theorem dX10_book_24 : decode cX10_book 24 = .ok (.ireturn, 1) := by decide +kernel
theorem dX10_can_0 : decode cX10_can 0 = .ok (.aload_n 0, 1) := by decide +kernel
theorem dX10_can_1 : decode cX10_can 1 = .ok (.getfield 23, 3) := by decide +kernel
theorem dX10_can_4 : decode cX10_can 4 = .ok (.iload_n 1, 1) := by decide +kernel
theorem dX10_can_5 : decode cX10_can 5 = .ok (.invokevirtual 138, 3) := by decide +kernel
theorem dX10_can_8 : decode cX10_can 8 = .ok (.ifCond .eq 29, 3) := by decide +kernel
theorem dX10_can_37 : decode cX10_can 37 = .ok (.iconst (-1), 1) := by decide +kernel
theorem dX10_can_38 : decode cX10_can 38 = .ok (.ireturn, 1) := by decide +kernel
theorem dX10_count_0 : decode cX10_count 0 = .ok (.iload_n 1, 1) := by decide +kernel
theorem dX10_count_1 : decode cX10_count 1 = .ok (.tableswitch 80 0 4 #[35, 43, 51, 67, 75], 35) := by decide +kernel
theorem dX10_count_36 : decode cX10_count 36 = .ok (.aload_n 0, 1) := by decide +kernel
theorem dX10_count_37 : decode cX10_count 37 = .ok (.getfield 23, 3) := by decide +kernel
theorem dX10_count_40 : decode cX10_count 40 = .ok (.getfield 284, 3) := by decide +kernel
theorem dX10_count_43 : decode cX10_count 43 = .ok (.ireturn, 1) := by decide +kernel
theorem dX10_count_44 : decode cX10_count 44 = .ok (.aload_n 0, 1) := by decide +kernel
theorem dX10_count_45 : decode cX10_count 45 = .ok (.getfield 23, 3) := by decide +kernel
theorem dX10_count_48 : decode cX10_count 48 = .ok (.getfield 277, 3) := by decide +kernel
theorem dX10_count_51 : decode cX10_count 51 = .ok (.ireturn, 1) := by decide +kernel
theorem dX10_count_52 : decode cX10_count 52 = .ok (.aload_n 0, 1) := by decide +kernel
theorem dX10_count_53 : decode cX10_count 53 = .ok (.getfield 23, 3) := by decide +kernel
theorem dX10_count_56 : decode cX10_count 56 = .ok (.getfield 358, 3) := by decide +kernel
theorem dX10_count_59 : decode cX10_count 59 = .ok (.ifCond .eq 7, 3) := by decide +kernel
theorem dX10_count_66 : decode cX10_count 66 = .ok (.iconst 0, 1) := by decide +kernel
theorem dX10_count_67 : decode cX10_count 67 = .ok (.ireturn, 1) := by decide +kernel
theorem dX10_count_68 : decode cX10_count 68 = .ok (.aload_n 0, 1) := by decide +kernel
theorem dX10_count_69 : decode cX10_count 69 = .ok (.getfield 23, 3) := by decide +kernel
theorem dX10_count_72 : decode cX10_count 72 = .ok (.getfield 362, 3) := by decide +kernel
theorem dX10_count_75 : decode cX10_count 75 = .ok (.ireturn, 1) := by decide +kernel
theorem dX10_count_76 : decode cX10_count 76 = .ok (.aload_n 0, 1) := by decide +kernel
theorem dX10_count_77 : decode cX10_count 77 = .ok (.getfield 13, 3) := by decide +kernel
theorem dX10_count_80 : decode cX10_count 80 = .ok (.ireturn, 1) := by decide +kernel
theorem dX10_count_81 : decode cX10_count 81 = .ok (.iconst (-1), 1) := by decide +kernel
theorem dX10_count_82 : decode cX10_count 82 = .ok (.ireturn, 1) := by decide +kernel
theorem dX10_deal_0 : decode cX10_deal 0 = .ok (.iload_n 1, 1) := by decide +kernel
theorem dX10_deal_1 : decode cX10_deal 1 = .ok (.iconst 1, 1) := by decide +kernel
theorem dX10_deal_2 : decode cX10_deal 2 = .ok (.if_icmp .lt 20, 3) := by decide +kernel
theorem dX10_deal_5 : decode cX10_deal 5 = .ok (.iload_n 1, 1) := by decide +kernel
theorem dX10_deal_6 : decode cX10_deal 6 = .ok (.bipush 9, 2) := by decide +kernel
theorem dX10_deal_8 : decode cX10_deal 8 = .ok (.if_icmp .gt 14, 3) := by decide +kernel
theorem dX10_deal_11 : decode cX10_deal 11 = .ok (.aload_n 0, 1) := by decide +kernel
theorem dX10_deal_12 : decode cX10_deal 12 = .ok (.getfield 23, 3) := by decide +kernel
theorem dX10_deal_15 : decode cX10_deal 15 = .ok (.iload_n 1, 1) := by decide +kernel
theorem dX10_deal_16 : decode cX10_deal 16 = .ok (.invokevirtual 320, 3) := by decide +kernel
theorem dX10_deal_19 : decode cX10_deal 19 = .ok (.ifCond .ne 5, 3) := by decide +kernel
theorem dX10_deal_22 : decode cX10_deal 22 = .ok (.iconst 0, 1) := by decide +kernel
theorem dX10_deal_23 : decode cX10_deal 23 = .ok (.ireturn, 1) := by decide +kernel
theorem dX10_end_0 : decode cX10_end 0 = .ok (.iload_n 1, 1) := by decide +kernel
theorem dX10_end_1 : decode cX10_end 1 = .ok (.ifCond .lt 11, 3) := by decide +kernel
theorem dX10_end_4 : decode cX10_end 4 = .ok (.iload_n 1, 1) := by decide +kernel
theorem dX10_end_5 : decode cX10_end 5 = .ok (.aload_n 0, 1) := by decide +kernel
theorem dX10_end_6 : decode cX10_end 6 = .ok (.getfield 13, 3) := by decide +kernel
theorem dX10_end_9 : decode cX10_end 9 = .ok (.if_icmp .le 5, 3) := by decide +kernel
theorem dX10_end_12 : decode cX10_end 12 = .ok (.iconst 0, 1) := by decide +kernel
theorem dX10_end_13 : decode cX10_end 13 = .ok (.ireturn, 1) := by decide +kernel
theorem dX10_end_14 : decode cX10_end 14 = .ok (.aload_n 0, 1) := by decide +kernel
theorem dX10_end_15 : decode cX10_end 15 = .ok (.iload_n 1, 1) := by decide +kernel
theorem dX10_end_16 : decode cX10_end 16 = .ok (.putfield 13, 3) := by decide +kernel
theorem dX10_end_19 : decode cX10_end 19 = .ok (.iconst 1, 1) := by decide +kernel
theorem dX10_end_20 : decode cX10_end 20 = .ok (.ireturn, 1) := by decide +kernel
theorem dX10_fault_0 : decode cX10_fault 0 = .ok (.aload_n 0, 1) := by decide +kernel
theorem dX10_fault_1 : decode cX10_fault 1 = .ok (.getfield 17, 3) := by decide +kernel
theorem dX10_fault_4 : decode cX10_fault 4 = .ok (.ireturn, 1) := by decide +kernel
theorem dX10_first_0 : decode cX10_first 0 = .ok (.aload_n 0, 1) := by decide +kernel
theorem dX10_first_1 : decode cX10_first 1 = .ok (.invokevirtual 294, 3) := by decide +kernel
theorem dX10_first_4 : decode cX10_first 4 = .ok (.ifCond .eq 17, 3) := by decide +kernel
theorem dX10_first_21 : decode cX10_first 21 = .ok (.iconst (-1), 1) := by decide +kernel
theorem dX10_first_22 : decode cX10_first 22 = .ok (.ireturn, 1) := by decide +kernel
theorem dX10_gains_0 : decode cX10_gains 0 = .ok (.aload_n 0, 1) := by decide +kernel
theorem dX10_gains_1 : decode cX10_gains 1 = .ok (.getfield 23, 3) := by decide +kernel
theorem dX10_gains_4 : decode cX10_gains 4 = .ok (.iload_n 1, 1) := by decide +kernel
theorem dX10_gains_5 : decode cX10_gains 5 = .ok (.invokevirtual 138, 3) := by decide +kernel
theorem dX10_gains_8 : decode cX10_gains 8 = .ok (.ifCond .ne 5, 3) := by decide +kernel
theorem dX10_gains_11 : decode cX10_gains 11 = .ok (.iconst (-1), 1) := by decide +kernel
theorem dX10_gains_12 : decode cX10_gains 12 = .ok (.ireturn, 1) := by decide +kernel
theorem dX10_games_0 : decode cX10_games 0 = .ok (.aload_n 0, 1) := by decide +kernel
theorem dX10_games_1 : decode cX10_games 1 = .ok (.iload_n 1, 1) := by decide +kernel
theorem dX10_games_2 : decode cX10_games 2 = .ok (.iload_n 2, 1) := by decide +kernel
theorem dX10_games_3 : decode cX10_games 3 = .ok (.iload_n 3, 1) := by decide +kernel
theorem dX10_games_4 : decode cX10_games 4 = .ok (.invokevirtual 326, 3) := by decide +kernel
theorem dX10_games_7 : decode cX10_games 7 = .ok (.ifCond .eq 16, 3) := by decide +kernel
theorem dX10_games_23 : decode cX10_games 23 = .ok (.iconst (-1), 1) := by decide +kernel
theorem dX10_games_24 : decode cX10_games 24 = .ok (.ireturn, 1) := by decide +kernel
theorem dX10_heap_0 : decode cX10_heap 0 = .ok (.iload_n 1, 1) := by decide +kernel
theorem dX10_heap_1 : decode cX10_heap 1 = .ok (.ifCond .lt 34, 3) := by decide +kernel
theorem dX10_heap_4 : decode cX10_heap 4 = .ok (.iload_n 1, 1) := by decide +kernel
theorem dX10_heap_5 : decode cX10_heap 5 = .ok (.aload_n 0, 1) := by decide +kernel
theorem dX10_heap_6 : decode cX10_heap 6 = .ok (.getfield 23, 3) := by decide +kernel
theorem dX10_heap_9 : decode cX10_heap 9 = .ok (.invokevirtual 190, 3) := by decide +kernel
theorem dX10_heap_12 : decode cX10_heap 12 = .ok (.if_icmp .ge 23, 3) := by decide +kernel
theorem dX10_heap_35 : decode cX10_heap 35 = .ok (.iconst (-1), 1) := by decide +kernel
theorem dX10_heap_36 : decode cX10_heap 36 = .ok (.ireturn, 1) := by decide +kernel
theorem dX10_heard_0 : decode cX10_heard 0 = .ok (.iload_n 1, 1) := by decide +kernel
theorem dX10_heard_1 : decode cX10_heard 1 = .ok (.ifCond .lt 21, 3) := by decide +kernel
theorem dX10_heard_4 : decode cX10_heard 4 = .ok (.iload_n 1, 1) := by decide +kernel
theorem dX10_heard_5 : decode cX10_heard 5 = .ok (.aload_n 0, 1) := by decide +kernel
theorem dX10_heard_6 : decode cX10_heard 6 = .ok (.getfield 89, 3) := by decide +kernel
theorem dX10_heard_9 : decode cX10_heard 9 = .ok (.arraylength, 1) := by decide +kernel
theorem dX10_heard_10 : decode cX10_heard 10 = .ok (.if_icmp .ge 12, 3) := by decide +kernel
theorem dX10_heard_13 : decode cX10_heard 13 = .ok (.aload_n 0, 1) := by decide +kernel
theorem dX10_heard_14 : decode cX10_heard 14 = .ok (.getfield 89, 3) := by decide +kernel
theorem dX10_heard_17 : decode cX10_heard 17 = .ok (.iload_n 1, 1) := by decide +kernel
theorem dX10_heard_18 : decode cX10_heard 18 = .ok (.iaload, 1) := by decide +kernel
theorem dX10_heard_19 : decode cX10_heard 19 = .ok (.goto 4, 3) := by decide +kernel
theorem dX10_heard_22 : decode cX10_heard 22 = .ok (.iconst (-1), 1) := by decide +kernel
theorem dX10_heard_23 : decode cX10_heard 23 = .ok (.ireturn, 1) := by decide +kernel
theorem dX10_isOpen_0 : decode cX10_isOpen 0 = .ok (.aload_n 0, 1) := by decide +kernel
theorem dX10_isOpen_1 : decode cX10_isOpen 1 = .ok (.getfield 23, 3) := by decide +kernel
theorem dX10_isOpen_4 : decode cX10_isOpen 4 = .ok (.getfield 277, 3) := by decide +kernel
theorem dX10_isOpen_7 : decode cX10_isOpen 7 = .ok (.iconst 2, 1) := by decide +kernel
theorem dX10_isOpen_8 : decode cX10_isOpen 8 = .ok (.if_icmp .ne 46, 3) := by decide +kernel
theorem dX10_isOpen_54 : decode cX10_isOpen 54 = .ok (.iconst 0, 1) := by decide +kernel
theorem dX10_isOpen_55 : decode cX10_isOpen 55 = .ok (.ireturn, 1) := by decide +kernel
theorem dX10_isRule_0 : decode cX10_isRule 0 = .ok (.iload_n 1, 1) := by decide +kernel
theorem dX10_isRule_1 : decode cX10_isRule 1 = .ok (.ifCond .lt 12, 3) := by decide +kernel
theorem dX10_isRule_4 : decode cX10_isRule 4 = .ok (.iload_n 1, 1) := by decide +kernel
theorem dX10_isRule_5 : decode cX10_isRule 5 = .ok (.iconst 4, 1) := by decide +kernel
theorem dX10_isRule_6 : decode cX10_isRule 6 = .ok (.if_icmp .ge 7, 3) := by decide +kernel
theorem dX10_isRule_9 : decode cX10_isRule 9 = .ok (.iconst 1, 1) := by decide +kernel
theorem dX10_isRule_10 : decode cX10_isRule 10 = .ok (.goto 4, 3) := by decide +kernel
theorem dX10_isRule_13 : decode cX10_isRule 13 = .ok (.iconst 0, 1) := by decide +kernel
theorem dX10_isRule_14 : decode cX10_isRule 14 = .ok (.ireturn, 1) := by decide +kernel
theorem dX10_known_0 : decode cX10_known 0 = .ok (.aload_n 0, 1) := by decide +kernel
theorem dX10_known_1 : decode cX10_known 1 = .ok (.getfield 23, 3) := by decide +kernel
theorem dX10_known_4 : decode cX10_known 4 = .ok (.iload_n 1, 1) := by decide +kernel
theorem dX10_known_5 : decode cX10_known 5 = .ok (.invokevirtual 138, 3) := by decide +kernel
theorem dX10_known_8 : decode cX10_known 8 = .ok (.ifCond .eq 29, 3) := by decide +kernel
theorem dX10_known_37 : decode cX10_known 37 = .ok (.iconst (-1), 1) := by decide +kernel
theorem dX10_known_38 : decode cX10_known 38 = .ok (.ireturn, 1) := by decide +kernel
theorem dX10_leader_0 : decode cX10_leader 0 = .ok (.iconst (-1), 1) := by decide +kernel
theorem dX10_leader_1 : decode cX10_leader 1 = .ok (.istore_n 1, 1) := by decide +kernel
theorem dX10_leader_2 : decode cX10_leader 2 = .ok (.iconst (-1), 1) := by decide +kernel
theorem dX10_leader_3 : decode cX10_leader 3 = .ok (.istore_n 2, 1) := by decide +kernel
theorem dX10_leader_4 : decode cX10_leader 4 = .ok (.iconst 0, 1) := by decide +kernel
theorem dX10_leader_5 : decode cX10_leader 5 = .ok (.istore_n 3, 1) := by decide +kernel
theorem dX10_leader_6 : decode cX10_leader 6 = .ok (.iload_n 3, 1) := by decide +kernel
theorem dX10_leader_7 : decode cX10_leader 7 = .ok (.aload_n 0, 1) := by decide +kernel
theorem dX10_leader_8 : decode cX10_leader 8 = .ok (.getfield 23, 3) := by decide +kernel
theorem dX10_leader_11 : decode cX10_leader 11 = .ok (.getfield 277, 3) := by decide +kernel
theorem dX10_leader_14 : decode cX10_leader 14 = .ok (.if_icmp .ge 30, 3) := by decide +kernel
theorem dX10_leader_44 : decode cX10_leader 44 = .ok (.iload_n 1, 1) := by decide +kernel
theorem dX10_leader_45 : decode cX10_leader 45 = .ok (.ireturn, 1) := by decide +kernel
theorem dX10_length_0 : decode cX10_length 0 = .ok (.aload_n 0, 1) := by decide +kernel
theorem dX10_length_1 : decode cX10_length 1 = .ok (.iload_n 1, 1) := by decide +kernel
theorem dX10_length_2 : decode cX10_length 2 = .ok (.iload_n 2, 1) := by decide +kernel
theorem dX10_length_3 : decode cX10_length 3 = .ok (.iload_n 3, 1) := by decide +kernel
theorem dX10_length_4 : decode cX10_length 4 = .ok (.invokevirtual 326, 3) := by decide +kernel
theorem dX10_length_7 : decode cX10_length 7 = .ok (.ifCond .eq 16, 3) := by decide +kernel
theorem dX10_length_23 : decode cX10_length 23 = .ok (.iconst (-1), 1) := by decide +kernel
theorem dX10_length_24 : decode cX10_length 24 = .ok (.ireturn, 1) := by decide +kernel
theorem dX10_now_0 : decode cX10_now 0 = .ok (.iload_n 1, 1) := by decide +kernel
theorem dX10_now_1 : decode cX10_now 1 = .ok (.tableswitch 87 0 5 #[39, 47, 55, 63, 71, 79], 39) := by decide +kernel
theorem dX10_now_40 : decode cX10_now 40 = .ok (.aload_n 0, 1) := by decide +kernel
theorem dX10_now_41 : decode cX10_now 41 = .ok (.getfield 23, 3) := by decide +kernel
theorem dX10_now_44 : decode cX10_now 44 = .ok (.getfield 200, 3) := by decide +kernel
theorem dX10_now_47 : decode cX10_now 47 = .ok (.ireturn, 1) := by decide +kernel
theorem dX10_now_48 : decode cX10_now 48 = .ok (.aload_n 0, 1) := by decide +kernel
theorem dX10_now_49 : decode cX10_now 49 = .ok (.getfield 23, 3) := by decide +kernel
theorem dX10_now_52 : decode cX10_now 52 = .ok (.invokevirtual 190, 3) := by decide +kernel
theorem dX10_now_55 : decode cX10_now 55 = .ok (.ireturn, 1) := by decide +kernel
theorem dX10_now_56 : decode cX10_now 56 = .ok (.aload_n 0, 1) := by decide +kernel
theorem dX10_now_57 : decode cX10_now 57 = .ok (.getfield 23, 3) := by decide +kernel
theorem dX10_now_60 : decode cX10_now 60 = .ok (.getfield 203, 3) := by decide +kernel
theorem dX10_now_63 : decode cX10_now 63 = .ok (.ireturn, 1) := by decide +kernel
theorem dX10_now_64 : decode cX10_now 64 = .ok (.aload_n 0, 1) := by decide +kernel
theorem dX10_now_65 : decode cX10_now 65 = .ok (.getfield 23, 3) := by decide +kernel
theorem dX10_now_68 : decode cX10_now 68 = .ok (.invokevirtual 206, 3) := by decide +kernel
theorem dX10_now_71 : decode cX10_now 71 = .ok (.ireturn, 1) := by decide +kernel
theorem dX10_now_72 : decode cX10_now 72 = .ok (.aload_n 0, 1) := by decide +kernel
theorem dX10_now_73 : decode cX10_now 73 = .ok (.getfield 23, 3) := by decide +kernel
theorem dX10_now_76 : decode cX10_now 76 = .ok (.getfield 209, 3) := by decide +kernel
theorem dX10_now_79 : decode cX10_now 79 = .ok (.ireturn, 1) := by decide +kernel
theorem dX10_now_80 : decode cX10_now 80 = .ok (.aload_n 0, 1) := by decide +kernel
theorem dX10_now_81 : decode cX10_now 81 = .ok (.getfield 23, 3) := by decide +kernel
theorem dX10_now_84 : decode cX10_now 84 = .ok (.invokevirtual 212, 3) := by decide +kernel
theorem dX10_now_87 : decode cX10_now 87 = .ok (.ireturn, 1) := by decide +kernel
theorem dX10_now_88 : decode cX10_now 88 = .ok (.iconst (-1), 1) := by decide +kernel
theorem dX10_now_89 : decode cX10_now 89 = .ok (.ireturn, 1) := by decide +kernel
theorem dX10_open_0 : decode cX10_open 0 = .ok (.aload_n 0, 1) := by decide +kernel
theorem dX10_open_1 : decode cX10_open 1 = .ok (.invokevirtual 294, 3) := by decide +kernel
theorem dX10_open_4 : decode cX10_open 4 = .ok (.ifCond .eq 17, 3) := by decide +kernel
theorem dX10_open_21 : decode cX10_open 21 = .ok (.bipush (-101), 2) := by decide +kernel
theorem dX10_open_23 : decode cX10_open 23 = .ok (.ireturn, 1) := by decide +kernel
theorem dX10_person_0 : decode cX10_person 0 = .ok (.aload_n 0, 1) := by decide +kernel
theorem dX10_person_1 : decode cX10_person 1 = .ok (.getfield 23, 3) := by decide +kernel
theorem dX10_person_4 : decode cX10_person 4 = .ok (.iload_n 1, 1) := by decide +kernel
theorem dX10_person_5 : decode cX10_person 5 = .ok (.invokevirtual 138, 3) := by decide +kernel
theorem dX10_person_8 : decode cX10_person 8 = .ok (.ifCond .ne 5, 3) := by decide +kernel
theorem dX10_person_11 : decode cX10_person 11 = .ok (.iconst (-1), 1) := by decide +kernel
theorem dX10_person_12 : decode cX10_person 12 = .ok (.ireturn, 1) := by decide +kernel
theorem dX10_reply_0 : decode cX10_reply 0 = .ok (.aload_n 0, 1) := by decide +kernel
theorem dX10_reply_1 : decode cX10_reply 1 = .ok (.iconst 0, 1) := by decide +kernel
theorem dX10_reply_2 : decode cX10_reply 2 = .ok (.iload_n 1, 1) := by decide +kernel
theorem dX10_reply_3 : decode cX10_reply 3 = .ok (.iload_n 2, 1) := by decide +kernel
theorem dX10_reply_4 : decode cX10_reply 4 = .ok (.invokevirtual 326, 3) := by decide +kernel
theorem dX10_reply_7 : decode cX10_reply 7 = .ok (.ifCond .ne 5, 3) := by decide +kernel
theorem dX10_reply_10 : decode cX10_reply 10 = .ok (.iconst (-1), 1) := by decide +kernel
theorem dX10_reply_11 : decode cX10_reply 11 = .ok (.ireturn, 1) := by decide +kernel
theorem dX10_restore_0 : decode cX10_restore 0 = .ok (.iload_n 1, 1) := by decide +kernel
theorem dX10_restore_1 : decode cX10_restore 1 = .ok (.ifCond .lt 26, 3) := by decide +kernel
theorem dX10_restore_4 : decode cX10_restore 4 = .ok (.iload_n 1, 1) := by decide +kernel
theorem dX10_restore_5 : decode cX10_restore 5 = .ok (.iconst 2, 1) := by decide +kernel
theorem dX10_restore_6 : decode cX10_restore 6 = .ok (.if_icmp .ge 21, 3) := by decide +kernel
theorem dX10_restore_9 : decode cX10_restore 9 = .ok (.aload_n 0, 1) := by decide +kernel
theorem dX10_restore_10 : decode cX10_restore 10 = .ok (.getfield 74, 3) := by decide +kernel
theorem dX10_restore_13 : decode cX10_restore 13 = .ok (.iload_n 1, 1) := by decide +kernel
theorem dX10_restore_14 : decode cX10_restore 14 = .ok (.aaload, 1) := by decide +kernel
theorem dX10_restore_15 : decode cX10_restore 15 = .ok (.ifnull 12, 3) := by decide +kernel
theorem dX10_restore_27 : decode cX10_restore 27 = .ok (.iconst 0, 1) := by decide +kernel
theorem dX10_restore_28 : decode cX10_restore 28 = .ok (.ireturn, 1) := by decide +kernel
theorem dX10_said_0 : decode cX10_said 0 = .ok (.aload_n 0, 1) := by decide +kernel
theorem dX10_said_1 : decode cX10_said 1 = .ok (.getfield 33, 3) := by decide +kernel
theorem dX10_said_4 : decode cX10_said 4 = .ok (.getfield 354, 3) := by decide +kernel
theorem dX10_said_7 : decode cX10_said 7 = .ok (.ifCond .eq 8, 3) := by decide +kernel
theorem dX10_said_15 : decode cX10_said 15 = .ok (.iconst (-1), 1) := by decide +kernel
theorem dX10_said_16 : decode cX10_said 16 = .ok (.ireturn, 1) := by decide +kernel
theorem dX10_sweep_0 : decode cX10_sweep 0 = .ok (.aload_n 0, 1) := by decide +kernel
theorem dX10_sweep_1 : decode cX10_sweep 1 = .ok (.getfield 23, 3) := by decide +kernel
theorem dX10_sweep_4 : decode cX10_sweep 4 = .ok (.iload_n 1, 1) := by decide +kernel
theorem dX10_sweep_5 : decode cX10_sweep 5 = .ok (.invokevirtual 138, 3) := by decide +kernel
theorem dX10_sweep_8 : decode cX10_sweep 8 = .ok (.ifCond .ne 5, 3) := by decide +kernel
theorem dX10_sweep_11 : decode cX10_sweep 11 = .ok (.iconst (-1), 1) := by decide +kernel
theorem dX10_sweep_12 : decode cX10_sweep 12 = .ok (.ireturn, 1) := by decide +kernel
theorem dX10_swept_0 : decode cX10_swept 0 = .ok (.iload_n 1, 1) := by decide +kernel
theorem dX10_swept_1 : decode cX10_swept 1 = .ok (.ifCond .lt 20, 3) := by decide +kernel
theorem dX10_swept_4 : decode cX10_swept 4 = .ok (.iload_n 1, 1) := by decide +kernel
theorem dX10_swept_5 : decode cX10_swept 5 = .ok (.aload_n 0, 1) := by decide +kernel
theorem dX10_swept_6 : decode cX10_swept 6 = .ok (.getfield 95, 3) := by decide +kernel
theorem dX10_swept_9 : decode cX10_swept 9 = .ok (.if_icmp .ge 12, 3) := by decide +kernel
theorem dX10_swept_21 : decode cX10_swept 21 = .ok (.iconst (-1), 1) := by decide +kernel
theorem dX10_swept_22 : decode cX10_swept 22 = .ok (.ireturn, 1) := by decide +kernel
theorem dX10_undo_0 : decode cX10_undo 0 = .ok (.aload_n 0, 1) := by decide +kernel
theorem dX10_undo_1 : decode cX10_undo 1 = .ok (.getfield 70, 3) := by decide +kernel
theorem dX10_undo_4 : decode cX10_undo 4 = .ok (.aload_n 0, 1) := by decide +kernel
theorem dX10_undo_5 : decode cX10_undo 5 = .ok (.getfield 23, 3) := by decide +kernel
theorem dX10_undo_8 : decode cX10_undo 8 = .ok (.invokevirtual 230, 3) := by decide +kernel
theorem dX10_undo_11 : decode cX10_undo 11 = .ok (.ifCond .eq 13, 3) := by decide +kernel
theorem dX10_undo_24 : decode cX10_undo 24 = .ok (.iconst (-1), 1) := by decide +kernel
theorem dX10_undo_25 : decode cX10_undo 25 = .ok (.ireturn, 1) := by decide +kernel
theorem dX10_whom_0 : decode cX10_whom 0 = .ok (.aload_n 0, 1) := by decide +kernel
theorem dX10_whom_1 : decode cX10_whom 1 = .ok (.getfield 23, 3) := by decide +kernel
theorem dX10_whom_4 : decode cX10_whom 4 = .ok (.iload_n 1, 1) := by decide +kernel
theorem dX10_whom_5 : decode cX10_whom 5 = .ok (.invokevirtual 138, 3) := by decide +kernel
theorem dX10_whom_8 : decode cX10_whom 8 = .ok (.ifCond .eq 26, 3) := by decide +kernel
theorem dX10_whom_34 : decode cX10_whom 34 = .ok (.iconst (-1), 1) := by decide +kernel
theorem dX10_whom_35 : decode cX10_whom 35 = .ok (.ireturn, 1) := by decide +kernel
theorem dX10_why_0 : decode cX10_why 0 = .ok (.aload_n 0, 1) := by decide +kernel
theorem dX10_why_1 : decode cX10_why 1 = .ok (.iload_n 1, 1) := by decide +kernel
theorem dX10_why_2 : decode cX10_why 2 = .ok (.iload_n 2, 1) := by decide +kernel
theorem dX10_why_3 : decode cX10_why 3 = .ok (.iload_n 3, 1) := by decide +kernel
theorem dX10_why_4 : decode cX10_why 4 = .ok (.invokevirtual 215, 3) := by decide +kernel
theorem dX10_why_7 : decode cX10_why 7 = .ok (.ifCond .eq 16, 3) := by decide +kernel
theorem dX10_why_23 : decode cX10_why 23 = .ok (.iconst (-1), 1) := by decide +kernel
theorem dX10_why_24 : decode cX10_why 24 = .ok (.ireturn, 1) := by decide +kernel
theorem dX11_allBooks_0 : decode cX11_allBooks 0 = .ok (.iconst 0, 1) := by decide +kernel
theorem dX11_allBooks_1 : decode cX11_allBooks 1 = .ok (.istore_n 1, 1) := by decide +kernel
theorem dX11_allBooks_2 : decode cX11_allBooks 2 = .ok (.iconst 0, 1) := by decide +kernel
theorem dX11_allBooks_3 : decode cX11_allBooks 3 = .ok (.istore_n 2, 1) := by decide +kernel
theorem dX11_allBooks_4 : decode cX11_allBooks 4 = .ok (.iload_n 2, 1) := by decide +kernel
theorem dX11_allBooks_5 : decode cX11_allBooks 5 = .ok (.bipush 13, 2) := by decide +kernel
theorem dX11_allBooks_7 : decode cX11_allBooks 7 = .ok (.if_icmp .ge 30, 3) := by decide +kernel
theorem dX11_allBooks_10 : decode cX11_allBooks 10 = .ok (.iload_n 1, 1) := by decide +kernel
theorem dX11_allBooks_11 : decode cX11_allBooks 11 = .ok (.aload_n 0, 1) := by decide +kernel
theorem dX11_allBooks_12 : decode cX11_allBooks 12 = .ok (.getfield 33, 3) := by decide +kernel
theorem dX11_allBooks_15 : decode cX11_allBooks 15 = .ok (.sipush 138, 3) := by decide +kernel
theorem dX11_allBooks_18 : decode cX11_allBooks 18 = .ok (.iload_n 2, 1) := by decide +kernel
theorem dX11_allBooks_19 : decode cX11_allBooks 19 = .ok (.iadd, 1) := by decide +kernel
theorem dX11_allBooks_20 : decode cX11_allBooks 20 = .ok (.iaload, 1) := by decide +kernel
theorem dX11_allBooks_21 : decode cX11_allBooks 21 = .ok (.ifCond .le 7, 3) := by decide +kernel
theorem dX11_allBooks_28 : decode cX11_allBooks 28 = .ok (.iconst 0, 1) := by decide +kernel
theorem dX11_allBooks_29 : decode cX11_allBooks 29 = .ok (.iadd, 1) := by decide +kernel
theorem dX11_allBooks_30 : decode cX11_allBooks 30 = .ok (.istore_n 1, 1) := by decide +kernel
theorem dX11_allBooks_31 : decode cX11_allBooks 31 = .ok (.iinc 2 1, 3) := by decide +kernel
theorem dX11_allBooks_34 : decode cX11_allBooks 34 = .ok (.goto (-30), 3) := by decide +kernel
theorem dX11_allBooks_37 : decode cX11_allBooks 37 = .ok (.iload_n 1, 1) := by decide +kernel
theorem dX11_allBooks_38 : decode cX11_allBooks 38 = .ok (.ireturn, 1) := by decide +kernel
theorem dX11_areAsked_0 : decode cX11_areAsked 0 = .ok (.aload_n 0, 1) := by decide +kernel
theorem dX11_areAsked_1 : decode cX11_areAsked 1 = .ok (.iload_n 1, 1) := by decide +kernel
theorem dX11_areAsked_2 : decode cX11_areAsked 2 = .ok (.invokevirtual 282, 3) := by decide +kernel
theorem dX11_areAsked_5 : decode cX11_areAsked 5 = .ok (.ifCond .eq 23, 3) := by decide +kernel
theorem dX11_areAsked_28 : decode cX11_areAsked 28 = .ok (.iconst 0, 1) := by decide +kernel
theorem dX11_areAsked_29 : decode cX11_areAsked 29 = .ok (.ireturn, 1) := by decide +kernel
theorem dX11_areGames_0 : decode cX11_areGames 0 = .ok (.iload_n 1, 1) := by decide +kernel
theorem dX11_areGames_1 : decode cX11_areGames 1 = .ok (.iconst 0, 1) := by decide +kernel
theorem dX11_areGames_2 : decode cX11_areGames 2 = .ok (.iconst 3, 1) := by decide +kernel
theorem dX11_areGames_3 : decode cX11_areGames 3 = .ok (.invokestatic 195, 3) := by decide +kernel
theorem dX11_areGames_6 : decode cX11_areGames 6 = .ok (.ifCond .eq 55, 3) := by decide +kernel
theorem dX11_areGames_9 : decode cX11_areGames 9 = .ok (.iload_n 2, 1) := by decide +kernel
theorem dX11_areGames_10 : decode cX11_areGames 10 = .ok (.iconst 0, 1) := by decide +kernel
theorem dX11_areGames_11 : decode cX11_areGames 11 = .ok (.iconst 3, 1) := by decide +kernel
theorem dX11_areGames_12 : decode cX11_areGames 12 = .ok (.invokestatic 195, 3) := by decide +kernel
theorem dX11_areGames_15 : decode cX11_areGames 15 = .ok (.ifCond .eq 46, 3) := by decide +kernel
theorem dX11_areGames_18 : decode cX11_areGames 18 = .ok (.iload_n 3, 1) := by decide +kernel
theorem dX11_areGames_19 : decode cX11_areGames 19 = .ok (.iconst 1, 1) := by decide +kernel
theorem dX11_areGames_20 : decode cX11_areGames 20 = .ok (.bipush 30, 2) := by decide +kernel
theorem dX11_areGames_22 : decode cX11_areGames 22 = .ok (.invokestatic 195, 3) := by decide +kernel
theorem dX11_areGames_25 : decode cX11_areGames 25 = .ok (.ifCond .eq 36, 3) := by decide +kernel
theorem dX11_areGames_28 : decode cX11_areGames 28 = .ok (.aload_n 0, 1) := by decide +kernel
theorem dX11_areGames_29 : decode cX11_areGames 29 = .ok (.getfield 33, 3) := by decide +kernel
theorem dX11_areGames_32 : decode cX11_areGames 32 = .ok (.iconst 1, 1) := by decide +kernel
theorem dX11_areGames_33 : decode cX11_areGames 33 = .ok (.iaload, 1) := by decide +kernel
theorem dX11_areGames_34 : decode cX11_areGames 34 = .ok (.iconst 1, 1) := by decide +kernel
theorem dX11_areGames_35 : decode cX11_areGames 35 = .ok (.if_icmp .le 26, 3) := by decide +kernel
theorem dX11_areGames_61 : decode cX11_areGames 61 = .ok (.iconst 0, 1) := by decide +kernel
theorem dX11_areGames_62 : decode cX11_areGames 62 = .ok (.ireturn, 1) := by decide +kernel
theorem dX11_ask_0 : decode cX11_ask 0 = .ok (.aload_n 0, 1) := by decide +kernel
theorem dX11_ask_1 : decode cX11_ask 1 = .ok (.iconst 0, 1) := by decide +kernel
theorem dX11_ask_2 : decode cX11_ask 2 = .ok (.putfield 1, 3) := by decide +kernel
theorem dX11_ask_5 : decode cX11_ask 5 = .ok (.aload_n 0, 1) := by decide +kernel
theorem dX11_ask_6 : decode cX11_ask 6 = .ok (.iload_n 1, 1) := by decide +kernel
theorem dX11_ask_7 : decode cX11_ask 7 = .ok (.iload_n 2, 1) := by decide +kernel
theorem dX11_ask_8 : decode cX11_ask 8 = .ok (.iload_n 3, 1) := by decide +kernel
theorem dX11_ask_9 : decode cX11_ask 9 = .ok (.invokevirtual 298, 3) := by decide +kernel
theorem dX11_ask_12 : decode cX11_ask 12 = .ok (.ifCond .eq 13, 3) := by decide +kernel
theorem dX11_ask_25 : decode cX11_ask 25 = .ok (.iconst (-1), 1) := by decide +kernel
theorem dX11_ask_26 : decode cX11_ask 26 = .ok (.ireturn, 1) := by decide +kernel
theorem dX11_asked_0 : decode cX11_asked 0 = .ok (.aload_n 0, 1) := by decide +kernel
theorem dX11_asked_1 : decode cX11_asked 1 = .ok (.iconst 0, 1) := by decide +kernel
theorem dX11_asked_2 : decode cX11_asked 2 = .ok (.putfield 1, 3) := by decide +kernel
theorem dX11_asked_5 : decode cX11_asked 5 = .ok (.aload_n 0, 1) := by decide +kernel
theorem dX11_asked_6 : decode cX11_asked 6 = .ok (.getfield 310, 3) := by decide +kernel
theorem dX11_asked_9 : decode cX11_asked 9 = .ok (.ifCond .eq 22, 3) := by decide +kernel
theorem dX11_asked_31 : decode cX11_asked 31 = .ok (.iconst (-1), 1) := by decide +kernel
theorem dX11_asked_32 : decode cX11_asked 32 = .ok (.ireturn, 1) := by decide +kernel
theorem dX11_bad_0 : decode cX11_bad 0 = .ok (.aload_n 0, 1) := by decide +kernel
theorem dX11_bad_1 : decode cX11_bad 1 = .ok (.iload_n 1, 1) := by decide +kernel
theorem dX11_bad_2 : decode cX11_bad 2 = .ok (.putfield 180, 3) := by decide +kernel
theorem dX11_bad_5 : decode cX11_bad 5 = .ok (.aload_n 0, 1) := by decide +kernel
theorem dX11_bad_6 : decode cX11_bad 6 = .ok (.aload_n 0, 1) := by decide +kernel
theorem dX11_bad_7 : decode cX11_bad 7 = .ok (.getfield 157, 3) := by decide +kernel
theorem dX11_bad_10 : decode cX11_bad 10 = .ok (.putfield 183, 3) := by decide +kernel
theorem dX11_bad_13 : decode cX11_bad 13 = .ok (.iconst 0, 1) := by decide +kernel
theorem dX11_bad_14 : decode cX11_bad 14 = .ok (.ireturn, 1) := by decide +kernel
theorem dX11_begins_0 : decode cX11_begins 0 = .ok (.iconst 0, 1) := by decide +kernel
theorem dX11_begins_1 : decode cX11_begins 1 = .ok (.istore_n 1, 1) := by decide +kernel
theorem dX11_begins_2 : decode cX11_begins 2 = .ok (.iload_n 1, 1) := by decide +kernel
theorem dX11_begins_3 : decode cX11_begins 3 = .ok (.aload_n 0, 1) := by decide +kernel
theorem dX11_begins_4 : decode cX11_begins 4 = .ok (.getfield 33, 3) := by decide +kernel
theorem dX11_begins_7 : decode cX11_begins 7 = .ok (.iconst 1, 1) := by decide +kernel
theorem dX11_begins_8 : decode cX11_begins 8 = .ok (.iaload, 1) := by decide +kernel
theorem dX11_begins_9 : decode cX11_begins 9 = .ok (.if_icmp .ge 34, 3) := by decide +kernel
theorem dX11_begins_43 : decode cX11_begins 43 = .ok (.iconst 0, 1) := by decide +kernel
theorem dX11_begins_44 : decode cX11_begins 44 = .ok (.istore_n 1, 1) := by decide +kernel
theorem dX11_begins_45 : decode cX11_begins 45 = .ok (.iload_n 1, 1) := by decide +kernel
theorem dX11_begins_46 : decode cX11_begins 46 = .ok (.aload_n 0, 1) := by decide +kernel
theorem dX11_begins_47 : decode cX11_begins 47 = .ok (.getfield 33, 3) := by decide +kernel
theorem dX11_begins_50 : decode cX11_begins 50 = .ok (.iconst 1, 1) := by decide +kernel
theorem dX11_begins_51 : decode cX11_begins 51 = .ok (.iaload, 1) := by decide +kernel
theorem dX11_begins_52 : decode cX11_begins 52 = .ok (.if_icmp .ge 34, 3) := by decide +kernel
theorem dX11_begins_86 : decode cX11_begins 86 = .ok (.aload_n 0, 1) := by decide +kernel
theorem dX11_begins_87 : decode cX11_begins 87 = .ok (.iconst 0, 1) := by decide +kernel
theorem dX11_begins_88 : decode cX11_begins 88 = .ok (.invokevirtual 279, 3) := by decide +kernel
theorem dX11_begins_91 : decode cX11_begins 91 = .ok (.return_, 1) := by decide +kernel
theorem dX11_bent_0 : decode cX11_bent 0 = .ok (.aload_n 0, 1) := by decide +kernel
theorem dX11_bent_1 : decode cX11_bent 1 = .ok (.iconst 0, 1) := by decide +kernel
theorem dX11_bent_2 : decode cX11_bent 2 = .ok (.putfield 1, 3) := by decide +kernel
theorem dX11_bent_5 : decode cX11_bent 5 = .ok (.aload_n 0, 1) := by decide +kernel
theorem dX11_bent_6 : decode cX11_bent 6 = .ok (.iload_n 1, 1) := by decide +kernel
theorem dX11_bent_7 : decode cX11_bent 7 = .ok (.invokevirtual 282, 3) := by decide +kernel
theorem dX11_bent_10 : decode cX11_bent 10 = .ok (.ifCond .eq 21, 3) := by decide +kernel
theorem dX11_bent_31 : decode cX11_bent 31 = .ok (.iconst (-1), 1) := by decide +kernel
theorem dX11_bent_32 : decode cX11_bent 32 = .ok (.ireturn, 1) := by decide +kernel
theorem dX11_book_0 : decode cX11_book 0 = .ok (.aload_n 0, 1) := by decide +kernel
theorem dX11_book_1 : decode cX11_book 1 = .ok (.iconst 0, 1) := by decide +kernel
theorem dX11_book_2 : decode cX11_book 2 = .ok (.putfield 1, 3) := by decide +kernel
theorem dX11_book_5 : decode cX11_book 5 = .ok (.aload_n 0, 1) := by decide +kernel
theorem dX11_book_6 : decode cX11_book 6 = .ok (.iload_n 1, 1) := by decide +kernel
theorem dX11_book_7 : decode cX11_book 7 = .ok (.invokevirtual 285, 3) := by decide +kernel
theorem dX11_book_10 : decode cX11_book 10 = .ok (.ifCond .eq 18, 3) := by decide +kernel
theorem dX11_book_28 : decode cX11_book 28 = .ok (.iconst (-1), 1) := by decide +kernel
theorem dX11_book_29 : decode cX11_book 29 = .ok (.ireturn, 1) := by decide +kernel
theorem dX11_can_0 : decode cX11_can 0 = .ok (.aload_n 0, 1) := by decide +kernel
theorem dX11_can_1 : decode cX11_can 1 = .ok (.iconst 0, 1) := by decide +kernel
theorem dX11_can_2 : decode cX11_can 2 = .ok (.putfield 1, 3) := by decide +kernel
theorem dX11_can_5 : decode cX11_can 5 = .ok (.aload_n 0, 1) := by decide +kernel
theorem dX11_can_6 : decode cX11_can 6 = .ok (.iload_n 1, 1) := by decide +kernel
theorem dX11_can_7 : decode cX11_can 7 = .ok (.invokevirtual 282, 3) := by decide +kernel
theorem dX11_can_10 : decode cX11_can 10 = .ok (.ifCond .eq 11, 3) := by decide +kernel
theorem dX11_can_21 : decode cX11_can 21 = .ok (.iconst (-1), 1) := by decide +kernel
theorem dX11_can_22 : decode cX11_can 22 = .ok (.ireturn, 1) := by decide +kernel
theorem dX11_count_0 : decode cX11_count 0 = .ok (.aload_n 0, 1) := by decide +kernel
theorem dX11_count_1 : decode cX11_count 1 = .ok (.iconst 0, 1) := by decide +kernel
theorem dX11_count_2 : decode cX11_count 2 = .ok (.putfield 1, 3) := by decide +kernel
theorem dX11_count_5 : decode cX11_count 5 = .ok (.iload_n 1, 1) := by decide +kernel
theorem dX11_count_6 : decode cX11_count 6 = .ok (.iconst 4, 1) := by decide +kernel
theorem dX11_count_7 : decode cX11_count 7 = .ok (.if_icmp .ne 10, 3) := by decide +kernel
theorem dX11_count_10 : decode cX11_count 10 = .ok (.aload_n 0, 1) := by decide +kernel
theorem dX11_count_11 : decode cX11_count 11 = .ok (.getfield 7, 3) := by decide +kernel
theorem dX11_count_14 : decode cX11_count 14 = .ok (.goto 22, 3) := by decide +kernel
theorem dX11_count_17 : decode cX11_count 17 = .ok (.iload_n 1, 1) := by decide +kernel
theorem dX11_count_18 : decode cX11_count 18 = .ok (.iconst 0, 1) := by decide +kernel
theorem dX11_count_19 : decode cX11_count 19 = .ok (.iconst 3, 1) := by decide +kernel
theorem dX11_count_20 : decode cX11_count 20 = .ok (.invokestatic 195, 3) := by decide +kernel
theorem dX11_count_23 : decode cX11_count 23 = .ok (.ifCond .eq 12, 3) := by decide +kernel
theorem dX11_count_26 : decode cX11_count 26 = .ok (.aload_n 0, 1) := by decide +kernel
theorem dX11_count_27 : decode cX11_count 27 = .ok (.getfield 33, 3) := by decide +kernel
theorem dX11_count_30 : decode cX11_count 30 = .ok (.iload_n 1, 1) := by decide +kernel
theorem dX11_count_31 : decode cX11_count 31 = .ok (.iaload, 1) := by decide +kernel
theorem dX11_count_32 : decode cX11_count 32 = .ok (.goto 4, 3) := by decide +kernel
theorem dX11_count_35 : decode cX11_count 35 = .ok (.iconst (-1), 1) := by decide +kernel
theorem dX11_count_36 : decode cX11_count 36 = .ok (.ireturn, 1) := by decide +kernel
theorem dX11_deal_0 : decode cX11_deal 0 = .ok (.aload_n 0, 1) := by decide +kernel
theorem dX11_deal_1 : decode cX11_deal 1 = .ok (.iconst 0, 1) := by decide +kernel
theorem dX11_deal_2 : decode cX11_deal 2 = .ok (.putfield 1, 3) := by decide +kernel
theorem dX11_deal_5 : decode cX11_deal 5 = .ok (.iload_n 1, 1) := by decide +kernel
theorem dX11_deal_6 : decode cX11_deal 6 = .ok (.iconst 1, 1) := by decide +kernel
theorem dX11_deal_7 : decode cX11_deal 7 = .ok (.bipush 9, 2) := by decide +kernel
theorem dX11_deal_9 : decode cX11_deal 9 = .ok (.invokestatic 195, 3) := by decide +kernel
theorem dX11_deal_12 : decode cX11_deal 12 = .ok (.ifCond .eq 40, 3) := by decide +kernel
theorem dX11_deal_15 : decode cX11_deal 15 = .ok (.aload_n 0, 1) := by decide +kernel
theorem dX11_deal_16 : decode cX11_deal 16 = .ok (.getfield 33, 3) := by decide +kernel
theorem dX11_deal_19 : decode cX11_deal 19 = .ok (.iconst 1, 1) := by decide +kernel
theorem dX11_deal_20 : decode cX11_deal 20 = .ok (.iaload, 1) := by decide +kernel
theorem dX11_deal_21 : decode cX11_deal 21 = .ok (.ifCond .eq 31, 3) := by decide +kernel
theorem dX11_deal_52 : decode cX11_deal 52 = .ok (.iconst 0, 1) := by decide +kernel
theorem dX11_deal_53 : decode cX11_deal 53 = .ok (.ireturn, 1) := by decide +kernel
theorem dX11_end_0 : decode cX11_end 0 = .ok (.aload_n 0, 1) := by decide +kernel
theorem dX11_end_1 : decode cX11_end 1 = .ok (.iconst 0, 1) := by decide +kernel
theorem dX11_end_2 : decode cX11_end 2 = .ok (.putfield 1, 3) := by decide +kernel
theorem dX11_end_5 : decode cX11_end 5 = .ok (.iload_n 1, 1) := by decide +kernel
theorem dX11_end_6 : decode cX11_end 6 = .ok (.ifCond .lt 11, 3) := by decide +kernel
theorem dX11_end_9 : decode cX11_end 9 = .ok (.iload_n 1, 1) := by decide +kernel
theorem dX11_end_10 : decode cX11_end 10 = .ok (.aload_n 0, 1) := by decide +kernel
theorem dX11_end_11 : decode cX11_end 11 = .ok (.getfield 7, 3) := by decide +kernel
theorem dX11_end_14 : decode cX11_end 14 = .ok (.if_icmp .le 5, 3) := by decide +kernel
theorem dX11_end_17 : decode cX11_end 17 = .ok (.iconst 0, 1) := by decide +kernel
theorem dX11_end_18 : decode cX11_end 18 = .ok (.ireturn, 1) := by decide +kernel
theorem dX11_end_19 : decode cX11_end 19 = .ok (.aload_n 0, 1) := by decide +kernel
theorem dX11_end_20 : decode cX11_end 20 = .ok (.iload_n 1, 1) := by decide +kernel
theorem dX11_end_21 : decode cX11_end 21 = .ok (.putfield 7, 3) := by decide +kernel
theorem dX11_end_24 : decode cX11_end 24 = .ok (.iconst 1, 1) := by decide +kernel
theorem dX11_end_25 : decode cX11_end 25 = .ok (.ireturn, 1) := by decide +kernel
theorem dX11_fault_0 : decode cX11_fault 0 = .ok (.aload_n 0, 1) := by decide +kernel
theorem dX11_fault_1 : decode cX11_fault 1 = .ok (.iconst 0, 1) := by decide +kernel
theorem dX11_fault_2 : decode cX11_fault 2 = .ok (.putfield 1, 3) := by decide +kernel
theorem dX11_fault_5 : decode cX11_fault 5 = .ok (.aload_n 0, 1) := by decide +kernel
theorem dX11_fault_6 : decode cX11_fault 6 = .ok (.getfield 180, 3) := by decide +kernel
theorem dX11_fault_9 : decode cX11_fault 9 = .ok (.ireturn, 1) := by decide +kernel
theorem dX11_feed_0 : decode cX11_feed 0 = .ok (.aload_n 0, 1) := by decide +kernel
theorem dX11_feed_1 : decode cX11_feed 1 = .ok (.iconst 0, 1) := by decide +kernel
theorem dX11_feed_2 : decode cX11_feed 2 = .ok (.putfield 1, 3) := by decide +kernel
theorem dX11_feed_5 : decode cX11_feed 5 = .ok (.aload_n 0, 1) := by decide +kernel
theorem dX11_feed_6 : decode cX11_feed 6 = .ok (.getfield 7, 3) := by decide +kernel
theorem dX11_feed_9 : decode cX11_feed 9 = .ok (.bipush 20, 2) := by decide +kernel
theorem dX11_feed_11 : decode cX11_feed 11 = .ok (.iadd, 1) := by decide +kernel
theorem dX11_feed_12 : decode cX11_feed 12 = .ok (.sipush 940, 3) := by decide +kernel
theorem dX11_feed_15 : decode cX11_feed 15 = .ok (.if_icmp .le 5, 3) := by decide +kernel
theorem dX11_feed_20 : decode cX11_feed 20 = .ok (.aload_n 0, 1) := by decide +kernel
theorem dX11_feed_21 : decode cX11_feed 21 = .ok (.iload_n 1, 1) := by decide +kernel
theorem dX11_feed_22 : decode cX11_feed 22 = .ok (.invokevirtual 10, 3) := by decide +kernel
theorem dX11_feed_25 : decode cX11_feed 25 = .ok (.aload_n 0, 1) := by decide +kernel
theorem dX11_feed_26 : decode cX11_feed 26 = .ok (.iload_n 2, 1) := by decide +kernel
theorem dX11_feed_27 : decode cX11_feed 27 = .ok (.invokevirtual 10, 3) := by decide +kernel
theorem dX11_feed_30 : decode cX11_feed 30 = .ok (.aload_n 0, 1) := by decide +kernel
theorem dX11_feed_31 : decode cX11_feed 31 = .ok (.iload_n 3, 1) := by decide +kernel
theorem dX11_feed_32 : decode cX11_feed 32 = .ok (.invokevirtual 10, 3) := by decide +kernel
theorem dX11_feed_35 : decode cX11_feed 35 = .ok (.aload_n 0, 1) := by decide +kernel
theorem dX11_feed_36 : decode cX11_feed 36 = .ok (.iload 4, 2) := by decide +kernel
theorem dX11_feed_38 : decode cX11_feed 38 = .ok (.invokevirtual 10, 3) := by decide +kernel
theorem dX11_feed_41 : decode cX11_feed 41 = .ok (.aload_n 0, 1) := by decide +kernel
theorem dX11_feed_42 : decode cX11_feed 42 = .ok (.iload 5, 2) := by decide +kernel
theorem dX11_feed_44 : decode cX11_feed 44 = .ok (.invokevirtual 10, 3) := by decide +kernel
theorem dX11_feed_47 : decode cX11_feed 47 = .ok (.aload_n 0, 1) := by decide +kernel
theorem dX11_feed_48 : decode cX11_feed 48 = .ok (.getfield 7, 3) := by decide +kernel
theorem dX11_feed_51 : decode cX11_feed 51 = .ok (.ireturn, 1) := by decide +kernel
theorem dX11_first_0 : decode cX11_first 0 = .ok (.aload_n 0, 1) := by decide +kernel
theorem dX11_first_1 : decode cX11_first 1 = .ok (.iconst 0, 1) := by decide +kernel
theorem dX11_first_2 : decode cX11_first 2 = .ok (.putfield 1, 3) := by decide +kernel
theorem dX11_first_5 : decode cX11_first 5 = .ok (.aload_n 0, 1) := by decide +kernel
theorem dX11_first_6 : decode cX11_first 6 = .ok (.invokevirtual 397, 3) := by decide +kernel
theorem dX11_first_9 : decode cX11_first 9 = .ok (.bipush (-101), 2) := by decide +kernel
theorem dX11_first_11 : decode cX11_first 11 = .ok (.if_icmp .ne 7, 3) := by decide +kernel
theorem dX11_first_14 : decode cX11_first 14 = .ok (.iconst (-1), 1) := by decide +kernel
theorem dX11_first_15 : decode cX11_first 15 = .ok (.goto 7, 3) := by decide +kernel
theorem dX11_first_22 : decode cX11_first 22 = .ok (.ireturn, 1) := by decide +kernel
theorem dX11_four_0 : decode cX11_four 0 = .ok (.bipush 24, 2) := by decide +kernel
theorem dX11_four_2 : decode cX11_four 2 = .ok (.istore_n 2, 1) := by decide +kernel
theorem dX11_four_3 : decode cX11_four 3 = .ok (.iload_n 2, 1) := by decide +kernel
theorem dX11_four_4 : decode cX11_four 4 = .ok (.ifCond .lt 32, 3) := by decide +kernel
theorem dX11_four_7 : decode cX11_four 7 = .ok (.aload_n 0, 1) := by decide +kernel
theorem dX11_four_8 : decode cX11_four 8 = .ok (.getfield 14, 3) := by decide +kernel
theorem dX11_four_11 : decode cX11_four 11 = .ok (.aload_n 0, 1) := by decide +kernel
theorem dX11_four_12 : decode cX11_four 12 = .ok (.getfield 7, 3) := by decide +kernel
theorem dX11_four_15 : decode cX11_four 15 = .ok (.iload_n 1, 1) := by decide +kernel
theorem dX11_four_16 : decode cX11_four 16 = .ok (.iload_n 2, 1) := by decide +kernel
theorem dX11_four_17 : decode cX11_four 17 = .ok (.ishr, 1) := by decide +kernel
theorem dX11_four_18 : decode cX11_four 18 = .ok (.i2b, 1) := by decide +kernel
theorem dX11_four_19 : decode cX11_four 19 = .ok (.bastore, 1) := by decide +kernel
theorem dX11_four_20 : decode cX11_four 20 = .ok (.aload_n 0, 1) := by decide +kernel
theorem dX11_four_21 : decode cX11_four 21 = .ok (.dup, 1) := by decide +kernel
theorem dX11_four_22 : decode cX11_four 22 = .ok (.getfield 7, 3) := by decide +kernel
theorem dX11_four_25 : decode cX11_four 25 = .ok (.iconst 1, 1) := by decide +kernel
theorem dX11_four_26 : decode cX11_four 26 = .ok (.iadd, 1) := by decide +kernel
theorem dX11_four_27 : decode cX11_four 27 = .ok (.putfield 7, 3) := by decide +kernel
theorem dX11_four_30 : decode cX11_four 30 = .ok (.iinc 2 (-8), 3) := by decide +kernel
theorem dX11_four_33 : decode cX11_four 33 = .ok (.goto (-30), 3) := by decide +kernel
theorem dX11_four_36 : decode cX11_four 36 = .ok (.return_, 1) := by decide +kernel
theorem dX11_gains_0 : decode cX11_gains 0 = .ok (.aload_n 0, 1) := by decide +kernel
theorem dX11_gains_1 : decode cX11_gains 1 = .ok (.iconst 0, 1) := by decide +kernel
theorem dX11_gains_2 : decode cX11_gains 2 = .ok (.putfield 1, 3) := by decide +kernel
theorem dX11_gains_5 : decode cX11_gains 5 = .ok (.aload_n 0, 1) := by decide +kernel
theorem dX11_gains_6 : decode cX11_gains 6 = .ok (.iload_n 1, 1) := by decide +kernel
theorem dX11_gains_7 : decode cX11_gains 7 = .ok (.invokevirtual 282, 3) := by decide +kernel
theorem dX11_gains_10 : decode cX11_gains 10 = .ok (.ifCond .ne 5, 3) := by decide +kernel
theorem dX11_gains_13 : decode cX11_gains 13 = .ok (.iconst (-1), 1) := by decide +kernel
theorem dX11_gains_14 : decode cX11_gains 14 = .ok (.ireturn, 1) := by decide +kernel
theorem dX11_games_0 : decode cX11_games 0 = .ok (.aload_n 0, 1) := by decide +kernel
theorem dX11_games_1 : decode cX11_games 1 = .ok (.iconst 0, 1) := by decide +kernel
theorem dX11_games_2 : decode cX11_games 2 = .ok (.putfield 1, 3) := by decide +kernel
theorem dX11_games_5 : decode cX11_games 5 = .ok (.aload_n 0, 1) := by decide +kernel
theorem dX11_games_6 : decode cX11_games 6 = .ok (.iload_n 1, 1) := by decide +kernel
theorem dX11_games_7 : decode cX11_games 7 = .ok (.iload_n 2, 1) := by decide +kernel
theorem dX11_games_8 : decode cX11_games 8 = .ok (.iload_n 3, 1) := by decide +kernel
theorem dX11_games_9 : decode cX11_games 9 = .ok (.invokevirtual 432, 3) := by decide +kernel
theorem dX11_games_12 : decode cX11_games 12 = .ok (.ifCond .eq 15, 3) := by decide +kernel
theorem dX11_games_27 : decode cX11_games 27 = .ok (.iconst (-1), 1) := by decide +kernel
theorem dX11_games_28 : decode cX11_games 28 = .ok (.ireturn, 1) := by decide +kernel
theorem dX11_hand_0 : decode cX11_hand 0 = .ok (.aload_n 0, 1) := by decide +kernel
theorem dX11_hand_1 : decode cX11_hand 1 = .ok (.aload_n 0, 1) := by decide +kernel
theorem dX11_hand_2 : decode cX11_hand 2 = .ok (.iload_n 1, 1) := by decide +kernel
theorem dX11_hand_3 : decode cX11_hand 3 = .ok (.invokevirtual 282, 3) := by decide +kernel
theorem dX11_hand_6 : decode cX11_hand 6 = .ok (.ifCond .eq 11, 3) := by decide +kernel
theorem dX11_hand_17 : decode cX11_hand 17 = .ok (.iconst 1, 1) := by decide +kernel
theorem dX11_hand_18 : decode cX11_hand 18 = .ok (.goto 4, 3) := by decide +kernel
theorem dX11_hand_22 : decode cX11_hand 22 = .ok (.invokevirtual 288, 3) := by decide +kernel
theorem dX11_hand_25 : decode cX11_hand 25 = .ok (.ifCond .eq 7, 3) := by decide +kernel
theorem dX11_hand_28 : decode cX11_hand 28 = .ok (.iconst 0, 1) := by decide +kernel
theorem dX11_hand_29 : decode cX11_hand 29 = .ok (.goto 10, 3) := by decide +kernel
theorem dX11_hand_39 : decode cX11_hand 39 = .ok (.ireturn, 1) := by decide +kernel
theorem dX11_heap_0 : decode cX11_heap 0 = .ok (.aload_n 0, 1) := by decide +kernel
theorem dX11_heap_1 : decode cX11_heap 1 = .ok (.iconst 0, 1) := by decide +kernel
theorem dX11_heap_2 : decode cX11_heap 2 = .ok (.putfield 1, 3) := by decide +kernel
theorem dX11_heap_5 : decode cX11_heap 5 = .ok (.iload_n 1, 1) := by decide +kernel
theorem dX11_heap_6 : decode cX11_heap 6 = .ok (.iconst 0, 1) := by decide +kernel
theorem dX11_heap_7 : decode cX11_heap 7 = .ok (.aload_n 0, 1) := by decide +kernel
theorem dX11_heap_8 : decode cX11_heap 8 = .ok (.getfield 33, 3) := by decide +kernel
theorem dX11_heap_11 : decode cX11_heap 11 = .ok (.bipush 7, 2) := by decide +kernel
theorem dX11_heap_13 : decode cX11_heap 13 = .ok (.iaload, 1) := by decide +kernel
theorem dX11_heap_14 : decode cX11_heap 14 = .ok (.iconst 1, 1) := by decide +kernel
theorem dX11_heap_15 : decode cX11_heap 15 = .ok (.isub, 1) := by decide +kernel
theorem dX11_heap_16 : decode cX11_heap 16 = .ok (.invokestatic 195, 3) := by decide +kernel
theorem dX11_heap_19 : decode cX11_heap 19 = .ok (.ifCond .eq 15, 3) := by decide +kernel
theorem dX11_heap_34 : decode cX11_heap 34 = .ok (.iconst (-1), 1) := by decide +kernel
theorem dX11_heap_35 : decode cX11_heap 35 = .ok (.ireturn, 1) := by decide +kernel
theorem dX11_heard_0 : decode cX11_heard 0 = .ok (.aload_n 0, 1) := by decide +kernel
theorem dX11_heard_1 : decode cX11_heard 1 = .ok (.iconst 0, 1) := by decide +kernel
theorem dX11_heard_2 : decode cX11_heard 2 = .ok (.putfield 1, 3) := by decide +kernel
theorem dX11_heard_5 : decode cX11_heard 5 = .ok (.aload_n 0, 1) := by decide +kernel
theorem dX11_heard_6 : decode cX11_heard 6 = .ok (.getfield 445, 3) := by decide +kernel
theorem dX11_heard_9 : decode cX11_heard 9 = .ok (.ifCond .eq 21, 3) := by decide +kernel
theorem dX11_heard_30 : decode cX11_heard 30 = .ok (.iconst (-1), 1) := by decide +kernel
theorem dX11_heard_31 : decode cX11_heard 31 = .ok (.ireturn, 1) := by decide +kernel
theorem dX11_isIn_0 : decode cX11_isIn 0 = .ok (.iload_n 0, 1) := by decide +kernel
theorem dX11_isIn_1 : decode cX11_isIn 1 = .ok (.iload_n 1, 1) := by decide +kernel
theorem dX11_isIn_2 : decode cX11_isIn 2 = .ok (.if_icmp .lt 12, 3) := by decide +kernel
theorem dX11_isIn_5 : decode cX11_isIn 5 = .ok (.iload_n 0, 1) := by decide +kernel
theorem dX11_isIn_6 : decode cX11_isIn 6 = .ok (.iload_n 2, 1) := by decide +kernel
theorem dX11_isIn_7 : decode cX11_isIn 7 = .ok (.if_icmp .gt 7, 3) := by decide +kernel
theorem dX11_isIn_10 : decode cX11_isIn 10 = .ok (.iconst 1, 1) := by decide +kernel
theorem dX11_isIn_11 : decode cX11_isIn 11 = .ok (.goto 4, 3) := by decide +kernel
theorem dX11_isIn_14 : decode cX11_isIn 14 = .ok (.iconst 0, 1) := by decide +kernel
theorem dX11_isIn_15 : decode cX11_isIn 15 = .ok (.ireturn, 1) := by decide +kernel
theorem dX11_isKind_0 : decode cX11_isKind 0 = .ok (.iload_n 1, 1) := by decide +kernel
theorem dX11_isKind_1 : decode cX11_isKind 1 = .ok (.iconst 0, 1) := by decide +kernel
theorem dX11_isKind_2 : decode cX11_isKind 2 = .ok (.aload_n 0, 1) := by decide +kernel
theorem dX11_isKind_3 : decode cX11_isKind 3 = .ok (.getfield 33, 3) := by decide +kernel
theorem dX11_isKind_6 : decode cX11_isKind 6 = .ok (.iconst 0, 1) := by decide +kernel
theorem dX11_isKind_7 : decode cX11_isKind 7 = .ok (.iaload, 1) := by decide +kernel
theorem dX11_isKind_8 : decode cX11_isKind 8 = .ok (.iconst 1, 1) := by decide +kernel
theorem dX11_isKind_9 : decode cX11_isKind 9 = .ok (.isub, 1) := by decide +kernel
theorem dX11_isKind_10 : decode cX11_isKind 10 = .ok (.invokestatic 195, 3) := by decide +kernel
theorem dX11_isKind_13 : decode cX11_isKind 13 = .ok (.ireturn, 1) := by decide +kernel
theorem dX11_isPerson_0 : decode cX11_isPerson 0 = .ok (.iload_n 1, 1) := by decide +kernel
theorem dX11_isPerson_1 : decode cX11_isPerson 1 = .ok (.iconst 0, 1) := by decide +kernel
theorem dX11_isPerson_2 : decode cX11_isPerson 2 = .ok (.aload_n 0, 1) := by decide +kernel
theorem dX11_isPerson_3 : decode cX11_isPerson 3 = .ok (.getfield 33, 3) := by decide +kernel
theorem dX11_isPerson_6 : decode cX11_isPerson 6 = .ok (.iconst 1, 1) := by decide +kernel
theorem dX11_isPerson_7 : decode cX11_isPerson 7 = .ok (.iaload, 1) := by decide +kernel
theorem dX11_isPerson_8 : decode cX11_isPerson 8 = .ok (.iconst 1, 1) := by decide +kernel
theorem dX11_isPerson_9 : decode cX11_isPerson 9 = .ok (.isub, 1) := by decide +kernel
theorem dX11_isPerson_10 : decode cX11_isPerson 10 = .ok (.invokestatic 195, 3) := by decide +kernel
theorem dX11_isPerson_13 : decode cX11_isPerson 13 = .ok (.ireturn, 1) := by decide +kernel
theorem dX11_isSign_0 : decode cX11_isSign 0 = .ok (.aload_n 0, 1) := by decide +kernel
theorem dX11_isSign_1 : decode cX11_isSign 1 = .ok (.getfield 163, 3) := by decide +kernel
theorem dX11_isSign_4 : decode cX11_isSign 4 = .ok (.iconst 3, 1) := by decide +kernel
theorem dX11_isSign_5 : decode cX11_isSign 5 = .ok (.if_icmp .ne 15, 3) := by decide +kernel
theorem dX11_isSign_20 : decode cX11_isSign 20 = .ok (.iconst 0, 1) := by decide +kernel
theorem dX11_isSign_21 : decode cX11_isSign 21 = .ok (.ireturn, 1) := by decide +kernel
theorem dX11_isWord_0 : decode cX11_isWord 0 = .ok (.aload_n 0, 1) := by decide +kernel
theorem dX11_isWord_1 : decode cX11_isWord 1 = .ok (.getfield 163, 3) := by decide +kernel
theorem dX11_isWord_4 : decode cX11_isWord 4 = .ok (.iconst 1, 1) := by decide +kernel
theorem dX11_isWord_5 : decode cX11_isWord 5 = .ok (.if_icmp .ne 16, 3) := by decide +kernel
theorem dX11_isWord_21 : decode cX11_isWord 21 = .ok (.iconst 0, 1) := by decide +kernel
theorem dX11_isWord_22 : decode cX11_isWord 22 = .ok (.ireturn, 1) := by decide +kernel
theorem dX11_known_0 : decode cX11_known 0 = .ok (.aload_n 0, 1) := by decide +kernel
theorem dX11_known_1 : decode cX11_known 1 = .ok (.iconst 0, 1) := by decide +kernel
theorem dX11_known_2 : decode cX11_known 2 = .ok (.putfield 1, 3) := by decide +kernel
theorem dX11_known_5 : decode cX11_known 5 = .ok (.aload_n 0, 1) := by decide +kernel
theorem dX11_known_6 : decode cX11_known 6 = .ok (.iload_n 1, 1) := by decide +kernel
theorem dX11_known_7 : decode cX11_known 7 = .ok (.invokevirtual 282, 3) := by decide +kernel
theorem dX11_known_10 : decode cX11_known 10 = .ok (.ifCond .eq 29, 3) := by decide +kernel
theorem dX11_known_39 : decode cX11_known 39 = .ok (.iconst (-1), 1) := by decide +kernel
theorem dX11_known_40 : decode cX11_known 40 = .ok (.ireturn, 1) := by decide +kernel
theorem dX11_leader_0 : decode cX11_leader 0 = .ok (.aload_n 0, 1) := by decide +kernel
theorem dX11_leader_1 : decode cX11_leader 1 = .ok (.iconst 0, 1) := by decide +kernel
theorem dX11_leader_2 : decode cX11_leader 2 = .ok (.putfield 1, 3) := by decide +kernel
theorem dX11_leader_5 : decode cX11_leader 5 = .ok (.iconst (-1), 1) := by decide +kernel
theorem dX11_leader_6 : decode cX11_leader 6 = .ok (.istore_n 1, 1) := by decide +kernel
theorem dX11_leader_7 : decode cX11_leader 7 = .ok (.iconst 0, 1) := by decide +kernel
theorem dX11_leader_8 : decode cX11_leader 8 = .ok (.istore_n 2, 1) := by decide +kernel
theorem dX11_leader_9 : decode cX11_leader 9 = .ok (.iload_n 2, 1) := by decide +kernel
theorem dX11_leader_10 : decode cX11_leader 10 = .ok (.aload_n 0, 1) := by decide +kernel
theorem dX11_leader_11 : decode cX11_leader 11 = .ok (.getfield 33, 3) := by decide +kernel
theorem dX11_leader_14 : decode cX11_leader 14 = .ok (.iconst 1, 1) := by decide +kernel
theorem dX11_leader_15 : decode cX11_leader 15 = .ok (.iaload, 1) := by decide +kernel
theorem dX11_leader_16 : decode cX11_leader 16 = .ok (.if_icmp .ge 28, 3) := by decide +kernel
theorem dX11_leader_44 : decode cX11_leader 44 = .ok (.iload_n 1, 1) := by decide +kernel
theorem dX11_leader_45 : decode cX11_leader 45 = .ok (.ireturn, 1) := by decide +kernel
theorem dX11_leafOf_0 : decode cX11_leafOf 0 = .ok (.aload_n 0, 1) := by decide +kernel
theorem dX11_leafOf_1 : decode cX11_leafOf 1 = .ok (.ldc2_w 139, 3) := by decide +kernel
theorem dX11_leafOf_4 : decode cX11_leafOf 4 = .ok (.invokevirtual 202, 3) := by decide +kernel
theorem dX11_leafOf_7 : decode cX11_leafOf 7 = .ok (.ifCond .eq 7, 3) := by decide +kernel
theorem dX11_leafOf_14 : decode cX11_leafOf 14 = .ok (.aload_n 0, 1) := by decide +kernel
theorem dX11_leafOf_15 : decode cX11_leafOf 15 = .ok (.ldc2_w 141, 3) := by decide +kernel
theorem dX11_leafOf_18 : decode cX11_leafOf 18 = .ok (.invokevirtual 202, 3) := by decide +kernel
theorem dX11_leafOf_21 : decode cX11_leafOf 21 = .ok (.ifCond .eq 7, 3) := by decide +kernel
theorem dX11_leafOf_28 : decode cX11_leafOf 28 = .ok (.aload_n 0, 1) := by decide +kernel
theorem dX11_leafOf_29 : decode cX11_leafOf 29 = .ok (.ldc2_w 143, 3) := by decide +kernel
theorem dX11_leafOf_32 : decode cX11_leafOf 32 = .ok (.invokevirtual 202, 3) := by decide +kernel
theorem dX11_leafOf_35 : decode cX11_leafOf 35 = .ok (.ifCond .eq 7, 3) := by decide +kernel
theorem dX11_leafOf_42 : decode cX11_leafOf 42 = .ok (.aload_n 0, 1) := by decide +kernel
theorem dX11_leafOf_43 : decode cX11_leafOf 43 = .ok (.ldc2_w 145, 3) := by decide +kernel
theorem dX11_leafOf_46 : decode cX11_leafOf 46 = .ok (.invokevirtual 202, 3) := by decide +kernel
theorem dX11_leafOf_49 : decode cX11_leafOf 49 = .ok (.ifCond .eq 7, 3) := by decide +kernel
theorem dX11_leafOf_56 : decode cX11_leafOf 56 = .ok (.aload_n 0, 1) := by decide +kernel
theorem dX11_leafOf_57 : decode cX11_leafOf 57 = .ok (.ldc2_w 147, 3) := by decide +kernel
theorem dX11_leafOf_60 : decode cX11_leafOf 60 = .ok (.invokevirtual 202, 3) := by decide +kernel
theorem dX11_leafOf_63 : decode cX11_leafOf 63 = .ok (.ifCond .eq 7, 3) := by decide +kernel
theorem dX11_leafOf_70 : decode cX11_leafOf 70 = .ok (.aload_n 0, 1) := by decide +kernel
theorem dX11_leafOf_71 : decode cX11_leafOf 71 = .ok (.ldc2_w 149, 3) := by decide +kernel
theorem dX11_leafOf_74 : decode cX11_leafOf 74 = .ok (.invokevirtual 202, 3) := by decide +kernel
theorem dX11_leafOf_77 : decode cX11_leafOf 77 = .ok (.ifCond .eq 7, 3) := by decide +kernel
theorem dX11_leafOf_84 : decode cX11_leafOf 84 = .ok (.aload_n 0, 1) := by decide +kernel
theorem dX11_leafOf_85 : decode cX11_leafOf 85 = .ok (.ldc2_w 151, 3) := by decide +kernel
theorem dX11_leafOf_88 : decode cX11_leafOf 88 = .ok (.invokevirtual 202, 3) := by decide +kernel
theorem dX11_leafOf_91 : decode cX11_leafOf 91 = .ok (.ifCond .eq 8, 3) := by decide +kernel
theorem dX11_leafOf_99 : decode cX11_leafOf 99 = .ok (.iconst (-1), 1) := by decide +kernel
theorem dX11_leafOf_100 : decode cX11_leafOf 100 = .ok (.ireturn, 1) := by decide +kernel
theorem dX11_length_0 : decode cX11_length 0 = .ok (.aload_n 0, 1) := by decide +kernel
theorem dX11_length_1 : decode cX11_length 1 = .ok (.iconst 0, 1) := by decide +kernel
theorem dX11_length_2 : decode cX11_length 2 = .ok (.putfield 1, 3) := by decide +kernel
theorem dX11_length_5 : decode cX11_length 5 = .ok (.aload_n 0, 1) := by decide +kernel
theorem dX11_length_6 : decode cX11_length 6 = .ok (.iload_n 1, 1) := by decide +kernel
theorem dX11_length_7 : decode cX11_length 7 = .ok (.iload_n 2, 1) := by decide +kernel
theorem dX11_length_8 : decode cX11_length 8 = .ok (.iload_n 3, 1) := by decide +kernel
theorem dX11_length_9 : decode cX11_length 9 = .ok (.invokevirtual 432, 3) := by decide +kernel
theorem dX11_length_12 : decode cX11_length 12 = .ok (.ifCond .ne 5, 3) := by decide +kernel
theorem dX11_length_15 : decode cX11_length 15 = .ok (.iconst (-1), 1) := by decide +kernel
theorem dX11_length_16 : decode cX11_length 16 = .ok (.ireturn, 1) := by decide +kernel
theorem dX11_next_0 : decode cX11_next 0 = .ok (.aload_n 0, 1) := by decide +kernel
theorem dX11_next_1 : decode cX11_next 1 = .ok (.invokevirtual 153, 3) := by decide +kernel
theorem dX11_next_4 : decode cX11_next 4 = .ok (.bipush 32, 2) := by decide +kernel
theorem dX11_next_6 : decode cX11_next 6 = .ok (.if_icmp .eq 12, 3) := by decide +kernel
theorem dX11_next_9 : decode cX11_next 9 = .ok (.aload_n 0, 1) := by decide +kernel
theorem dX11_next_10 : decode cX11_next 10 = .ok (.invokevirtual 153, 3) := by decide +kernel
theorem dX11_next_13 : decode cX11_next 13 = .ok (.bipush 10, 2) := by decide +kernel
theorem dX11_next_15 : decode cX11_next 15 = .ok (.if_icmp .ne 16, 3) := by decide +kernel
theorem dX11_next_31 : decode cX11_next 31 = .ok (.aload_n 0, 1) := by decide +kernel
theorem dX11_next_32 : decode cX11_next 32 = .ok (.aload_n 0, 1) := by decide +kernel
theorem dX11_next_33 : decode cX11_next 33 = .ok (.getfield 21, 3) := by decide +kernel
theorem dX11_next_36 : decode cX11_next 36 = .ok (.putfield 157, 3) := by decide +kernel
theorem dX11_next_39 : decode cX11_next 39 = .ok (.aload_n 0, 1) := by decide +kernel
theorem dX11_next_40 : decode cX11_next 40 = .ok (.iconst 0, 1) := by decide +kernel
theorem dX11_next_41 : decode cX11_next 41 = .ok (.putfield 160, 3) := by decide +kernel
theorem dX11_next_44 : decode cX11_next 44 = .ok (.aload_n 0, 1) := by decide +kernel
theorem dX11_next_45 : decode cX11_next 45 = .ok (.getfield 18, 3) := by decide +kernel
theorem dX11_next_48 : decode cX11_next 48 = .ok (.aload_n 0, 1) := by decide +kernel
theorem dX11_next_49 : decode cX11_next 49 = .ok (.getfield 24, 3) := by decide +kernel
theorem dX11_next_52 : decode cX11_next 52 = .ok (.if_icmp .le 28, 3) := by decide +kernel
theorem dX11_next_80 : decode cX11_next 80 = .ok (.aload_n 0, 1) := by decide +kernel
theorem dX11_next_81 : decode cX11_next 81 = .ok (.invokevirtual 153, 3) := by decide +kernel
theorem dX11_next_84 : decode cX11_next 84 = .ok (.istore_n 1, 1) := by decide +kernel
theorem dX11_next_85 : decode cX11_next 85 = .ok (.iload_n 1, 1) := by decide +kernel
theorem dX11_next_86 : decode cX11_next 86 = .ok (.ifCond .ge 9, 3) := by decide +kernel
theorem dX11_next_89 : decode cX11_next 89 = .ok (.aload_n 0, 1) := by decide +kernel
theorem dX11_next_90 : decode cX11_next 90 = .ok (.iconst 0, 1) := by decide +kernel
theorem dX11_next_91 : decode cX11_next 91 = .ok (.putfield 163, 3) := by decide +kernel
theorem dX11_next_94 : decode cX11_next 94 = .ok (.return_, 1) := by decide +kernel
theorem dX11_next__0 : decode cX11_next_ 0 = .ok (.aload_n 0, 1) := by decide +kernel
theorem dX11_next__1 : decode cX11_next_ 1 = .ok (.aload_n 0, 1) := by decide +kernel
theorem dX11_next__2 : decode cX11_next_ 2 = .ok (.iload_n 1, 1) := by decide +kernel
theorem dX11_next__3 : decode cX11_next_ 3 = .ok (.invokevirtual 282, 3) := by decide +kernel
theorem dX11_next__6 : decode cX11_next_ 6 = .ok (.ifCond .eq 38, 3) := by decide +kernel
theorem dX11_next__44 : decode cX11_next_ 44 = .ok (.iconst 1, 1) := by decide +kernel
theorem dX11_next__45 : decode cX11_next_ 45 = .ok (.goto 4, 3) := by decide +kernel
theorem dX11_next__49 : decode cX11_next_ 49 = .ok (.invokevirtual 288, 3) := by decide +kernel
theorem dX11_next__52 : decode cX11_next_ 52 = .ok (.ifCond .eq 5, 3) := by decide +kernel
theorem dX11_next__55 : decode cX11_next_ 55 = .ok (.lconst 0, 1) := by decide +kernel
theorem dX11_next__56 : decode cX11_next_ 56 = .ok (.lreturn, 1) := by decide +kernel
theorem dX11_now_0 : decode cX11_now 0 = .ok (.aload_n 0, 1) := by decide +kernel
theorem dX11_now_1 : decode cX11_now 1 = .ok (.iconst 0, 1) := by decide +kernel
theorem dX11_now_2 : decode cX11_now 2 = .ok (.putfield 1, 3) := by decide +kernel
theorem dX11_now_5 : decode cX11_now 5 = .ok (.aload_n 0, 1) := by decide +kernel
theorem dX11_now_6 : decode cX11_now 6 = .ok (.getfield 33, 3) := by decide +kernel
theorem dX11_now_9 : decode cX11_now 9 = .ok (.bipush 7, 2) := by decide +kernel
theorem dX11_now_11 : decode cX11_now 11 = .ok (.iaload, 1) := by decide +kernel
theorem dX11_now_12 : decode cX11_now 12 = .ok (.istore_n 2, 1) := by decide +kernel
theorem dX11_now_13 : decode cX11_now 13 = .ok (.iconst 0, 1) := by decide +kernel
theorem dX11_now_14 : decode cX11_now 14 = .ok (.istore_n 3, 1) := by decide +kernel
theorem dX11_now_15 : decode cX11_now 15 = .ok (.iload_n 3, 1) := by decide +kernel
theorem dX11_now_16 : decode cX11_now 16 = .ok (.aload_n 0, 1) := by decide +kernel
theorem dX11_now_17 : decode cX11_now 17 = .ok (.getfield 33, 3) := by decide +kernel
theorem dX11_now_20 : decode cX11_now 20 = .ok (.iconst 1, 1) := by decide +kernel
theorem dX11_now_21 : decode cX11_now 21 = .ok (.iaload, 1) := by decide +kernel
theorem dX11_now_22 : decode cX11_now 22 = .ok (.if_icmp .ge 17, 3) := by decide +kernel
theorem dX11_now_39 : decode cX11_now 39 = .ok (.iload_n 1, 1) := by decide +kernel
theorem dX11_now_40 : decode cX11_now 40 = .ok (.tableswitch 77 0 5 #[40, 47, 55, 62, 67, 75], 40) := by decide +kernel
theorem dX11_now_80 : decode cX11_now 80 = .ok (.aload_n 0, 1) := by decide +kernel
theorem dX11_now_81 : decode cX11_now 81 = .ok (.getfield 33, 3) := by decide +kernel
theorem dX11_now_84 : decode cX11_now 84 = .ok (.iconst 4, 1) := by decide +kernel
theorem dX11_now_85 : decode cX11_now 85 = .ok (.iaload, 1) := by decide +kernel
theorem dX11_now_86 : decode cX11_now 86 = .ok (.ireturn, 1) := by decide +kernel
theorem dX11_now_87 : decode cX11_now 87 = .ok (.aload_n 0, 1) := by decide +kernel
theorem dX11_now_88 : decode cX11_now 88 = .ok (.getfield 33, 3) := by decide +kernel
theorem dX11_now_91 : decode cX11_now 91 = .ok (.bipush 7, 2) := by decide +kernel
theorem dX11_now_93 : decode cX11_now 93 = .ok (.iaload, 1) := by decide +kernel
theorem dX11_now_94 : decode cX11_now 94 = .ok (.ireturn, 1) := by decide +kernel
theorem dX11_now_95 : decode cX11_now 95 = .ok (.aload_n 0, 1) := by decide +kernel
theorem dX11_now_96 : decode cX11_now 96 = .ok (.getfield 33, 3) := by decide +kernel
theorem dX11_now_99 : decode cX11_now 99 = .ok (.iconst 5, 1) := by decide +kernel
theorem dX11_now_100 : decode cX11_now 100 = .ok (.iaload, 1) := by decide +kernel
theorem dX11_now_101 : decode cX11_now 101 = .ok (.ireturn, 1) := by decide +kernel
theorem dX11_now_102 : decode cX11_now 102 = .ok (.aload_n 0, 1) := by decide +kernel
theorem dX11_now_103 : decode cX11_now 103 = .ok (.invokevirtual 295, 3) := by decide +kernel
theorem dX11_now_106 : decode cX11_now 106 = .ok (.ireturn, 1) := by decide +kernel
theorem dX11_now_107 : decode cX11_now 107 = .ok (.aload_n 0, 1) := by decide +kernel
theorem dX11_now_108 : decode cX11_now 108 = .ok (.getfield 33, 3) := by decide +kernel
theorem dX11_now_111 : decode cX11_now 111 = .ok (.bipush 6, 2) := by decide +kernel
theorem dX11_now_113 : decode cX11_now 113 = .ok (.iaload, 1) := by decide +kernel
theorem dX11_now_114 : decode cX11_now 114 = .ok (.ireturn, 1) := by decide +kernel
theorem dX11_now_115 : decode cX11_now 115 = .ok (.iload_n 2, 1) := by decide +kernel
theorem dX11_now_116 : decode cX11_now 116 = .ok (.ireturn, 1) := by decide +kernel
theorem dX11_now_117 : decode cX11_now 117 = .ok (.iconst (-1), 1) := by decide +kernel
theorem dX11_now_118 : decode cX11_now 118 = .ok (.ireturn, 1) := by decide +kernel
theorem dX11_odds_0 : decode cX11_odds 0 = .ok (.aload_n 0, 1) := by decide +kernel
theorem dX11_odds_1 : decode cX11_odds 1 = .ok (.aload_n 0, 1) := by decide +kernel
theorem dX11_odds_2 : decode cX11_odds 2 = .ok (.iload_n 1, 1) := by decide +kernel
theorem dX11_odds_3 : decode cX11_odds 3 = .ok (.invokevirtual 282, 3) := by decide +kernel
theorem dX11_odds_6 : decode cX11_odds 6 = .ok (.ifCond .eq 42, 3) := by decide +kernel
theorem dX11_odds_48 : decode cX11_odds 48 = .ok (.iconst 1, 1) := by decide +kernel
theorem dX11_odds_49 : decode cX11_odds 49 = .ok (.goto 4, 3) := by decide +kernel
theorem dX11_odds_53 : decode cX11_odds 53 = .ok (.invokevirtual 288, 3) := by decide +kernel
theorem dX11_odds_56 : decode cX11_odds 56 = .ok (.ifCond .eq 5, 3) := by decide +kernel
theorem dX11_odds_59 : decode cX11_odds 59 = .ok (.lconst 0, 1) := by decide +kernel
theorem dX11_odds_60 : decode cX11_odds 60 = .ok (.lreturn, 1) := by decide +kernel
theorem dX11_open_0 : decode cX11_open 0 = .ok (.aload_n 0, 1) := by decide +kernel
theorem dX11_open_1 : decode cX11_open 1 = .ok (.iconst 0, 1) := by decide +kernel
theorem dX11_open_2 : decode cX11_open 2 = .ok (.putfield 1, 3) := by decide +kernel
theorem dX11_open_5 : decode cX11_open 5 = .ok (.aload_n 0, 1) := by decide +kernel
theorem dX11_open_6 : decode cX11_open 6 = .ok (.invokevirtual 397, 3) := by decide +kernel
theorem dX11_open_9 : decode cX11_open 9 = .ok (.ireturn, 1) := by decide +kernel
theorem dX11_openOf_0 : decode cX11_openOf 0 = .ok (.aload_n 0, 1) := by decide +kernel
theorem dX11_openOf_1 : decode cX11_openOf 1 = .ok (.iconst (-1), 1) := by decide +kernel
theorem dX11_openOf_2 : decode cX11_openOf 2 = .ok (.putfield 391, 3) := by decide +kernel
theorem dX11_openOf_5 : decode cX11_openOf 5 = .ok (.aload_n 0, 1) := by decide +kernel
theorem dX11_openOf_6 : decode cX11_openOf 6 = .ok (.getfield 33, 3) := by decide +kernel
theorem dX11_openOf_9 : decode cX11_openOf 9 = .ok (.iconst 1, 1) := by decide +kernel
theorem dX11_openOf_10 : decode cX11_openOf 10 = .ok (.iaload, 1) := by decide +kernel
theorem dX11_openOf_11 : decode cX11_openOf 11 = .ok (.iconst 2, 1) := by decide +kernel
theorem dX11_openOf_12 : decode cX11_openOf 12 = .ok (.if_icmp .ne 34, 3) := by decide +kernel
theorem dX11_openOf_46 : decode cX11_openOf 46 = .ok (.bipush (-101), 2) := by decide +kernel
theorem dX11_openOf_48 : decode cX11_openOf 48 = .ok (.ireturn, 1) := by decide +kernel
theorem dX11_operand_0 : decode cX11_operand 0 = .ok (.aload_n 0, 1) := by decide +kernel
theorem dX11_operand_1 : decode cX11_operand 1 = .ok (.ldc2_w 137, 3) := by decide +kernel
theorem dX11_operand_4 : decode cX11_operand 4 = .ok (.invokevirtual 202, 3) := by decide +kernel
theorem dX11_operand_7 : decode cX11_operand 7 = .ok (.istore_n 1, 1) := by decide +kernel
theorem dX11_operand_8 : decode cX11_operand 8 = .ok (.aload_n 0, 1) := by decide +kernel
theorem dX11_operand_9 : decode cX11_operand 9 = .ok (.bipush 40, 2) := by decide +kernel
theorem dX11_operand_11 : decode cX11_operand 11 = .ok (.invokevirtual 186, 3) := by decide +kernel
theorem dX11_operand_14 : decode cX11_operand 14 = .ok (.istore_n 2, 1) := by decide +kernel
theorem dX11_operand_15 : decode cX11_operand 15 = .ok (.aload_n 0, 1) := by decide +kernel
theorem dX11_operand_16 : decode cX11_operand 16 = .ok (.invokevirtual 461, 3) := by decide +kernel
theorem dX11_operand_19 : decode cX11_operand 19 = .ok (.istore_n 3, 1) := by decide +kernel
theorem dX11_operand_20 : decode cX11_operand 20 = .ok (.iload_n 1, 1) := by decide +kernel
theorem dX11_operand_21 : decode cX11_operand 21 = .ok (.ifCond .ne 17, 3) := by decide +kernel
theorem dX11_operand_24 : decode cX11_operand 24 = .ok (.iload_n 2, 1) := by decide +kernel
theorem dX11_operand_25 : decode cX11_operand 25 = .ok (.ifCond .ne 13, 3) := by decide +kernel
theorem dX11_operand_28 : decode cX11_operand 28 = .ok (.iload_n 3, 1) := by decide +kernel
theorem dX11_operand_29 : decode cX11_operand 29 = .ok (.ifCond .ge 9, 3) := by decide +kernel
theorem dX11_operand_32 : decode cX11_operand 32 = .ok (.aload_n 0, 1) := by decide +kernel
theorem dX11_operand_33 : decode cX11_operand 33 = .ok (.iconst 1, 1) := by decide +kernel
theorem dX11_operand_34 : decode cX11_operand 34 = .ok (.invokevirtual 189, 3) := by decide +kernel
theorem dX11_operand_37 : decode cX11_operand 37 = .ok (.ireturn, 1) := by decide +kernel
theorem dX11_peek_0 : decode cX11_peek 0 = .ok (.aload_n 0, 1) := by decide +kernel
theorem dX11_peek_1 : decode cX11_peek 1 = .ok (.getfield 21, 3) := by decide +kernel
theorem dX11_peek_4 : decode cX11_peek 4 = .ok (.aload_n 0, 1) := by decide +kernel
theorem dX11_peek_5 : decode cX11_peek 5 = .ok (.getfield 18, 3) := by decide +kernel
theorem dX11_peek_8 : decode cX11_peek 8 = .ok (.if_icmp .ge 19, 3) := by decide +kernel
theorem dX11_peek_27 : decode cX11_peek 27 = .ok (.iconst (-1), 1) := by decide +kernel
theorem dX11_peek_28 : decode cX11_peek 28 = .ok (.ireturn, 1) := by decide +kernel
theorem dX11_person_0 : decode cX11_person 0 = .ok (.aload_n 0, 1) := by decide +kernel
theorem dX11_person_1 : decode cX11_person 1 = .ok (.iconst 0, 1) := by decide +kernel
theorem dX11_person_2 : decode cX11_person 2 = .ok (.putfield 1, 3) := by decide +kernel
theorem dX11_person_5 : decode cX11_person 5 = .ok (.aload_n 0, 1) := by decide +kernel
theorem dX11_person_6 : decode cX11_person 6 = .ok (.iload_n 1, 1) := by decide +kernel
theorem dX11_person_7 : decode cX11_person 7 = .ok (.invokevirtual 282, 3) := by decide +kernel
theorem dX11_person_10 : decode cX11_person 10 = .ok (.ifCond .ne 5, 3) := by decide +kernel
theorem dX11_person_13 : decode cX11_person 13 = .ok (.iconst (-1), 1) := by decide +kernel
theorem dX11_person_14 : decode cX11_person 14 = .ok (.ireturn, 1) := by decide +kernel
theorem dX11_play_0 : decode cX11_play 0 = .ok (.aload_n 0, 1) := by decide +kernel
theorem dX11_play_1 : decode cX11_play 1 = .ok (.iconst 0, 1) := by decide +kernel
theorem dX11_play_2 : decode cX11_play 2 = .ok (.putfield 1, 3) := by decide +kernel
theorem dX11_play_5 : decode cX11_play 5 = .ok (.aload_n 0, 1) := by decide +kernel
theorem dX11_play_6 : decode cX11_play 6 = .ok (.sipush 940, 3) := by decide +kernel
theorem dX11_play_9 : decode cX11_play 9 = .ok (.invokevirtual 234, 3) := by decide +kernel
theorem dX11_play_12 : decode cX11_play 12 = .ok (.iload_n 1, 1) := by decide +kernel
theorem dX11_play_13 : decode cX11_play 13 = .ok (.iconst 1, 1) := by decide +kernel
theorem dX11_play_14 : decode cX11_play 14 = .ok (.sipush 400, 3) := by decide +kernel
theorem dX11_play_17 : decode cX11_play 17 = .ok (.invokestatic 195, 3) := by decide +kernel
theorem dX11_play_20 : decode cX11_play 20 = .ok (.ifCond .eq 26, 3) := by decide +kernel
theorem dX11_play_23 : decode cX11_play 23 = .ok (.aload_n 0, 1) := by decide +kernel
theorem dX11_play_24 : decode cX11_play 24 = .ok (.getfield 33, 3) := by decide +kernel
theorem dX11_play_27 : decode cX11_play 27 = .ok (.iconst 1, 1) := by decide +kernel
theorem dX11_play_28 : decode cX11_play 28 = .ok (.iaload, 1) := by decide +kernel
theorem dX11_play_29 : decode cX11_play 29 = .ok (.iconst 2, 1) := by decide +kernel
theorem dX11_play_30 : decode cX11_play 30 = .ok (.if_icmp .lt 16, 3) := by decide +kernel
theorem dX11_play_46 : decode cX11_play 46 = .ok (.iconst (-1), 1) := by decide +kernel
theorem dX11_play_47 : decode cX11_play 47 = .ok (.ireturn, 1) := by decide +kernel
theorem dX11_reply_0 : decode cX11_reply 0 = .ok (.aload_n 0, 1) := by decide +kernel
theorem dX11_reply_1 : decode cX11_reply 1 = .ok (.iconst 0, 1) := by decide +kernel
theorem dX11_reply_2 : decode cX11_reply 2 = .ok (.putfield 1, 3) := by decide +kernel
theorem dX11_reply_5 : decode cX11_reply 5 = .ok (.aload_n 0, 1) := by decide +kernel
theorem dX11_reply_6 : decode cX11_reply 6 = .ok (.iconst 0, 1) := by decide +kernel
theorem dX11_reply_7 : decode cX11_reply 7 = .ok (.iload_n 1, 1) := by decide +kernel
theorem dX11_reply_8 : decode cX11_reply 8 = .ok (.iload_n 2, 1) := by decide +kernel
theorem dX11_reply_9 : decode cX11_reply 9 = .ok (.invokevirtual 432, 3) := by decide +kernel
theorem dX11_reply_12 : decode cX11_reply 12 = .ok (.ifCond .ne 5, 3) := by decide +kernel
theorem dX11_reply_15 : decode cX11_reply 15 = .ok (.iconst (-1), 1) := by decide +kernel
theorem dX11_reply_16 : decode cX11_reply 16 = .ok (.ireturn, 1) := by decide +kernel
theorem dX11_restore_0 : decode cX11_restore 0 = .ok (.aload_n 0, 1) := by decide +kernel
theorem dX11_restore_1 : decode cX11_restore 1 = .ok (.iconst 0, 1) := by decide +kernel
theorem dX11_restore_2 : decode cX11_restore 2 = .ok (.putfield 1, 3) := by decide +kernel
theorem dX11_restore_5 : decode cX11_restore 5 = .ok (.iload_n 1, 1) := by decide +kernel
theorem dX11_restore_6 : decode cX11_restore 6 = .ok (.iconst 0, 1) := by decide +kernel
theorem dX11_restore_7 : decode cX11_restore 7 = .ok (.iconst 1, 1) := by decide +kernel
theorem dX11_restore_8 : decode cX11_restore 8 = .ok (.invokestatic 195, 3) := by decide +kernel
theorem dX11_restore_11 : decode cX11_restore 11 = .ok (.ifCond .eq 12, 3) := by decide +kernel
theorem dX11_restore_14 : decode cX11_restore 14 = .ok (.aload_n 0, 1) := by decide +kernel
theorem dX11_restore_15 : decode cX11_restore 15 = .ok (.getfield 112, 3) := by decide +kernel
theorem dX11_restore_18 : decode cX11_restore 18 = .ok (.iload_n 1, 1) := by decide +kernel
theorem dX11_restore_19 : decode cX11_restore 19 = .ok (.baload, 1) := by decide +kernel
theorem dX11_restore_20 : decode cX11_restore 20 = .ok (.ifCond .ne 5, 3) := by decide +kernel
theorem dX11_restore_23 : decode cX11_restore 23 = .ok (.iconst 0, 1) := by decide +kernel
theorem dX11_restore_24 : decode cX11_restore 24 = .ok (.ireturn, 1) := by decide +kernel
theorem dX11_said_0 : decode cX11_said 0 = .ok (.aload_n 0, 1) := by decide +kernel
theorem dX11_said_1 : decode cX11_said 1 = .ok (.iconst 0, 1) := by decide +kernel
theorem dX11_said_2 : decode cX11_said 2 = .ok (.putfield 1, 3) := by decide +kernel
theorem dX11_said_5 : decode cX11_said 5 = .ok (.aload_n 0, 1) := by decide +kernel
theorem dX11_said_6 : decode cX11_said 6 = .ok (.getfield 33, 3) := by decide +kernel
theorem dX11_said_9 : decode cX11_said 9 = .ok (.sipush 584, 3) := by decide +kernel
theorem dX11_said_12 : decode cX11_said 12 = .ok (.iaload, 1) := by decide +kernel
theorem dX11_said_13 : decode cX11_said 13 = .ok (.ifCond .eq 8, 3) := by decide +kernel
theorem dX11_said_21 : decode cX11_said 21 = .ok (.iconst (-1), 1) := by decide +kernel
theorem dX11_said_22 : decode cX11_said 22 = .ok (.ireturn, 1) := by decide +kernel
theorem dX11_sentence_0 : decode cX11_sentence 0 = .ok (.aload_n 0, 1) := by decide +kernel
theorem dX11_sentence_1 : decode cX11_sentence 1 = .ok (.iconst 0, 1) := by decide +kernel
theorem dX11_sentence_2 : decode cX11_sentence 2 = .ok (.putfield 1, 3) := by decide +kernel
theorem dX11_sentence_5 : decode cX11_sentence 5 = .ok (.aload_n 0, 1) := by decide +kernel
theorem dX11_sentence_6 : decode cX11_sentence 6 = .ok (.sipush 200, 3) := by decide +kernel
theorem dX11_sentence_9 : decode cX11_sentence 9 = .ok (.invokevirtual 234, 3) := by decide +kernel
theorem dX11_sentence_12 : decode cX11_sentence 12 = .ok (.aload_n 0, 1) := by decide +kernel
theorem dX11_sentence_13 : decode cX11_sentence 13 = .ok (.iconst 0, 1) := by decide +kernel
theorem dX11_sentence_14 : decode cX11_sentence 14 = .ok (.putfield 180, 3) := by decide +kernel
theorem dX11_sentence_17 : decode cX11_sentence 17 = .ok (.aload_n 0, 1) := by decide +kernel
theorem dX11_sentence_18 : decode cX11_sentence 18 = .ok (.iconst 0, 1) := by decide +kernel
theorem dX11_sentence_19 : decode cX11_sentence 19 = .ok (.putfield 448, 3) := by decide +kernel
theorem dX11_sentence_22 : decode cX11_sentence 22 = .ok (.aload_n 0, 1) := by decide +kernel
theorem dX11_sentence_23 : decode cX11_sentence 23 = .ok (.iconst 0, 1) := by decide +kernel
theorem dX11_sentence_24 : decode cX11_sentence 24 = .ok (.putfield 464, 3) := by decide +kernel
theorem dX11_sentence_27 : decode cX11_sentence 27 = .ok (.aload_n 0, 1) := by decide +kernel
theorem dX11_sentence_28 : decode cX11_sentence 28 = .ok (.iconst 0, 1) := by decide +kernel
theorem dX11_sentence_29 : decode cX11_sentence 29 = .ok (.putfield 451, 3) := by decide +kernel
theorem dX11_sentence_32 : decode cX11_sentence 32 = .ok (.aload_n 0, 1) := by decide +kernel
theorem dX11_sentence_33 : decode cX11_sentence 33 = .ok (.iconst 1, 1) := by decide +kernel
theorem dX11_sentence_34 : decode cX11_sentence 34 = .ok (.putfield 458, 3) := by decide +kernel
theorem dX11_sentence_37 : decode cX11_sentence 37 = .ok (.aload_n 0, 1) := by decide +kernel
theorem dX11_sentence_38 : decode cX11_sentence 38 = .ok (.iconst 0, 1) := by decide +kernel
theorem dX11_sentence_39 : decode cX11_sentence 39 = .ok (.putfield 467, 3) := by decide +kernel
theorem dX11_sentence_42 : decode cX11_sentence 42 = .ok (.aload_n 0, 1) := by decide +kernel
theorem dX11_sentence_43 : decode cX11_sentence 43 = .ok (.invokevirtual 192, 3) := by decide +kernel
theorem dX11_sentence_46 : decode cX11_sentence 46 = .ok (.iconst 1, 1) := by decide +kernel
theorem dX11_sentence_47 : decode cX11_sentence 47 = .ok (.istore_n 1, 1) := by decide +kernel
theorem dX11_sentence_48 : decode cX11_sentence 48 = .ok (.iload_n 1, 1) := by decide +kernel
theorem dX11_sentence_49 : decode cX11_sentence 49 = .ok (.ifCond .eq 83, 3) := by decide +kernel
theorem dX11_sentence_52 : decode cX11_sentence 52 = .ok (.aload_n 0, 1) := by decide +kernel
theorem dX11_sentence_53 : decode cX11_sentence 53 = .ok (.getfield 467, 3) := by decide +kernel
theorem dX11_sentence_56 : decode cX11_sentence 56 = .ok (.ifCond .eq 45, 3) := by decide +kernel
theorem dX11_sentence_101 : decode cX11_sentence 101 = .ok (.aload_n 0, 1) := by decide +kernel
theorem dX11_sentence_102 : decode cX11_sentence 102 = .ok (.getfield 467, 3) := by decide +kernel
theorem dX11_sentence_105 : decode cX11_sentence 105 = .ok (.ifCond .eq 13, 3) := by decide +kernel
theorem dX11_sentence_118 : decode cX11_sentence 118 = .ok (.aload_n 0, 1) := by decide +kernel
theorem dX11_sentence_119 : decode cX11_sentence 119 = .ok (.invokevirtual 479, 3) := by decide +kernel
theorem dX11_sentence_122 : decode cX11_sentence 122 = .ok (.ifCond .ne (-74), 3) := by decide +kernel
theorem dX11_sentence_125 : decode cX11_sentence 125 = .ok (.iconst (-1), 1) := by decide +kernel
theorem dX11_sentence_126 : decode cX11_sentence 126 = .ok (.aload_n 0, 1) := by decide +kernel
theorem dX11_sentence_127 : decode cX11_sentence 127 = .ok (.getfield 183, 3) := by decide +kernel
theorem dX11_sentence_130 : decode cX11_sentence 130 = .ok (.isub, 1) := by decide +kernel
theorem dX11_sentence_131 : decode cX11_sentence 131 = .ok (.ireturn, 1) := by decide +kernel
theorem dX11_settles_0 : decode cX11_settles 0 = .ok (.aload_n 0, 1) := by decide +kernel
theorem dX11_settles_1 : decode cX11_settles 1 = .ok (.getfield 33, 3) := by decide +kernel
theorem dX11_settles_4 : decode cX11_settles 4 = .ok (.iconst 4, 1) := by decide +kernel
theorem dX11_settles_5 : decode cX11_settles 5 = .ok (.iconst (-1), 1) := by decide +kernel
theorem dX11_settles_6 : decode cX11_settles 6 = .ok (.iastore, 1) := by decide +kernel
theorem dX11_settles_7 : decode cX11_settles 7 = .ok (.iconst 0, 1) := by decide +kernel
theorem dX11_settles_8 : decode cX11_settles 8 = .ok (.istore_n 2, 1) := by decide +kernel
theorem dX11_settles_9 : decode cX11_settles 9 = .ok (.iload_n 2, 1) := by decide +kernel
theorem dX11_settles_10 : decode cX11_settles 10 = .ok (.aload_n 0, 1) := by decide +kernel
theorem dX11_settles_11 : decode cX11_settles 11 = .ok (.getfield 33, 3) := by decide +kernel
theorem dX11_settles_14 : decode cX11_settles 14 = .ok (.iconst 1, 1) := by decide +kernel
theorem dX11_settles_15 : decode cX11_settles 15 = .ok (.iaload, 1) := by decide +kernel
theorem dX11_settles_16 : decode cX11_settles 16 = .ok (.if_icmp .ge 44, 3) := by decide +kernel
theorem dX11_settles_60 : decode cX11_settles 60 = .ok (.return_, 1) := by decide +kernel
theorem dX11_sweep_0 : decode cX11_sweep 0 = .ok (.aload_n 0, 1) := by decide +kernel
theorem dX11_sweep_1 : decode cX11_sweep 1 = .ok (.iconst 0, 1) := by decide +kernel
theorem dX11_sweep_2 : decode cX11_sweep 2 = .ok (.putfield 1, 3) := by decide +kernel
theorem dX11_sweep_5 : decode cX11_sweep 5 = .ok (.aload_n 0, 1) := by decide +kernel
theorem dX11_sweep_6 : decode cX11_sweep 6 = .ok (.iload_n 1, 1) := by decide +kernel
theorem dX11_sweep_7 : decode cX11_sweep 7 = .ok (.invokevirtual 282, 3) := by decide +kernel
theorem dX11_sweep_10 : decode cX11_sweep 10 = .ok (.ifCond .ne 5, 3) := by decide +kernel
theorem dX11_sweep_13 : decode cX11_sweep 13 = .ok (.iconst (-1), 1) := by decide +kernel
theorem dX11_sweep_14 : decode cX11_sweep 14 = .ok (.ireturn, 1) := by decide +kernel
theorem dX11_swept_0 : decode cX11_swept 0 = .ok (.aload_n 0, 1) := by decide +kernel
theorem dX11_swept_1 : decode cX11_swept 1 = .ok (.iconst 0, 1) := by decide +kernel
theorem dX11_swept_2 : decode cX11_swept 2 = .ok (.putfield 1, 3) := by decide +kernel
theorem dX11_swept_5 : decode cX11_swept 5 = .ok (.iload_n 1, 1) := by decide +kernel
theorem dX11_swept_6 : decode cX11_swept 6 = .ok (.iconst 0, 1) := by decide +kernel
theorem dX11_swept_7 : decode cX11_swept 7 = .ok (.aload_n 0, 1) := by decide +kernel
theorem dX11_swept_8 : decode cX11_swept 8 = .ok (.getfield 349, 3) := by decide +kernel
theorem dX11_swept_11 : decode cX11_swept 11 = .ok (.iconst 1, 1) := by decide +kernel
theorem dX11_swept_12 : decode cX11_swept 12 = .ok (.isub, 1) := by decide +kernel
theorem dX11_swept_13 : decode cX11_swept 13 = .ok (.invokestatic 195, 3) := by decide +kernel
theorem dX11_swept_16 : decode cX11_swept 16 = .ok (.ifCond .eq 12, 3) := by decide +kernel
theorem dX11_swept_28 : decode cX11_swept 28 = .ok (.iconst (-1), 1) := by decide +kernel
theorem dX11_swept_29 : decode cX11_swept 29 = .ok (.ireturn, 1) := by decide +kernel
theorem dX11_taken_0 : decode cX11_taken 0 = .ok (.aload_n 0, 1) := by decide +kernel
theorem dX11_taken_1 : decode cX11_taken 1 = .ok (.aload_n 0, 1) := by decide +kernel
theorem dX11_taken_2 : decode cX11_taken 2 = .ok (.getfield 7, 3) := by decide +kernel
theorem dX11_taken_5 : decode cX11_taken 5 = .ok (.putfield 18, 3) := by decide +kernel
theorem dX11_taken_8 : decode cX11_taken 8 = .ok (.aload_n 0, 1) := by decide +kernel
theorem dX11_taken_9 : decode cX11_taken 9 = .ok (.iconst 0, 1) := by decide +kernel
theorem dX11_taken_10 : decode cX11_taken 10 = .ok (.putfield 7, 3) := by decide +kernel
theorem dX11_taken_13 : decode cX11_taken 13 = .ok (.aload_n 0, 1) := by decide +kernel
theorem dX11_taken_14 : decode cX11_taken 14 = .ok (.iconst 0, 1) := by decide +kernel
theorem dX11_taken_15 : decode cX11_taken 15 = .ok (.putfield 21, 3) := by decide +kernel
theorem dX11_taken_18 : decode cX11_taken 18 = .ok (.aload_n 0, 1) := by decide +kernel
theorem dX11_taken_19 : decode cX11_taken 19 = .ok (.iload_n 1, 1) := by decide +kernel
theorem dX11_taken_20 : decode cX11_taken 20 = .ok (.putfield 24, 3) := by decide +kernel
theorem dX11_taken_23 : decode cX11_taken 23 = .ok (.return_, 1) := by decide +kernel
theorem dX11_thrown_0 : decode cX11_thrown 0 = .ok (.aload_n 0, 1) := by decide +kernel
theorem dX11_thrown_1 : decode cX11_thrown 1 = .ok (.getfield 1, 3) := by decide +kernel
theorem dX11_thrown_4 : decode cX11_thrown 4 = .ok (.ireturn, 1) := by decide +kernel
theorem dX11_throwsIf_0 : decode cX11_throwsIf 0 = .ok (.aload_n 0, 1) := by decide +kernel
theorem dX11_throwsIf_1 : decode cX11_throwsIf 1 = .ok (.iload_n 1, 1) := by decide +kernel
theorem dX11_throwsIf_2 : decode cX11_throwsIf 2 = .ok (.ifCond .eq 7, 3) := by decide +kernel
theorem dX11_throwsIf_5 : decode cX11_throwsIf 5 = .ok (.iconst 1, 1) := by decide +kernel
theorem dX11_throwsIf_6 : decode cX11_throwsIf 6 = .ok (.goto 4, 3) := by decide +kernel
theorem dX11_throwsIf_10 : decode cX11_throwsIf 10 = .ok (.putfield 1, 3) := by decide +kernel
theorem dX11_throwsIf_13 : decode cX11_throwsIf 13 = .ok (.iload_n 1, 1) := by decide +kernel
theorem dX11_throwsIf_14 : decode cX11_throwsIf 14 = .ok (.ireturn, 1) := by decide +kernel
theorem dX11_undo_0 : decode cX11_undo 0 = .ok (.aload_n 0, 1) := by decide +kernel
theorem dX11_undo_1 : decode cX11_undo 1 = .ok (.iconst 0, 1) := by decide +kernel
theorem dX11_undo_2 : decode cX11_undo 2 = .ok (.putfield 1, 3) := by decide +kernel
theorem dX11_undo_5 : decode cX11_undo 5 = .ok (.aload_n 0, 1) := by decide +kernel
theorem dX11_undo_6 : decode cX11_undo 6 = .ok (.getfield 246, 3) := by decide +kernel
theorem dX11_undo_9 : decode cX11_undo 9 = .ok (.ifCond .ne 5, 3) := by decide +kernel
theorem dX11_undo_12 : decode cX11_undo 12 = .ok (.iconst (-1), 1) := by decide +kernel
theorem dX11_undo_13 : decode cX11_undo 13 = .ok (.ireturn, 1) := by decide +kernel
theorem dX11_whom_0 : decode cX11_whom 0 = .ok (.aload_n 0, 1) := by decide +kernel
theorem dX11_whom_1 : decode cX11_whom 1 = .ok (.iconst 0, 1) := by decide +kernel
theorem dX11_whom_2 : decode cX11_whom 2 = .ok (.putfield 1, 3) := by decide +kernel
theorem dX11_whom_5 : decode cX11_whom 5 = .ok (.aload_n 0, 1) := by decide +kernel
theorem dX11_whom_6 : decode cX11_whom 6 = .ok (.iload_n 1, 1) := by decide +kernel
theorem dX11_whom_7 : decode cX11_whom 7 = .ok (.invokevirtual 282, 3) := by decide +kernel
theorem dX11_whom_10 : decode cX11_whom 10 = .ok (.ifCond .eq 19, 3) := by decide +kernel
theorem dX11_whom_29 : decode cX11_whom 29 = .ok (.iconst (-1), 1) := by decide +kernel
theorem dX11_whom_30 : decode cX11_whom 30 = .ok (.ireturn, 1) := by decide +kernel
theorem dX11_why_0 : decode cX11_why 0 = .ok (.aload_n 0, 1) := by decide +kernel
theorem dX11_why_1 : decode cX11_why 1 = .ok (.iconst 0, 1) := by decide +kernel
theorem dX11_why_2 : decode cX11_why 2 = .ok (.putfield 1, 3) := by decide +kernel
theorem dX11_why_5 : decode cX11_why 5 = .ok (.aload_n 0, 1) := by decide +kernel
theorem dX11_why_6 : decode cX11_why 6 = .ok (.iload_n 1, 1) := by decide +kernel
theorem dX11_why_7 : decode cX11_why 7 = .ok (.iload_n 2, 1) := by decide +kernel
theorem dX11_why_8 : decode cX11_why 8 = .ok (.iload_n 3, 1) := by decide +kernel
theorem dX11_why_9 : decode cX11_why 9 = .ok (.invokevirtual 298, 3) := by decide +kernel
theorem dX11_why_12 : decode cX11_why 12 = .ok (.ifCond .eq 13, 3) := by decide +kernel
theorem dX11_why_25 : decode cX11_why 25 = .ok (.iconst (-1), 1) := by decide +kernel
theorem dX11_why_26 : decode cX11_why 26 = .ok (.ireturn, 1) := by decide +kernel
theorem dX2_allBooks_0 : decode cX2_allBooks 0 = .ok (.aload_n 0, 1) := by decide +kernel
theorem dX2_allBooks_1 : decode cX2_allBooks 1 = .ok (.getfield 9, 3) := by decide +kernel
theorem dX2_allBooks_4 : decode cX2_allBooks 4 = .ok (.aload_n 0, 1) := by decide +kernel
theorem dX2_allBooks_5 : decode cX2_allBooks 5 = .ok (.iconst (-1), 1) := by decide +kernel
theorem dX2_allBooks_6 : decode cX2_allBooks 6 = .ok (.invokevirtual 105, 3) := by decide +kernel
theorem dX2_allBooks_9 : decode cX2_allBooks 9 = .ok (.isub, 1) := by decide +kernel
theorem dX2_allBooks_10 : decode cX2_allBooks 10 = .ok (.ireturn, 1) := by decide +kernel
theorem dX2_booksOf_0 : decode cX2_booksOf 0 = .ok (.iconst 0, 1) := by decide +kernel
theorem dX2_booksOf_1 : decode cX2_booksOf 1 = .ok (.istore_n 2, 1) := by decide +kernel
theorem dX2_booksOf_2 : decode cX2_booksOf 2 = .ok (.iconst 0, 1) := by decide +kernel
theorem dX2_booksOf_3 : decode cX2_booksOf 3 = .ok (.istore_n 3, 1) := by decide +kernel
theorem dX2_booksOf_4 : decode cX2_booksOf 4 = .ok (.iload_n 3, 1) := by decide +kernel
theorem dX2_booksOf_5 : decode cX2_booksOf 5 = .ok (.aload_n 0, 1) := by decide +kernel
theorem dX2_booksOf_6 : decode cX2_booksOf 6 = .ok (.getfield 9, 3) := by decide +kernel
theorem dX2_booksOf_9 : decode cX2_booksOf 9 = .ok (.if_icmp .ge 22, 3) := by decide +kernel
theorem dX2_booksOf_31 : decode cX2_booksOf 31 = .ok (.iload_n 2, 1) := by decide +kernel
theorem dX2_booksOf_32 : decode cX2_booksOf 32 = .ok (.ireturn, 1) := by decide +kernel
theorem dX2_canDeal_0 : decode cX2_canDeal 0 = .ok (.aload_n 0, 1) := by decide +kernel
theorem dX2_canDeal_1 : decode cX2_canDeal 1 = .ok (.getfield 15, 3) := by decide +kernel
theorem dX2_canDeal_4 : decode cX2_canDeal 4 = .ok (.ifCond .le 29, 3) := by decide +kernel
theorem dX2_canDeal_33 : decode cX2_canDeal 33 = .ok (.iconst 0, 1) := by decide +kernel
theorem dX2_canDeal_34 : decode cX2_canDeal 34 = .ok (.ireturn, 1) := by decide +kernel
theorem dX2_hasKind_0 : decode cX2_hasKind 0 = .ok (.iload_n 1, 1) := by decide +kernel
theorem dX2_hasKind_1 : decode cX2_hasKind 1 = .ok (.ifCond .lt 15, 3) := by decide +kernel
theorem dX2_hasKind_4 : decode cX2_hasKind 4 = .ok (.iload_n 1, 1) := by decide +kernel
theorem dX2_hasKind_5 : decode cX2_hasKind 5 = .ok (.aload_n 0, 1) := by decide +kernel
theorem dX2_hasKind_6 : decode cX2_hasKind 6 = .ok (.getfield 9, 3) := by decide +kernel
theorem dX2_hasKind_9 : decode cX2_hasKind 9 = .ok (.if_icmp .ge 7, 3) := by decide +kernel
theorem dX2_hasKind_16 : decode cX2_hasKind 16 = .ok (.iconst 0, 1) := by decide +kernel
theorem dX2_hasKind_17 : decode cX2_hasKind 17 = .ok (.ireturn, 1) := by decide +kernel
theorem dX2_hasPerson_0 : decode cX2_hasPerson 0 = .ok (.iload_n 1, 1) := by decide +kernel
theorem dX2_hasPerson_1 : decode cX2_hasPerson 1 = .ok (.ifCond .lt 15, 3) := by decide +kernel
theorem dX2_hasPerson_4 : decode cX2_hasPerson 4 = .ok (.iload_n 1, 1) := by decide +kernel
theorem dX2_hasPerson_5 : decode cX2_hasPerson 5 = .ok (.aload_n 0, 1) := by decide +kernel
theorem dX2_hasPerson_6 : decode cX2_hasPerson 6 = .ok (.getfield 15, 3) := by decide +kernel
theorem dX2_hasPerson_9 : decode cX2_hasPerson 9 = .ok (.if_icmp .ge 7, 3) := by decide +kernel
theorem dX2_hasPerson_16 : decode cX2_hasPerson 16 = .ok (.iconst 0, 1) := by decide +kernel
theorem dX2_hasPerson_17 : decode cX2_hasPerson 17 = .ok (.ireturn, 1) := by decide +kernel
theorem dX2_heapSize_0 : decode cX2_heapSize 0 = .ok (.aload_n 0, 1) := by decide +kernel
theorem dX2_heapSize_1 : decode cX2_heapSize 1 = .ok (.getfield 42, 3) := by decide +kernel
theorem dX2_heapSize_4 : decode cX2_heapSize 4 = .ok (.aload_n 0, 1) := by decide +kernel
theorem dX2_heapSize_5 : decode cX2_heapSize 5 = .ok (.getfield 39, 3) := by decide +kernel
theorem dX2_heapSize_8 : decode cX2_heapSize 8 = .ok (.isub, 1) := by decide +kernel
theorem dX2_heapSize_9 : decode cX2_heapSize 9 = .ok (.ireturn, 1) := by decide +kernel
theorem dX2_loose_0 : decode cX2_loose 0 = .ok (.aload_n 0, 1) := by decide +kernel
theorem dX2_loose_1 : decode cX2_loose 1 = .ok (.invokevirtual 101, 3) := by decide +kernel
theorem dX2_loose_4 : decode cX2_loose 4 = .ok (.istore_n 1, 1) := by decide +kernel
theorem dX2_loose_5 : decode cX2_loose 5 = .ok (.iconst 0, 1) := by decide +kernel
theorem dX2_loose_6 : decode cX2_loose 6 = .ok (.istore_n 2, 1) := by decide +kernel
theorem dX2_loose_7 : decode cX2_loose 7 = .ok (.iload_n 2, 1) := by decide +kernel
theorem dX2_loose_8 : decode cX2_loose 8 = .ok (.aload_n 0, 1) := by decide +kernel
theorem dX2_loose_9 : decode cX2_loose 9 = .ok (.getfield 15, 3) := by decide +kernel
theorem dX2_loose_12 : decode cX2_loose 12 = .ok (.if_icmp .ge 18, 3) := by decide +kernel
theorem dX2_loose_30 : decode cX2_loose 30 = .ok (.iload_n 1, 1) := by decide +kernel
theorem dX2_loose_31 : decode cX2_loose 31 = .ok (.ireturn, 1) := by decide +kernel
theorem dX5_takeBack_0 : decode cX5_takeBack 0 = .ok (.aload_n 0, 1) := by decide +kernel
theorem dX5_takeBack_1 : decode cX5_takeBack 1 = .ok (.getfield 15, 3) := by decide +kernel
theorem dX5_takeBack_4 : decode cX5_takeBack 4 = .ok (.ifCond .le 12, 3) := by decide +kernel
theorem dX5_takeBack_16 : decode cX5_takeBack 16 = .ok (.bipush 7, 2) := by decide +kernel
theorem dX5_takeBack_18 : decode cX5_takeBack 18 = .ok (.istore_n 2, 1) := by decide +kernel
theorem dX5_takeBack_19 : decode cX5_takeBack 19 = .ok (.aload_n 0, 1) := by decide +kernel
theorem dX5_takeBack_20 : decode cX5_takeBack 20 = .ok (.getfield 19, 3) := by decide +kernel
theorem dX5_takeBack_23 : decode cX5_takeBack 23 = .ok (.ifCond .eq 12, 3) := by decide +kernel
theorem dX5_takeBack_35 : decode cX5_takeBack 35 = .ok (.iconst 0, 1) := by decide +kernel
theorem dX5_takeBack_36 : decode cX5_takeBack 36 = .ok (.ireturn, 1) := by decide +kernel
