theorem q_3_177 : Cond.methodLink RX10 223 yX5_keep ∈ gw := gw_3 177 (by decide +kernel) rfl
theorem q_3_178 : Cond.instanceMethod yX5_keep ∈ gw := gw_3 178 (by decide +kernel) rfl
theorem q_3_179 : Cond.selects RX5 yX5_keep yX5_keep ∈ gw := gw_3 179 (by decide +kernel) rfl
theorem q_3_180 : Cond.code yX5_keep cX5_keep 2 none ∈ gw := gw_3 180 (by decide +kernel) rfl
theorem q_3_220 : Cond.methodLink RX10 230 yX5_takeBack ∈ gw := gw_3 220 (by decide +kernel) rfl
theorem q_3_221 : Cond.instanceMethod yX5_takeBack ∈ gw := gw_3 221 (by decide +kernel) rfl
theorem q_3_222 : Cond.selects RX5 yX5_takeBack yX5_takeBack ∈ gw := gw_3 222 (by decide +kernel) rfl
theorem q_3_223 : Cond.code yX5_takeBack cX5_takeBack 3 (some .boolean) ∈ gw := gw_3 223 (by decide +kernel) rfl
theorem q_3_238 : Cond.methodLink RX10 245 yX10_takeOnlooker ∈ gw := gw_3 238 (by decide +kernel) rfl
theorem q_4_0 : Cond.instanceMethod yX10_takeOnlooker ∈ gw := gw_4 0 (by decide +kernel) rfl
theorem q_4_1 : Cond.code yX10_takeOnlooker cX10_takeOnlooker 1 (some (.object "SevenTable$Odds")) ∈ gw := gw_4 1 (by decide +kernel) rfl
theorem q_4_137 : Cond.methodLink RX10 298 yX10_takeDuel ∈ gw := gw_4 137 (by decide +kernel) rfl
theorem q_4_139 : Cond.instanceMethod yX10_takeDuel ∈ gw := gw_4 139 (by decide +kernel) rfl
theorem q_4_140 : Cond.code yX10_takeDuel cX10_takeDuel 1 (some (.object "SevenTable$Duel")) ∈ gw := gw_4 140 (by decide +kernel) rfl
theorem q_p_18 : Cond.selects RX10 yX10_takeOnlooker yX10_takeOnlooker ∈ gw := gw_s (y := yX10_takeOnlooker) (n := 20) (List.mem_append_right _ (List.mem_append_left _ (List.mem_of_getElem? (i := 2) (by decide +kernel))))
theorem q_p_28 : Cond.selects RX10 yX10_takeDuel yX10_takeDuel ∈ gw := gw_s (y := yX10_takeDuel) (n := 20) (List.mem_append_right _ (List.mem_append_left _ (List.mem_of_getElem? (i := 12) (by decide +kernel))))
theorem dX10_ask_0 : decode cX10_ask 0 = .ok (.aload_n 0, 1) := by decide +kernel
theorem dX10_ask_1 : decode cX10_ask 1 = .ok (.iload_n 1, 1) := by decide +kernel
theorem dX10_ask_2 : decode cX10_ask 2 = .ok (.iload_n 2, 1) := by decide +kernel
theorem dX10_ask_3 : decode cX10_ask 3 = .ok (.iload_n 3, 1) := by decide +kernel
theorem dX10_ask_4 : decode cX10_ask 4 = .ok (.invokevirtual 215, 3) := by decide +kernel
theorem dX10_ask_7 : decode cX10_ask 7 = .ok (.ifCond .eq 14, 3) := by decide +kernel
theorem dX10_ask_10 : decode cX10_ask 10 = .ok (.iload 4, 2) := by decide +kernel
theorem dX10_ask_12 : decode cX10_ask 12 = .ok (.ifCond .lt 9, 3) := by decide +kernel
theorem dX10_ask_15 : decode cX10_ask 15 = .ok (.iload 4, 2) := by decide +kernel
theorem dX10_ask_17 : decode cX10_ask 17 = .ok (.iconst 1, 1) := by decide +kernel
theorem dX10_ask_18 : decode cX10_ask 18 = .ok (.if_icmp .le 5, 3) := by decide +kernel
theorem dX10_ask_21 : decode cX10_ask 21 = .ok (.iconst (-1), 1) := by decide +kernel
theorem dX10_ask_22 : decode cX10_ask 22 = .ok (.ireturn, 1) := by decide +kernel
theorem dX10_ask_23 : decode cX10_ask 23 = .ok (.aload_n 0, 1) := by decide +kernel
theorem dX10_ask_24 : decode cX10_ask 24 = .ok (.getfield 23, 3) := by decide +kernel
theorem dX10_ask_27 : decode cX10_ask 27 = .ok (.iload_n 1, 1) := by decide +kernel
theorem dX10_ask_28 : decode cX10_ask 28 = .ok (.iload_n 2, 1) := by decide +kernel
theorem dX10_ask_29 : decode cX10_ask 29 = .ok (.iload_n 3, 1) := by decide +kernel
theorem dX10_ask_30 : decode cX10_ask 30 = .ok (.invokevirtual 219, 3) := by decide +kernel
theorem dX10_ask_33 : decode cX10_ask 33 = .ok (.istore 5, 2) := by decide +kernel
theorem dX10_ask_35 : decode cX10_ask 35 = .ok (.iload 5, 2) := by decide +kernel
theorem dX10_ask_37 : decode cX10_ask 37 = .ok (.ifCond .eq 9, 3) := by decide +kernel
theorem dX10_ask_40 : decode cX10_ask 40 = .ok (.bipush (-2), 2) := by decide +kernel
theorem dX10_ask_42 : decode cX10_ask 42 = .ok (.iload 5, 2) := by decide +kernel
theorem dX10_ask_44 : decode cX10_ask 44 = .ok (.isub, 1) := by decide +kernel
theorem dX10_ask_45 : decode cX10_ask 45 = .ok (.ireturn, 1) := by decide +kernel
theorem dX10_ask_46 : decode cX10_ask 46 = .ok (.aload_n 0, 1) := by decide +kernel
theorem dX10_ask_47 : decode cX10_ask 47 = .ok (.getfield 70, 3) := by decide +kernel
theorem dX10_ask_50 : decode cX10_ask 50 = .ok (.aload_n 0, 1) := by decide +kernel
theorem dX10_ask_51 : decode cX10_ask 51 = .ok (.getfield 23, 3) := by decide +kernel
theorem dX10_ask_54 : decode cX10_ask 54 = .ok (.invokevirtual 223, 3) := by decide +kernel
theorem dX10_ask_57 : decode cX10_ask 57 = .ok (.aload_n 0, 1) := by decide +kernel
theorem dX10_ask_58 : decode cX10_ask 58 = .ok (.getfield 23, 3) := by decide +kernel
theorem dX10_ask_61 : decode cX10_ask 61 = .ok (.iload_n 1, 1) := by decide +kernel
theorem dX10_ask_62 : decode cX10_ask 62 = .ok (.iload_n 2, 1) := by decide +kernel
theorem dX10_ask_63 : decode cX10_ask 63 = .ok (.iload_n 3, 1) := by decide +kernel
theorem dX10_ask_64 : decode cX10_ask 64 = .ok (.iload 4, 2) := by decide +kernel
theorem dX10_ask_66 : decode cX10_ask 66 = .ok (.iconst 1, 1) := by decide +kernel
theorem dX10_ask_67 : decode cX10_ask 67 = .ok (.if_icmp .ne 7, 3) := by decide +kernel
theorem dX10_ask_70 : decode cX10_ask 70 = .ok (.iconst 1, 1) := by decide +kernel
theorem dX10_ask_71 : decode cX10_ask 71 = .ok (.goto 4, 3) := by decide +kernel
theorem dX10_ask_74 : decode cX10_ask 74 = .ok (.iconst 0, 1) := by decide +kernel
theorem dX10_ask_75 : decode cX10_ask 75 = .ok (.aload_n 0, 1) := by decide +kernel
theorem dX10_ask_76 : decode cX10_ask 76 = .ok (.getfield 82, 3) := by decide +kernel
theorem dX10_ask_79 : decode cX10_ask 79 = .ok (.invokevirtual 226, 3) := by decide +kernel
theorem dX10_ask_82 : decode cX10_ask 82 = .ok (.ireturn, 1) := by decide +kernel
theorem dX10_deal_0 : decode cX10_deal 0 = .ok (.iload_n 1, 1) := by decide +kernel
theorem dX10_deal_1 : decode cX10_deal 1 = .ok (.iconst 1, 1) := by decide +kernel
theorem dX10_deal_2 : decode cX10_deal 2 = .ok (.if_icmp .lt 20, 3) := by decide +kernel
theorem dX10_deal_5 : decode cX10_deal 5 = .ok (.iload_n 1, 1) := by decide +kernel
theorem dX10_deal_6 : decode cX10_deal 6 = .ok (.bipush 9, 2) := by decide +kernel
theorem dX10_deal_8 : decode cX10_deal 8 = .ok (.if_icmp .gt 14, 3) := by decide +kernel
theorem dX10_deal_11 : decode cX10_deal 11 = .ok (.aload_n 0, 1) := by decide +kernel
theorem dX10_deal_12 : decode cX10_deal 12 = .ok (.getfield 23, 3) := by decide +kernel
theorem dX10_deal_15 : decode cX10_deal 15 = .ok (.iload_n 1, 1) := by decide +kernel
theorem dX10_deal_16 : decode cX10_deal 16 = .ok (.invokevirtual 320, 3) := by decide +kernel
theorem dX10_deal_19 : decode cX10_deal 19 = .ok (.ifCond .ne 5, 3) := by decide +kernel
theorem dX10_deal_22 : decode cX10_deal 22 = .ok (.iconst 0, 1) := by decide +kernel
theorem dX10_deal_23 : decode cX10_deal 23 = .ok (.ireturn, 1) := by decide +kernel
theorem dX10_deal_24 : decode cX10_deal 24 = .ok (.aload_n 0, 1) := by decide +kernel
theorem dX10_deal_25 : decode cX10_deal 25 = .ok (.getfield 70, 3) := by decide +kernel
theorem dX10_deal_28 : decode cX10_deal 28 = .ok (.aload_n 0, 1) := by decide +kernel
theorem dX10_deal_29 : decode cX10_deal 29 = .ok (.getfield 23, 3) := by decide +kernel
theorem dX10_deal_32 : decode cX10_deal 32 = .ok (.invokevirtual 223, 3) := by decide +kernel
theorem dX10_deal_35 : decode cX10_deal 35 = .ok (.aload_n 0, 1) := by decide +kernel
theorem dX10_deal_36 : decode cX10_deal 36 = .ok (.getfield 23, 3) := by decide +kernel
theorem dX10_deal_39 : decode cX10_deal 39 = .ok (.iload_n 1, 1) := by decide +kernel
theorem dX10_deal_40 : decode cX10_deal 40 = .ok (.iload_n 2, 1) := by decide +kernel
theorem dX10_deal_41 : decode cX10_deal 41 = .ok (.invokevirtual 323, 3) := by decide +kernel
theorem dX10_deal_44 : decode cX10_deal 44 = .ok (.aload_n 0, 1) := by decide +kernel
theorem dX10_deal_45 : decode cX10_deal 45 = .ok (.getfield 23, 3) := by decide +kernel
theorem dX10_deal_48 : decode cX10_deal 48 = .ok (.invokevirtual 124, 3) := by decide +kernel
theorem dX10_deal_51 : decode cX10_deal 51 = .ok (.iconst 1, 1) := by decide +kernel
theorem dX10_deal_52 : decode cX10_deal 52 = .ok (.ireturn, 1) := by decide +kernel
theorem dX10_undo_0 : decode cX10_undo 0 = .ok (.aload_n 0, 1) := by decide +kernel
theorem dX10_undo_1 : decode cX10_undo 1 = .ok (.getfield 70, 3) := by decide +kernel
theorem dX10_undo_4 : decode cX10_undo 4 = .ok (.aload_n 0, 1) := by decide +kernel
theorem dX10_undo_5 : decode cX10_undo 5 = .ok (.getfield 23, 3) := by decide +kernel
theorem dX10_undo_8 : decode cX10_undo 8 = .ok (.invokevirtual 230, 3) := by decide +kernel
theorem dX10_undo_11 : decode cX10_undo 11 = .ok (.ifCond .eq 13, 3) := by decide +kernel
theorem dX10_undo_14 : decode cX10_undo 14 = .ok (.aload_n 0, 1) := by decide +kernel
theorem dX10_undo_15 : decode cX10_undo 15 = .ok (.getfield 70, 3) := by decide +kernel
theorem dX10_undo_18 : decode cX10_undo 18 = .ok (.getfield 234, 3) := by decide +kernel
theorem dX10_undo_21 : decode cX10_undo 21 = .ok (.goto 4, 3) := by decide +kernel
theorem dX10_undo_24 : decode cX10_undo 24 = .ok (.iconst (-1), 1) := by decide +kernel
theorem dX10_undo_25 : decode cX10_undo 25 = .ok (.ireturn, 1) := by decide +kernel
theorem dX10_whom_0 : decode cX10_whom 0 = .ok (.aload_n 0, 1) := by decide +kernel
theorem dX10_whom_1 : decode cX10_whom 1 = .ok (.getfield 23, 3) := by decide +kernel
theorem dX10_whom_4 : decode cX10_whom 4 = .ok (.iload_n 1, 1) := by decide +kernel
theorem dX10_whom_5 : decode cX10_whom 5 = .ok (.invokevirtual 138, 3) := by decide +kernel
theorem dX10_whom_8 : decode cX10_whom 8 = .ok (.ifCond .eq 26, 3) := by decide +kernel
theorem dX10_whom_11 : decode cX10_whom 11 = .ok (.aload_n 0, 1) := by decide +kernel
theorem dX10_whom_12 : decode cX10_whom 12 = .ok (.getfield 23, 3) := by decide +kernel
theorem dX10_whom_15 : decode cX10_whom 15 = .ok (.getfield 156, 3) := by decide +kernel
theorem dX10_whom_18 : decode cX10_whom 18 = .ok (.iload_n 1, 1) := by decide +kernel
theorem dX10_whom_19 : decode cX10_whom 19 = .ok (.iaload, 1) := by decide +kernel
theorem dX10_whom_20 : decode cX10_whom 20 = .ok (.ifCond .eq 14, 3) := by decide +kernel
theorem dX10_whom_23 : decode cX10_whom 23 = .ok (.aload_n 0, 1) := by decide +kernel
theorem dX10_whom_24 : decode cX10_whom 24 = .ok (.getfield 23, 3) := by decide +kernel
theorem dX10_whom_27 : decode cX10_whom 27 = .ok (.getfield 277, 3) := by decide +kernel
theorem dX10_whom_30 : decode cX10_whom 30 = .ok (.iconst 2, 1) := by decide +kernel
theorem dX10_whom_31 : decode cX10_whom 31 = .ok (.if_icmp .ge 5, 3) := by decide +kernel
theorem dX10_whom_34 : decode cX10_whom 34 = .ok (.iconst (-1), 1) := by decide +kernel
theorem dX10_whom_35 : decode cX10_whom 35 = .ok (.ireturn, 1) := by decide +kernel
theorem dX10_whom_36 : decode cX10_whom 36 = .ok (.aload_n 0, 1) := by decide +kernel
theorem dX10_whom_37 : decode cX10_whom 37 = .ok (.invokevirtual 245, 3) := by decide +kernel
theorem dX10_whom_40 : decode cX10_whom 40 = .ok (.astore_n 2, 1) := by decide +kernel
theorem dX10_whom_41 : decode cX10_whom 41 = .ok (.aload_n 2, 1) := by decide +kernel
theorem dX10_whom_42 : decode cX10_whom 42 = .ok (.aload_n 0, 1) := by decide +kernel
theorem dX10_whom_43 : decode cX10_whom 43 = .ok (.getfield 23, 3) := by decide +kernel
theorem dX10_whom_46 : decode cX10_whom 46 = .ok (.iload_n 1, 1) := by decide +kernel
theorem dX10_whom_47 : decode cX10_whom 47 = .ok (.invokevirtual 249, 3) := by decide +kernel
theorem dX10_whom_50 : decode cX10_whom 50 = .ok (.ifCond .eq 15, 3) := by decide +kernel
theorem dX10_whom_53 : decode cX10_whom 53 = .ok (.aload_n 2, 1) := by decide +kernel
theorem dX10_whom_54 : decode cX10_whom 54 = .ok (.aload_n 0, 1) := by decide +kernel
theorem dX10_whom_55 : decode cX10_whom 55 = .ok (.getfield 23, 3) := by decide +kernel
theorem dX10_whom_58 : decode cX10_whom 58 = .ok (.iload_n 1, 1) := by decide +kernel
theorem dX10_whom_59 : decode cX10_whom 59 = .ok (.invokevirtual 280, 3) := by decide +kernel
theorem dX10_whom_62 : decode cX10_whom 62 = .ok (.goto 4, 3) := by decide +kernel
theorem dX10_whom_65 : decode cX10_whom 65 = .ok (.iconst (-1), 1) := by decide +kernel
theorem dX10_whom_66 : decode cX10_whom 66 = .ok (.ireturn, 1) := by decide +kernel
theorem dX10_open_0 : decode cX10_open 0 = .ok (.aload_n 0, 1) := by decide +kernel
theorem dX10_open_1 : decode cX10_open 1 = .ok (.invokevirtual 294, 3) := by decide +kernel
theorem dX10_open_4 : decode cX10_open 4 = .ok (.ifCond .eq 17, 3) := by decide +kernel
theorem dX10_open_7 : decode cX10_open 7 = .ok (.aload_n 0, 1) := by decide +kernel
theorem dX10_open_8 : decode cX10_open 8 = .ok (.invokevirtual 298, 3) := by decide +kernel
theorem dX10_open_11 : decode cX10_open 11 = .ok (.aload_n 0, 1) := by decide +kernel
theorem dX10_open_12 : decode cX10_open 12 = .ok (.getfield 23, 3) := by decide +kernel
theorem dX10_open_15 : decode cX10_open 15 = .ok (.invokevirtual 302, 3) := by decide +kernel
theorem dX10_open_18 : decode cX10_open 18 = .ok (.goto 5, 3) := by decide +kernel
theorem dX10_open_21 : decode cX10_open 21 = .ok (.bipush (-101), 2) := by decide +kernel
theorem dX10_open_23 : decode cX10_open 23 = .ok (.ireturn, 1) := by decide +kernel
theorem dX10_first_0 : decode cX10_first 0 = .ok (.aload_n 0, 1) := by decide +kernel
theorem dX10_first_1 : decode cX10_first 1 = .ok (.invokevirtual 294, 3) := by decide +kernel
theorem dX10_first_4 : decode cX10_first 4 = .ok (.ifCond .eq 17, 3) := by decide +kernel
theorem dX10_first_7 : decode cX10_first 7 = .ok (.aload_n 0, 1) := by decide +kernel
theorem dX10_first_8 : decode cX10_first 8 = .ok (.invokevirtual 298, 3) := by decide +kernel
theorem dX10_first_11 : decode cX10_first 11 = .ok (.aload_n 0, 1) := by decide +kernel
theorem dX10_first_12 : decode cX10_first 12 = .ok (.getfield 23, 3) := by decide +kernel
theorem dX10_first_15 : decode cX10_first 15 = .ok (.invokevirtual 308, 3) := by decide +kernel
theorem dX10_first_18 : decode cX10_first 18 = .ok (.goto 4, 3) := by decide +kernel
theorem dX10_first_21 : decode cX10_first 21 = .ok (.iconst (-1), 1) := by decide +kernel
theorem dX10_first_22 : decode cX10_first 22 = .ok (.ireturn, 1) := by decide +kernel
def keptW (w w' : Nat → Bool) (σ σ' : xS) : Prop := w' 10 = w 10 ∧ (w 13 = true → w' 13 = true) ∧ KT σ σ'
theorem kw_rfl {w : Nat → Bool} {σ : xS} : keptW w w σ σ := ⟨rfl, fun h => h, KT.rf⟩
theorem kw_w {w : Nat → Bool} {σ σ' : xS} (k : KT σ σ') : keptW w w σ σ' := ⟨rfl, fun h => h, k⟩
theorem kw_fr {w : Nat → Bool} {ts js : List Nat} {σ σ' : xS} (f : Fr ts js σ σ') (h1 : 1 ∉ ts := by decide) (h31 : 31 ∉ ts := by decide) : keptW w w σ σ' := kw_w (kt_fr f h1 h31)
theorem kw_t {w w' : Nat → Bool} {σ σ1 σ2 : xS} (h : keptW w w' σ σ1) (k : KT σ1 σ2) : keptW w w' σ σ2 := ⟨h.1, h.2.1, h.2.2.tr k⟩
theorem kw_l {w w' : Nat → Bool} {σ σ1 σ2 : xS} (k : KT σ σ1) (h : keptW w w' σ1 σ2) : keptW w w' σ σ2 := ⟨h.1, h.2.1, k.tr h.2.2⟩
theorem kw_on {w : Nat → Bool} {b : Nat} {σ σ' : xS} (h : b ≠ 10) (k : KT σ σ') : keptW w (wOn w b) σ σ' := ⟨if_neg (Ne.symm h), fun h1 => by unfold wOn; split; rfl; exact h1, k⟩
theorem kw_k {w w' : Nat → Bool} {σ σ' : xS} (h : keepR w σ w' σ') : keptW w w' σ σ' := ⟨h.2.1 10 (by omega), fun h1 => (h.2.1 13 (by omega)).trans h1, h.2.2 1 (by omega) (by omega), h.2.2 31 (by omega) (by omega)⟩
def Rs (_ : List xV) (σ : xS) (w : Nat → Bool) (r : Option xV) (w' : Nat → Bool) (σ' : xS) : Prop := (∃ z : Int, r = some (xvi z)) ∧ σ' 0 1 = σ 0 1 ∧ w' 9 = w 9 ∧ keptW w w' σ σ'
def Rz (_ : List xV) (σ : xS) (w : Nat → Bool) (r : Option xV) (w' : Nat → Bool) (σ' : xS) : Prop := (∃ z : Int, r = some (xvi z)) ∧ σ' 0 1 = 0 ∧ w' 9 = w 9 ∧ keptW w w' σ σ'
def Rev (as : List xV) (σ : xS) (w : Nat → Bool) (r : Option xV) (w' : Nat → Bool) (σ' : xS) : Prop := (∃ z : Int, r = some (xvi z)) ∧ (∀ l : Int, as = [xvr 0, xvi l] → ((0 ≤ l ∧ l ≤ 1) → σ' 0 1 = 0) ∧ ((l < 0 ∨ 1 < l) → σ' 0 1 = σ 0 1)) ∧ w' 9 = w 9 ∧ keptW w w' σ σ'
def pubE (ar : List xV → Prop) (R : List xV → xS → (Nat → Bool) → Option xV → (Nat → Bool) → xS → Prop) : vE := fun w as σ Q => JW w σ ∧ ar as ∧ ∀ r w' σ', JW w' σ' → R as σ w r w' σ' → Q r w' σ'
def ar0 (as : List xV) : Prop := as = [xvr 0]
def ar1 (as : List xV) : Prop := ∃ x1 : Int, as = [xvr 0, xvi x1]
def ar2 (as : List xV) : Prop := ∃ x1 x2 : Int, as = [xvr 0, xvi x1, xvi x2]
def ar3 (as : List xV) : Prop := ∃ x1 x2 x3 : Int, as = [xvr 0, xvi x1, xvi x2, xvi x3]
def ar4 (as : List xV) : Prop := ∃ x1 x2 x3 x4 : Int, as = [xvr 0, xvi x1, xvi x2, xvi x3, xvi x4]
def ar5 (as : List xV) : Prop := ∃ x1 x2 x3 x4 x5 : Int, as = [xvr 0, xvi x1, xvi x2, xvi x3, xvi x4, xvi x5]
theorem JW.keep {w w' : Nat → Bool} {σ σ' : xS} (h : JW w σ) (hk : keepR w σ w' σ') : JW w' σ' := by
  obtain ⟨h1, h2, h3⟩ := hk
  exact JW.of (by rw [h3 0 (by omega) (by omega)]; exact h.1.1) (jg_sel h.g (fun k hk => h3 _ (by omega) (by omega))) (by rw [h3 28 (by omega) (by omega)]; exact h.1.2.2.1) (by rw [h3 0 (by omega) (by omega)]; exact h.1.2.2.2.1) h1 (fun k hk hw => jg_sel (h.im k hk (by rw [← h2 _ (by omega)]; exact hw)) (fun j hj => h3 _ (by omega) (by omega))) (fun k hk hw => by rw [h3 _ (by omega) (by omega)]; exact h.sn k hk (by rw [← h2 _ (by omega)]; exact hw)) (fun k hk => by rw [h2 _ (by omega), h2 _ (by omega)]; exact h.2 k hk)
theorem JW.hi {w : Nat → Bool} {σ σ' : xS} (h : JW w σ) (hf : ∀ t, t < 181 → σ' t = σ t) : JW w σ' :=
  JW.fr h (fun t _ h2 => hf t h2) (by rw [hf 0 (by omega)]; exact h.1.1) (jg_sel h.g (fun k hk => hf _ (by omega))) (by rw [hf 28 (by omega)]; exact h.1.2.2.1) (by rw [hf 0 (by omega)]; exact h.1.2.2.2.1) (by rw [hf 39 (by omega)]; exact ⟨h.p.1, h.p.2.1⟩)
/-- a game changes, and rows that no rule speaks of -/
theorem JW.ga {w : Nat → Bool} {σ σ' : xS} (h : JW w σ) {ts : List Nat} (f : Fr ts [] σ σ') (hts : ts.all (fun t => decide (t < 47 ∧ t ≠ 28 ∧ t ≠ 39)) = true) (h2 : JG (xsel (g13 2) σ')) : JW w σ' := by
  have hu : ∀ t, (47 ≤ t ∨ t = 28 ∨ t = 39) → σ' t = σ t := fun t ht => fr0 f (fun hm => by have := of_decide_eq_true (List.all_eq_true.mp hts t hm); omega)
  have h0 : ∀ j, σ' 0 j = σ 0 j := fun j => f.2 j (by simp)
  exact JW.fr h (fun t h1 _ => hu t (Or.inl h1)) (by rw [h0]; exact h.1.1) h2 (by rw [hu 28 (by omega)]; exact h.1.2.2.1) (by rw [h0]; exact h.1.2.2.2.1) (by rw [hu 39 (by omega)]; exact ⟨h.p.1, h.p.2.1⟩)
theorem JW.ga1 {w : Nat → Bool} {σ σ' : xS} (h : JW w σ) {ts : List Nat} (f : Fr ts [1, 2] σ σ') (hts : ts.all (fun t => decide (t < 47 ∧ t ≠ 28 ∧ t ≠ 39)) = true) (hz : σ' 0 1 = 0) (h2 : JG (xsel (g13 2) σ')) : JW w σ' := by
  have hu : ∀ t, t ≠ 0 → (47 ≤ t ∨ t = 28 ∨ t = 39) → σ' t = σ t := fun t h0 ht => f.1 t h0 (fun hm => by have := of_decide_eq_true (List.all_eq_true.mp hts t hm); omega)
  exact JW.fr h (fun t h1 _ => hu t (by omega) (Or.inl h1)) (by omega) h2 (by rw [hu 28 (by omega) (by omega)]; exact h.1.2.2.1) (by rw [f.2 17 (by decide)]; exact h.1.2.2.2.1) (by rw [hu 39 (by omega) (by omega)]; exact ⟨h.p.1, h.p.2.1⟩)
theorem vLp {w : Nat → Bool} {L : List xV} (h : L.all (fun v => match v with
  | .inr (.inr (.inl u)) => decide (u < 47)
  | _ => true) = true) : ∀ u, xvr u ∈ L → (vsh w u).isSome = true := by
  intro u hu
  have h1 := List.all_eq_true.mp h _ hu
  have h2 : u < 47 := of_decide_eq_true h1
  have h3 : blkV u = 0 := by unfold blkV; rw [if_pos h2]
  obtain ⟨e2, he2⟩ : ∃ e2, wlVF0[u]? = some e2 := ⟨_, List.getElem?_eq_getElem (by rw [vLen]; omega)⟩
  rw [show vsh w u = some e2 from shW_of he2 (Or.inl h3)]
  rfl
set_option maxHeartbeats 4000000 in
set_option maxRecDepth 100000 in
theorem mvX10_ask (l : Launch) (D : va_G) (yv : Nat → ClassId) : vMt l D yv yX10_ask cX10_ask 6 (some .int) 6 (fun _ => 13) (fun _ => 331) (pubE ar4 Rs) := by
  intro a ρ w sz as σ Q hE hLK hσ has
  obtain ⟨hJ, ⟨p0, q0, k0, l0, rfl⟩, hQ⟩ := hE
  refine vEnter (N := 194) (sh := vsh w) (by decide +kernel) (Nat.le_of_ble_eq_true rfl) hσ has (fun p e s m below meth c hsz hXX hC => ?_)
  generalize va_A (xws a yv ρ 194 (vsh w) σ) sz = A at hC ⊢
  show XA (0, 0) p l e (vroom 6 ((fun _ => 13) w) ((fun _ => 331) w)) s m _ below meth c D yv a ρ 194 (vsh w) A 6 _ 0 [xvr 0, xvi p0, xvi q0, xvi k0, xvi l0, xvu] [] σ
  refine vTE (C := kX10_ask_a w) (w := w) (w0 := w) (a0 := a) (mc := 13) (ms := 331) (Z := fun c L σ1 => ∃ wn : Int, (0 ≤ p0 ∧ p0 ≤ 5) ∧ (0 ≤ q0 ∧ q0 ≤ 5) ∧ (0 ≤ k0 ∧ k0 ≤ 12) ∧ (0 ≤ l0 ∧ l0 ≤ 1) ∧ c = 46 ∧ L = [xvr 0, xvi p0, xvi q0, xvi k0, xvi l0, xvi wn] ∧ σ = σ1) ⟨(Nat.le_of_ble_eq_true rfl), (Nat.le_of_ble_eq_true rfl)⟩ hC (zX10_ask_a w) (fun v i n E he => (hX10_ask_a w l D yv v i n E he).up (Nat.le_of_ble_eq_true rfl)) (Nat.le_of_ble_eq_true rfl) (Nat.le_of_ble_eq_true rfl) rfl hLK (fun _ _ => rfl) (pX10_ask_a hJ.g (fun r σ1 f => ⟨(fun _ h => by cases h), hQ _ w σ1 (frJW hJ f) ⟨⟨_, rfl⟩, f.2 1 (by simp), rfl, kw_fr f⟩⟩) (fun wn h1 h2 h3 h4 => ⟨wn, h1, h2, h3, h4, rfl, rfl, rfl⟩)) ?_
  rintro _ _ _ ⟨wn, h1, h2, h3, h4, rfl, rfl, rfl⟩
  refine xs_aload hC (i := 0) (x := 0) dX10_ask_46 rfl ?_
  refine xs_get hC (vfi w) (foX10 70 10 10 rfl) (cd := 43) (v := xvr 39) (sh0 w) rfl rfl (fun _ => trivial) dX10_ask_47 ?_
  refine xs_aload hC (i := 0) (x := 0) dX10_ask_50 rfl ?_
  refine xs_get hC (vfi w) (foX10 23 10 3 rfl) (cd := 6) (v := xvr 2) (sh0 w) rfl rfl (fun _ => trivial) dX10_ask_51 ?_
  refine vs_callV (rest := []) (as' := [xvr 2]) (t := 39) (ci := 5) (n := 1) (codes := [44, 0, 0]) (K := fun r w' σ' => r = none ∧ keepR w σ w' σ') hC hXX (mvX5_keep l D yv) (Nat.le_of_ble_eq_true rfl) q_3_177 q_3_178 q_3_179 q_1_14 q_3_180 rfl rfl (by decide +kernel) (by decide) (Nat.le_of_ble_eq_true rfl) (Nat.le_of_ble_eq_true rfl) dX10_ask_54 (sh39 _) rfl (by decide) hLK (vLp (by rfl)) (fun u hu => by cases hu) ⟨2, rfl, Or.inl rfl, hJ.p, hJ.g, fun w' σ' h => ⟨rfl, h⟩⟩ (fun r w1 a1 ρ1 σ1 hk hLK1 hag1 => ?_)
  obtain ⟨rfl, hR⟩ := hk
  refine vTE (C := kX10_ask_b w1) (w := w1) (w0 := w) (a0 := a) (mc := 13) (ms := 331) (Z := fun _ _ _ => False) ⟨(Nat.le_of_ble_eq_true rfl), (Nat.le_of_ble_eq_true rfl)⟩ hC (zX10_ask_b w1) (fun v i n E he => (hX10_ask_b w1 l D yv v i n E he).up (Nat.le_of_ble_eq_true rfl)) (Nat.le_of_ble_eq_true rfl) (Nat.le_of_ble_eq_true rfl) rfl hLK1 hag1 (pX10_ask_b (hJ.keep hR).g h1 h2 h3 (fun r σ2 f hg => ⟨(fun _ h => by cases h), hQ _ w1 σ2 ((hJ.keep hR).ga f (by decide) hg) ⟨⟨_, rfl⟩, (f.2 1 (by simp)).trans (congrFun (hR.2.2 0 (by omega) (by omega)) 1), hR.2.1 9 (by omega), kw_t (kw_k hR) (kt_fr f)⟩⟩)) (fun _ _ _ h => h.elim)
set_option maxHeartbeats 4000000 in
set_option maxRecDepth 100000 in
theorem mvX10_deal (l : Launch) (D : va_G) (yv : Nat → ClassId) : vMt l D yv yX10_deal cX10_deal 3 (some .boolean) 6 (fun _ => 13) (fun _ => 331) (pubE ar2 Rs) := by
  intro a ρ w sz as σ Q hE hLK hσ has
  obtain ⟨hJ, ⟨n0, s0, rfl⟩, hQ⟩ := hE
  refine vEnter (N := 194) (sh := vsh w) (by decide +kernel) (Nat.le_of_ble_eq_true rfl) hσ has (fun p e s m below meth c hsz hXX hC => ?_)
  generalize va_A (xws a yv ρ 194 (vsh w) σ) sz = A at hC ⊢
  show XA (0, 0) p l e (vroom 6 ((fun _ => 13) w) ((fun _ => 331) w)) s m _ below meth c D yv a ρ 194 (vsh w) A 3 _ 0 [xvr 0, xvi n0, xvi s0] [] σ
  refine vTE (C := kX10_deal_a w) (w := w) (w0 := w) (a0 := a) (mc := 13) (ms := 331) (Z := fun c L σ1 => c = 24 ∧ L = [xvr 0, xvi n0, xvi s0] ∧ σ = σ1) ⟨(Nat.le_of_ble_eq_true rfl), (Nat.le_of_ble_eq_true rfl)⟩ hC (zX10_deal_a w) (fun v i n E he => (hX10_deal_a w l D yv v i n E he).up (Nat.le_of_ble_eq_true rfl)) (Nat.le_of_ble_eq_true rfl) (Nat.le_of_ble_eq_true rfl) rfl hLK (fun _ _ => rfl) (pX10_deal_a hJ.g (fun r σ1 f => ⟨(fun _ h => by cases h), hQ _ w σ1 (frJW hJ f) ⟨⟨_, rfl⟩, f.2 1 (by simp), rfl, kw_fr f⟩⟩) ⟨rfl, rfl, rfl⟩) ?_
  rintro _ _ _ ⟨rfl, rfl, rfl⟩
  refine xs_aload hC (i := 0) (x := 0) dX10_deal_24 rfl ?_
  refine xs_get hC (vfi w) (foX10 70 10 10 rfl) (cd := 43) (v := xvr 39) (sh0 w) rfl rfl (fun _ => trivial) dX10_deal_25 ?_
  refine xs_aload hC (i := 0) (x := 0) dX10_deal_28 rfl ?_
  refine xs_get hC (vfi w) (foX10 23 10 3 rfl) (cd := 6) (v := xvr 2) (sh0 w) rfl rfl (fun _ => trivial) dX10_deal_29 ?_
  refine vs_callV (rest := []) (as' := [xvr 2]) (t := 39) (ci := 5) (n := 1) (codes := [44, 0, 0]) (K := fun r w' σ' => r = none ∧ keepR w σ w' σ') hC hXX (mvX5_keep l D yv) (Nat.le_of_ble_eq_true rfl) q_3_177 q_3_178 q_3_179 q_1_14 q_3_180 rfl rfl (by decide +kernel) (by decide) (Nat.le_of_ble_eq_true rfl) (Nat.le_of_ble_eq_true rfl) dX10_deal_32 (sh39 _) rfl (by decide) hLK (vLp (by rfl)) (fun u hu => by cases hu) ⟨2, rfl, Or.inl rfl, hJ.p, hJ.g, fun w' σ' h => ⟨rfl, h⟩⟩ (fun r w1 a1 ρ1 σ1 hk hLK1 hag1 => ?_)
  obtain ⟨rfl, hR⟩ := hk
  refine vTE (C := kX10_deal_b w1) (w := w1) (w0 := w) (a0 := a) (mc := 13) (ms := 331) (Z := fun _ _ _ => False) ⟨(Nat.le_of_ble_eq_true rfl), (Nat.le_of_ble_eq_true rfl)⟩ hC (zX10_deal_b w1) (fun v i n E he => (hX10_deal_b w1 l D yv v i n E he).up (Nat.le_of_ble_eq_true rfl)) (Nat.le_of_ble_eq_true rfl) (Nat.le_of_ble_eq_true rfl) rfl hLK1 hag1 (pX10_deal_b (hJ.keep hR).g (fun r σ2 f hg => ⟨(fun _ h => by cases h), hQ _ w1 σ2 ((hJ.keep hR).ga f (by decide) hg.2) ⟨⟨_, rfl⟩, (f.2 1 (by simp)).trans (congrFun (hR.2.2 0 (by omega) (by omega)) 1), hR.2.1 9 (by omega), kw_t (kw_k hR) (kt_fr f)⟩⟩)) (fun _ _ _ h => h.elim)
set_option maxHeartbeats 4000000 in
set_option maxRecDepth 100000 in
theorem mvX10_undo (l : Launch) (D : va_G) (yv : Nat → ClassId) : vMt l D yv yX10_undo cX10_undo 1 (some .int) 4 (fun _ => 0) (fun _ => 0) (pubE ar0 Rs) := by
  intro a ρ w sz as σ Q hE hLK hσ has
  obtain ⟨hJ, rfl, hQ⟩ := hE
  refine vEnter (N := 194) (sh := vsh w) (by decide +kernel) (Nat.le_of_ble_eq_true rfl) hσ has (fun p e s m below meth c hsz hXX hC => ?_)
  generalize va_A (xws a yv ρ 194 (vsh w) σ) sz = A at hC ⊢
  show XA (0, 0) p l e (vroom 4 ((fun _ => 0) w) ((fun _ => 0) w)) s m _ below meth c D yv a ρ 194 (vsh w) A 1 _ 0 [xvr 0] [] σ
  refine xs_aload hC (i := 0) (x := 0) dX10_undo_0 rfl ?_
  refine xs_get hC (vfi w) (foX10 70 10 10 rfl) (cd := 43) (v := xvr 39) (sh0 w) rfl rfl (fun _ => trivial) dX10_undo_1 ?_
  refine xs_aload hC (i := 0) (x := 0) dX10_undo_4 rfl ?_
  refine xs_get hC (vfi w) (foX10 23 10 3 rfl) (cd := 6) (v := xvr 2) (sh0 w) rfl rfl (fun _ => trivial) dX10_undo_5 ?_
  refine vs_callV (rest := []) (as' := [xvr 2]) (t := 39) (ci := 5) (n := 1) (codes := [44, 0, 0]) (K := fun r w' σ' => ∃ z : Int, r = some (xvi z) ∧ w' = w ∧ (∀ t, t ∉ g13 2 → t ≠ 39 → σ' t = σ t) ∧ PV w σ' ∧ JG (xsel (g13 2) σ')) hC hXX (mvX5_takeBack l D yv) (Nat.le_of_ble_eq_true rfl) q_3_220 q_3_221 q_3_222 q_1_14 q_3_223 rfl rfl (by decide +kernel) (by decide) (Nat.le_of_ble_eq_true rfl) (Nat.le_of_ble_eq_true rfl) dX10_undo_8 (sh39 _) rfl (by decide) hLK (vLp (by rfl)) (fun u hu => by cases hu) ⟨rfl, hJ.p, hJ.g, fun r σ' h1 h2 h3 => ⟨r, rfl, rfl, h1, h2, h3⟩⟩ (fun r w1 a1 ρ1 σ1 hk hLK1 hag1 => ?_)
  obtain ⟨z, rfl, rfl, h1, h2, h3⟩ := hk
  have hJ1 : JW w1 σ1 := JW.fr hJ (fun t h5 _ => h1 t (fun hm => by obtain ⟨k3, hk3, hm⟩ := g13_mem hm; omega) (by omega)) (by rw [h1 0 (by decide) (by omega)]; exact hJ.1.1) h3 (by rw [h1 28 (by decide) (by omega)]; exact hJ.1.2.2.1) (by rw [h1 0 (by decide) (by omega)]; exact hJ.1.2.2.2.1) ⟨h2.1, h2.2.1⟩
  refine vTS (C := kX10_undo_b w1) (w := w1) (w0 := w1) (a0 := a) (mc := 0) (ms := 0) (Z := fun _ _ _ => False) ⟨(Nat.le_of_ble_eq_true rfl), (Nat.le_of_ble_eq_true rfl)⟩ hC (zX10_undo_b w1) (fun v i n E he => (hX10_undo_b w1 l D yv v i n E he).up (Nat.le_of_ble_eq_true rfl)) (Nat.le_of_ble_eq_true rfl) (Nat.le_of_ble_eq_true rfl) rfl hLK1 hag1 (pX10_undo_b (fun r σ2 f => ⟨(fun _ h => by cases h), hQ _ w1 σ2 (frJW hJ1 f) ⟨⟨_, rfl⟩, (f.2 1 (by simp)).trans (congrFun (h1 0 (by decide) (by omega)) 1), rfl, kw_w (KT.tr ⟨h1 1 (by decide) (by omega), h1 31 (by decide) (by omega)⟩ (kt_fr f))⟩⟩)) (fun _ _ _ h => h.elim)
set_option maxHeartbeats 4000000 in
set_option maxRecDepth 100000 in
theorem mvX10_whom (l : Launch) (D : va_G) (yv : Nat → ClassId) : vMt l D yv yX10_whom cX10_whom 3 (some .int) 5 (fun w => if w 13 = true then 0 else 8) (fun w => if w 13 = true then 0 else 15684) (pubE ar1 Rs) := by
  intro a ρ w sz as σ Q hE hLK hσ has
  obtain ⟨hJ, ⟨o0, rfl⟩, hQ⟩ := hE
  refine vEnter (N := 194) (sh := vsh w) (by decide +kernel) (Nat.le_of_ble_eq_true rfl) hσ has (fun p e s m below meth c hsz hXX hC => ?_)
  generalize va_A (xws a yv ρ 194 (vsh w) σ) sz = A at hC ⊢
  show XA (0, 0) p l e (vroom 5 ((fun w => if w 13 = true then 0 else 8) w) ((fun w => if w 13 = true then 0 else 15684) w)) s m _ below meth c D yv a ρ 194 (vsh w) A 3 _ 0 [xvr 0, xvi o0, xvu] [] σ
  refine vTE (C := kX10_whom_a w) (w := w) (w0 := w) (a0 := a) (mc := ((fun w => if w 13 = true then 0 else 8) w)) (ms := ((fun w => if w 13 = true then 0 else 15684) w)) (kz := (0, 0)) (Z := fun c L σ1 => (0 ≤ o0 ∧ o0 ≤ 5) ∧ c = 36 ∧ L = [xvr 0, xvi o0, xvu] ∧ σ = σ1) ⟨Nat.zero_le _, Nat.zero_le _⟩ hC (zX10_whom_a w) (fun v i n E he => (hX10_whom_a w l D yv v i n E he).up (Nat.le_of_ble_eq_true rfl)) (Nat.zero_le _) (Nat.zero_le _) rfl hLK (fun _ _ => rfl) (pX10_whom_a hJ.g (fun r σ1 f => ⟨(fun _ h => by cases h), hQ _ w σ1 (frJW hJ f) ⟨⟨_, rfl⟩, f.2 1 (by simp), rfl, kw_fr f⟩⟩) (fun h1 => ⟨h1, rfl, rfl, rfl⟩)) ?_
  rintro _ _ _ ⟨h1, rfl, rfl, rfl⟩
  refine xs_aload hC (i := 0) (x := 0) dX10_whom_36 rfl ?_
  refine vs_callV (rest := []) (as' := []) (t := 0) (ci := 10) (n := 0) (K := fun r w' σ' => r = some (xvr 181) ∧ w' = wOn w 13 ∧ ∀ t, blkV t ≠ 13 → σ' t = σ t) hC hXX (mvX10_takeOnlooker l D yv) (Nat.le_of_ble_eq_true rfl) q_3_238 q_4_0 q_p_18 q_1_1 q_4_1 rfl rfl (by decide +kernel) (by decide) (Nat.le_of_eq (Nat.zero_add _)) (Nat.le_of_eq (Nat.zero_add _)) dX10_whom_37 (sh0 _) rfl (by decide) hLK (vLp (by rfl)) (fun u hu => by cases hu) ⟨rfl, fun σ' h => ⟨rfl, rfl, h⟩⟩ (fun r w1 a1 ρ1 σ1 hk hLK1 hag1 => ?_)
  obtain ⟨rfl, rfl, h0⟩ := hk
  have hJ1 : JW (wOn w 13) σ1 := (hJ.hi (fun t ht => h0 t (by unfold blkV; split <;> (try split) <;> (try split) <;> (try split) <;> omega))).w (fun c hc => if_neg (by omega))
  refine xs_astore hC (i := 2) (x := 181) dX10_whom_40 (Nat.le_of_ble_eq_true rfl) ?_
  show XA _ p l e _ s m _ below meth c D yv a1 ρ1 194 (vsh (wOn w 13)) A 3 _ 41 [xvr 0, xvi o0, xvr 181] [] σ1
  refine vTE (C := kX10_whom_b (wOn w 13)) (w := (wOn w 13)) (w0 := w) (a0 := a) (mc := ((fun w => if w 13 = true then 0 else 8) w)) (ms := ((fun w => if w 13 = true then 0 else 15684) w)) (kz := (0 + (fun w => if w 13 = true then 0 else 8) w, 0 + (fun w => if w 13 = true then 0 else 15684) w)) (Z := fun _ _ _ => False) ⟨Nat.le_of_eq (Nat.zero_add _), Nat.le_of_eq (Nat.zero_add _)⟩ hC (zX10_whom_b (wOn w 13)) (fun v i n E he => (hX10_whom_b (wOn w 13) (if_pos rfl) l D yv v i n E he).up (Nat.le_of_ble_eq_true rfl)) (Nat.le_of_eq (Nat.zero_add _)) (Nat.le_of_eq (Nat.zero_add _)) rfl hLK1 hag1 (pX10_whom_b hJ1.g h1 (fun r σ2 f => ⟨(fun _ h => by cases h), hQ _ (wOn w 13) σ2 (hJ1.hi (fun t ht => fr0 f (fun hm => by simp only [List.mem_cons, List.not_mem_nil, or_false] at hm; omega))) ⟨⟨_, rfl⟩, (f.2 1 (by simp)).trans (congrFun (h0 0 (by decide)) 1), rfl, kw_on (by decide) (KT.tr ⟨h0 1 (by decide), h0 31 (by decide)⟩ (kt_fr f))⟩⟩)) (fun _ _ _ h => h.elim)
set_option maxHeartbeats 4000000 in
set_option maxRecDepth 100000 in
theorem mvX10_open (l : Launch) (D : va_G) (yv : Nat → ClassId) : vMt l D yv yX10_open cX10_open 1 (some .int) 47 (fun _ => 5) (fun _ => 2526) (pubE ar0 Rs) := by
  intro a ρ w sz as σ Q hE hLK hσ has
  obtain ⟨hJ, rfl, hQ⟩ := hE
  refine vEnter (N := 194) (sh := vsh w) (by decide +kernel) (Nat.le_of_ble_eq_true rfl) hσ has (fun p e s m below meth c hsz hXX hC => ?_)
  generalize va_A (xws a yv ρ 194 (vsh w) σ) sz = A at hC ⊢
  show XA (0, 0) p l e (vroom 47 ((fun _ => 5) w) ((fun _ => 2526) w)) s m _ below meth c D yv a ρ 194 (vsh w) A 1 _ 0 [xvr 0] [] σ
  refine vTE (C := kX10_open_a w) (w := w) (w0 := w) (a0 := a) (mc := 5) (ms := 2526) (Z := fun c L σ1 => σ 2 0 ≤ 3 ∧ c = 7 ∧ L = [xvr 0] ∧ σ = σ1) ⟨(Nat.le_of_ble_eq_true rfl), (Nat.le_of_ble_eq_true rfl)⟩ hC (zX10_open_a w) (fun v i n E he => (hX10_open_a w l D yv v i n E he).up (Nat.le_of_ble_eq_true rfl)) (Nat.le_of_ble_eq_true rfl) (Nat.le_of_ble_eq_true rfl) rfl hLK (fun _ _ => rfl) (pX10_open_a hJ.g (fun r σ1 f => ⟨(fun _ h => by cases h), hQ _ w σ1 (frJW hJ f) ⟨⟨_, rfl⟩, f.2 1 (by simp), rfl, kw_fr f⟩⟩) (fun h1 => ⟨h1, rfl, rfl, rfl⟩)) ?_
  rintro _ _ _ ⟨h1, rfl, rfl, rfl⟩
  refine xs_aload hC (i := 0) (x := 0) dX10_open_7 rfl ?_
  refine vs_callV (rest := []) (as' := []) (t := 0) (ci := 10) (n := 0) (K := fun r w' σ' => r = some (xvr 189) ∧ w' = wOn w 14 ∧ ∀ t, blkV t ≠ 14 → σ' t = σ t) hC hXX (mvX10_takeDuel l D yv) (Nat.le_of_ble_eq_true rfl) q_4_137 q_4_139 q_p_28 q_1_1 q_4_140 rfl rfl (by decide +kernel) (by decide) (Nat.le_of_ble_eq_true rfl) (Nat.le_of_ble_eq_true rfl) dX10_open_8 (sh0 _) rfl (by decide) hLK (vLp (by rfl)) (fun u hu => by cases hu) ⟨rfl, fun σ' h => ⟨rfl, rfl, h⟩⟩ (fun r w1 a1 ρ1 σ1 hk hLK1 hag1 => ?_)
  obtain ⟨rfl, rfl, h0⟩ := hk
  have hJ1 : JW (wOn w 14) σ1 := (hJ.hi (fun t ht => h0 t (by unfold blkV; split <;> (try split) <;> (try split) <;> (try split) <;> omega))).w (fun c hc => if_neg (by omega))
  refine vTS (C := kX10_open_b (wOn w 14)) (w := (wOn w 14)) (w0 := w) (a0 := a) (mc := 5) (ms := 2526) (Z := fun _ _ _ => False) ⟨(Nat.le_of_ble_eq_true rfl), (Nat.le_of_ble_eq_true rfl)⟩ hC (zX10_open_b (wOn w 14)) (fun v i n E he => (hX10_open_b (wOn w 14) (if_pos rfl) l D yv v i n E he).up (Nat.le_of_ble_eq_true rfl)) (Nat.le_of_ble_eq_true rfl) (Nat.le_of_ble_eq_true rfl) rfl hLK1 hag1 (pX10_open_b hJ1.g (by rw [h0 2 (by decide)]; exact h1) (fun r σ2 f => ⟨(fun _ h => by cases h), hQ _ (wOn w 14) σ2 (hJ1.hi (fun t ht => fr0 f (fun hm => by simp only [List.mem_cons, List.not_mem_nil, or_false] at hm; omega))) ⟨⟨_, rfl⟩, (f.2 1 (by simp)).trans (congrFun (h0 0 (by decide)) 1), rfl, kw_on (by decide) (KT.tr ⟨h0 1 (by decide), h0 31 (by decide)⟩ (kt_fr f))⟩⟩)) (fun _ _ _ h => h.elim)
set_option maxHeartbeats 4000000 in
set_option maxRecDepth 100000 in
theorem mvX10_first (l : Launch) (D : va_G) (yv : Nat → ClassId) : vMt l D yv yX10_first cX10_first 1 (some .int) 47 (fun _ => 5) (fun _ => 2526) (pubE ar0 Rs) := by
  intro a ρ w sz as σ Q hE hLK hσ has
  obtain ⟨hJ, rfl, hQ⟩ := hE
  refine vEnter (N := 194) (sh := vsh w) (by decide +kernel) (Nat.le_of_ble_eq_true rfl) hσ has (fun p e s m below meth c hsz hXX hC => ?_)
  generalize va_A (xws a yv ρ 194 (vsh w) σ) sz = A at hC ⊢
  show XA (0, 0) p l e (vroom 47 ((fun _ => 5) w) ((fun _ => 2526) w)) s m _ below meth c D yv a ρ 194 (vsh w) A 1 _ 0 [xvr 0] [] σ
  refine vTE (C := kX10_first_a w) (w := w) (w0 := w) (a0 := a) (mc := 5) (ms := 2526) (Z := fun c L σ1 => σ 2 0 ≤ 3 ∧ c = 7 ∧ L = [xvr 0] ∧ σ = σ1) ⟨(Nat.le_of_ble_eq_true rfl), (Nat.le_of_ble_eq_true rfl)⟩ hC (zX10_first_a w) (fun v i n E he => (hX10_first_a w l D yv v i n E he).up (Nat.le_of_ble_eq_true rfl)) (Nat.le_of_ble_eq_true rfl) (Nat.le_of_ble_eq_true rfl) rfl hLK (fun _ _ => rfl) (pX10_first_a hJ.g (fun r σ1 f => ⟨(fun _ h => by cases h), hQ _ w σ1 (frJW hJ f) ⟨⟨_, rfl⟩, f.2 1 (by simp), rfl, kw_fr f⟩⟩) (fun h1 => ⟨h1, rfl, rfl, rfl⟩)) ?_
  rintro _ _ _ ⟨h1, rfl, rfl, rfl⟩
  refine xs_aload hC (i := 0) (x := 0) dX10_first_7 rfl ?_
  refine vs_callV (rest := []) (as' := []) (t := 0) (ci := 10) (n := 0) (K := fun r w' σ' => r = some (xvr 189) ∧ w' = wOn w 14 ∧ ∀ t, blkV t ≠ 14 → σ' t = σ t) hC hXX (mvX10_takeDuel l D yv) (Nat.le_of_ble_eq_true rfl) q_4_137 q_4_139 q_p_28 q_1_1 q_4_140 rfl rfl (by decide +kernel) (by decide) (Nat.le_of_ble_eq_true rfl) (Nat.le_of_ble_eq_true rfl) dX10_first_8 (sh0 _) rfl (by decide) hLK (vLp (by rfl)) (fun u hu => by cases hu) ⟨rfl, fun σ' h => ⟨rfl, rfl, h⟩⟩ (fun r w1 a1 ρ1 σ1 hk hLK1 hag1 => ?_)
  obtain ⟨rfl, rfl, h0⟩ := hk
  have hJ1 : JW (wOn w 14) σ1 := (hJ.hi (fun t ht => h0 t (by unfold blkV; split <;> (try split) <;> (try split) <;> (try split) <;> omega))).w (fun c hc => if_neg (by omega))
  refine vTS (C := kX10_first_b (wOn w 14)) (w := (wOn w 14)) (w0 := w) (a0 := a) (mc := 5) (ms := 2526) (Z := fun _ _ _ => False) ⟨(Nat.le_of_ble_eq_true rfl), (Nat.le_of_ble_eq_true rfl)⟩ hC (zX10_first_b (wOn w 14)) (fun v i n E he => (hX10_first_b (wOn w 14) (if_pos rfl) l D yv v i n E he).up (Nat.le_of_ble_eq_true rfl)) (Nat.le_of_ble_eq_true rfl) (Nat.le_of_ble_eq_true rfl) rfl hLK1 hag1 (pX10_first_b hJ1.g (by rw [h0 2 (by decide)]; exact h1) (fun r σ2 f => ⟨(fun _ h => by cases h), hQ _ (wOn w 14) σ2 (hJ1.hi (fun t ht => fr0 f (fun hm => by simp only [List.mem_cons, List.not_mem_nil, or_false] at hm; omega))) ⟨⟨_, rfl⟩, (f.2 1 (by simp)).trans (congrFun (h0 0 (by decide)) 1), rfl, kw_on (by decide) (KT.tr ⟨h0 1 (by decide), h0 31 (by decide)⟩ (kt_fr f))⟩⟩)) (fun _ _ _ h => h.elim)
