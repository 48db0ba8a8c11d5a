/-! the words that the rows use, each by its place in the tables; printed by wip/p2/genx.py -/
theorem q_p_3 : Cond.selects RX9 yX9_readLine yX9_readLine ∈ gw := gw_s (y := yX9_readLine) (n := 4) (List.mem_append_left _ (List.mem_of_getElem? (i := 3) (by decide +kernel)))
theorem q_p_48 : Cond.selects RX1 yX1_readLine yX1_readLine ∈ gw := gw_s (y := yX1_readLine) (n := 3) (List.mem_append_right _ (List.mem_append_right _ (List.mem_append_right _ (List.mem_append_left _ (List.mem_of_getElem? (i := 0) (by decide +kernel))))))
theorem q_1_14 : Cond.initialized RX5 ∈ gw := gw_1 14 (by decide +kernel) rfl
theorem q_2_184 : Cond.methodLink RX9 27 yX2_clear ∈ gw := gw_2 184 (by decide +kernel) rfl
theorem q_2_185 : Cond.instanceMethod yX2_clear ∈ gw := gw_2 185 (by decide +kernel) rfl
theorem q_2_186 : Cond.selects RX2 yX2_clear yX2_clear ∈ gw := gw_2 186 (by decide +kernel) rfl
theorem q_2_187 : Cond.code yX2_clear cX2_clear 1 none ∈ gw := gw_2 187 (by decide +kernel) rfl
theorem q_2_192 : Cond.methodLink RX9 32 yJ7_fill_53178 ∈ gw := gw_2 192 (by decide +kernel) rfl
theorem q_2_197 : Cond.methodLink RX6 62 yJ9_min_7cf53 ∈ gw := gw_2 197 (by decide +kernel) rfl
theorem q_2_212 : Cond.methodLink RX9 48 yX9_readLine ∈ gw := gw_2 212 (by decide +kernel) rfl
theorem q_2_214 : Cond.instanceMethod yX9_readLine ∈ gw := gw_2 214 (by decide +kernel) rfl
theorem q_2_215 : Cond.code yX9_readLine cX9_readLine 2 (some .boolean) ∈ gw := gw_2 215 (by decide +kernel) rfl
theorem q_2_90 : Cond.fieldLink RX5 11 "SevenTable$Past" "kept" "[LSevenTable$Game;" ∈ gw := gw_2 90 (by decide +kernel) rfl
theorem q_2_91 : Cond.fieldLink RX5 15 "SevenTable$Past" "top" "I" ∈ gw := gw_2 91 (by decide +kernel) rfl
theorem q_2_92 : Cond.fieldLink RX5 19 "SevenTable$Past" "size" "I" ∈ gw := gw_2 92 (by decide +kernel) rfl
theorem q_3_100 : Cond.instanceMethod yX7_clear ∈ gw := gw_3 100 (by decide +kernel) rfl
theorem q_3_101 : Cond.selects RX7 yX7_clear yX7_clear ∈ gw := gw_3 101 (by decide +kernel) rfl
theorem q_3_102 : Cond.code yX7_clear cX7_clear 1 none ∈ gw := gw_3 102 (by decide +kernel) rfl
theorem q_3_103 : Cond.methodLink RX10 134 yX5_clear ∈ gw := gw_3 103 (by decide +kernel) rfl
theorem q_3_104 : Cond.instanceMethod yX5_clear ∈ gw := gw_3 104 (by decide +kernel) rfl
theorem q_3_105 : Cond.selects RX5 yX5_clear yX5_clear ∈ gw := gw_3 105 (by decide +kernel) rfl
theorem q_3_106 : Cond.code yX5_clear cX5_clear 1 none ∈ gw := gw_3 106 (by decide +kernel) rfl
theorem q_3_36 : Cond.methodLink RX9 52 yX6_pass ∈ gw := gw_3 36 (by decide +kernel) rfl
theorem q_3_99 : Cond.methodLink RX10 131 yX7_clear ∈ gw := gw_3 99 (by decide +kernel) rfl
theorem q_5_101 : Cond.instanceMethod yX1_readLine ∈ gw := gw_5 101 (by decide +kernel) rfl
theorem q_5_102 : Cond.code yX1_readLine cX1_readLine 2 (some .boolean) ∈ gw := gw_5 102 (by decide +kernel) rfl
theorem q_5_146 : Cond.methodLink RX8 26 yX7_clear ∈ gw := gw_5 146 (by decide +kernel) rfl
theorem q_5_182 : Cond.methodLink RX10 348 yX7_copyFrom ∈ gw := gw_5 182 (by decide +kernel) rfl
theorem q_5_183 : Cond.instanceMethod yX7_copyFrom ∈ gw := gw_5 183 (by decide +kernel) rfl
theorem q_5_184 : Cond.selects RX7 yX7_copyFrom yX7_copyFrom ∈ gw := gw_5 184 (by decide +kernel) rfl
theorem q_5_185 : Cond.code yX7_copyFrom cX7_copyFrom 2 none ∈ gw := gw_5 185 (by decide +kernel) rfl
theorem q_5_99 : Cond.methodLink RX1 33 yX1_readLine ∈ gw := gw_5 99 (by decide +kernel) rfl
theorem mSE (l : Launch) (D : va_G) (yv : Nat → ClassId) : ∀ n : Nat, xMt l D yv yX8_readOne cX8_readOne 4 (some .boolean) (3 + 3 * n) 19 shS (SE n) ∧ xMt l D yv yX8_readAll cX8_readAll 4 (some .boolean) (3 + 3 * n + 1) 19 shS (SE n) ∧ xMt l D yv yX8_readCond cX8_readCond 4 (some .boolean) (3 + 3 * n + 1 + 1) 19 shS (SE n) := by
  have two : ∀ n : Nat, xMt l D yv yX8_readOne cX8_readOne 4 (some .boolean) (3 + 3 * n) 19 shS (SE n) → xMt l D yv yX8_readAll cX8_readAll 4 (some .boolean) (3 + 3 * n + 1) 19 shS (SE n) ∧ xMt l D yv yX8_readCond cX8_readCond 4 (some .boolean) (3 + 3 * n + 1 + 1) 19 shS (SE n) := by
    intro n h
    have h1 : xMt l D yv yX8_readAll cX8_readAll 4 (some .boolean) (3 + 3 * n + 1) 19 shS (SE n) := (mX8_readAll l D yv (d := 3 + 3 * n) (by omega) h).mono (fun as σ Q h => by obtain ⟨depth, rfl, h0, h1, h2, h3, hQ⟩ := h; exact sX8_readAll h0 h1 h2 h3 hQ)
    exact ⟨h1, (mX8_readCond l D yv (d := 3 + 3 * n + 1) (by omega) h1).mono (fun as σ Q h => by obtain ⟨depth, rfl, h0, h1, h2, h3, hQ⟩ := h; exact sX8_readCond h0 h1 h2 h3 hQ)⟩
  intro n
  induction n with
  | zero =>
    have h0 : xMt l D yv yX8_readOne cX8_readOne 4 (some .boolean) (3 + 3 * 0) 19 shS (SE 0) := by
      intro a ρ sz as σ Q h; obtain ⟨depth, _, h, _⟩ := h; exfalso; omega
    exact ⟨h0, two 0 h0⟩
  | succ n ih =>
    have h0 : xMt l D yv yX8_readOne cX8_readOne 4 (some .boolean) (3 + 3 * (n + 1)) 19 shS (SE (n + 1)) := (mX8_readOne l D yv (d := 3 + 3 * n + 1 + 1) (dEC := 3 + 3 * n + 1 + 1) (dEO := 3 + 3 * n) (by omega) (by omega) (by omega) ih.2.2 ih.1).mono (fun as σ Q h => by obtain ⟨depth, rfl, h0, h1, h2, h3, hQ⟩ := h; exact sX8_readOne h0 h1 h2 h3 hQ)
    exact ⟨h0, two (n + 1) h0⟩
/-- the world R0 -/
def wlR0 : List (Nat × Nat × List Nat) := [(0, 6, [5, 3, 0, 0, 0, 0, 0, 0, 1, 0, 0]), (3, 19, []), (1, 940, [])]
def shR0 : xH := fun t => wlR0[t]?
theorem fiR0 : xfin 3 shR0 := xfin_l wlR0
theorem okR0 : xShp shR0 ∧ xLn shR0 := xSh_ok (l := wlR0) ⟨⟨RX6, TX6, 11, rfl, by decide +kernel⟩, (by decide : 19 < 2147483648), (by decide : 940 < 2147483648), trivial⟩
/-- the world T0 -/
def wlT0 : List (Nat × Nat × List Nat) := [(0, 9, [6, 5, 2, 0]), (2, 13, []), (0, 6, [7, 3, 0, 0, 0, 0, 0, 0, 1, 0, 0]), (3, 19, []), (1, 940, []), (0, 2, [0, 0, 2, 0, 10, 11, 12, 13, 0, 0, 14, 15, 16, 17, 0, 0, 0, 18]), (3, 6, []), (2, 78, []), (2, 6, []), (2, 52, []), (2, 13, []), (2, 6, []), (2, 6, []), (2, 6, []), (0, 3, [19, 20, 0, 21]), (2, 78, []), (2, 52, []), (2, 6, [])]
def shT0 : xH := fun t => wlT0[t]?
theorem fiT0 : xfin 18 shT0 := xfin_l wlT0
theorem okT0 : xShp shT0 ∧ xLn shT0 := xSh_ok (l := wlT0) ⟨⟨RX9, TX9, 4, rfl, by decide +kernel⟩, (by decide : 13 < 2147483648), ⟨RX6, TX6, 11, rfl, by decide +kernel⟩, (by decide : 19 < 2147483648), (by decide : 940 < 2147483648), ⟨RX2, TX2, 18, rfl, by decide +kernel⟩, (by decide : 6 < 2147483648), (by decide : 78 < 2147483648), (by decide : 6 < 2147483648), (by decide : 52 < 2147483648), (by decide : 13 < 2147483648), (by decide : 6 < 2147483648), (by decide : 6 < 2147483648), (by decide : 6 < 2147483648), ⟨RX3, TX3, 4, rfl, by decide +kernel⟩, (by decide : 78 < 2147483648), (by decide : 52 < 2147483648), (by decide : 6 < 2147483648), trivial⟩
/-- the world E0 -/
def wlE0 : List (Nat × Nat × List Nat) := [(0, 1, [6, 5, 0]), (2, 120, []), (0, 6, [7, 3, 0, 0, 0, 0, 0, 0, 1, 0, 0]), (3, 19, []), (1, 940, []), (0, 2, [0, 0, 2, 0, 10, 11, 12, 13, 0, 0, 14, 15, 16, 17, 0, 0, 0, 18]), (3, 6, []), (2, 78, []), (2, 6, []), (2, 52, []), (2, 13, []), (2, 6, []), (2, 6, []), (2, 6, []), (0, 3, [19, 20, 0, 21]), (2, 78, []), (2, 52, []), (2, 6, [])]
def shE0 : xH := fun t => wlE0[t]?
theorem fiE0 : xfin 18 shE0 := xfin_l wlE0
theorem okE0 : xShp shE0 ∧ xLn shE0 := xSh_ok (l := wlE0) ⟨⟨RX1, TX1, 3, rfl, by decide +kernel⟩, (by decide : 120 < 2147483648), ⟨RX6, TX6, 11, rfl, by decide +kernel⟩, (by decide : 19 < 2147483648), (by decide : 940 < 2147483648), ⟨RX2, TX2, 18, rfl, by decide +kernel⟩, (by decide : 6 < 2147483648), (by decide : 78 < 2147483648), (by decide : 6 < 2147483648), (by decide : 52 < 2147483648), (by decide : 13 < 2147483648), (by decide : 6 < 2147483648), (by decide : 6 < 2147483648), (by decide : 6 < 2147483648), ⟨RX3, TX3, 4, rfl, by decide +kernel⟩, (by decide : 78 < 2147483648), (by decide : 52 < 2147483648), (by decide : 6 < 2147483648), trivial⟩
/-- the world S0 -/
def wlS0 : List (Nat × Nat × List Nat) := [(0, 8, [7, 5, 0]), (0, 7, [6, 0]), (2, 40, []), (0, 6, [8, 3, 0, 0, 0, 0, 0, 0, 1, 0, 0]), (3, 19, []), (1, 940, []), (0, 2, [0, 0, 2, 0, 11, 12, 13, 14, 0, 0, 15, 16, 17, 18, 0, 0, 0, 19]), (3, 6, []), (2, 78, []), (2, 6, []), (2, 52, []), (2, 13, []), (2, 6, []), (2, 6, []), (2, 6, []), (0, 3, [20, 21, 0, 22]), (2, 78, []), (2, 52, []), (2, 6, [])]
def shS0 : xH := fun t => wlS0[t]?
theorem fiS0 : xfin 19 shS0 := xfin_l wlS0
theorem okS0 : xShp shS0 ∧ xLn shS0 := xSh_ok (l := wlS0) ⟨⟨RX8, TX8, 3, rfl, by decide +kernel⟩, ⟨RX7, TX7, 2, rfl, by decide +kernel⟩, (by decide : 40 < 2147483648), ⟨RX6, TX6, 11, rfl, by decide +kernel⟩, (by decide : 19 < 2147483648), (by decide : 940 < 2147483648), ⟨RX2, TX2, 18, rfl, by decide +kernel⟩, (by decide : 6 < 2147483648), (by decide : 78 < 2147483648), (by decide : 6 < 2147483648), (by decide : 52 < 2147483648), (by decide : 13 < 2147483648), (by decide : 6 < 2147483648), (by decide : 6 < 2147483648), (by decide : 6 < 2147483648), ⟨RX3, TX3, 4, rfl, by decide +kernel⟩, (by decide : 78 < 2147483648), (by decide : 52 < 2147483648), (by decide : 6 < 2147483648), trivial⟩
def tX6_begin_b : List (Nat × Bool × List xI) := [(5, true, [(5, .aload_n 0, 1), (6, .iload_n 2, 1), (7, .aload_n 1, 1), (8, .arraylength, 1), (9, .invokestatic 62, 3), (12, .putfield 19, 3), (15, .aload_n 0, 1), (16, .iload_n 3, 1), (17, .putfield 23, 3), (20, .aload_n 0, 1), (21, .iconst 0, 1), (22, .putfield 26, 3), (25, .aload_n 0, 1), (26, .iconst 0, 1), (27, .putfield 42, 3), (30, .aload_n 0, 1), (31, .iconst 0, 1), (32, .putfield 45, 3), (35, .aload_n 0, 1), (36, .invokevirtual 68, 3), (39, .return_, 1)])]
def eX6_begin_b : List (Bool × Nat × Nat × xE) := [(false, 62, 2, xMin), (true, 68, 1, xIV shR 6 (xT kX6_advance))]
def kX6_begin_b : xC := (shR, xlk flX6, xlk coX6, xenv eX6_begin_b, tX6_begin_b, 0, 4)
theorem zX6_begin_b : xSt RX6 cX6_begin kX6_begin_b 3 := ⟨fiR, okR.1, okR.2, foX6, cnX6, by decide +kernel⟩
theorem hX6_begin_b (l : Launch) (D : va_G) (yv : Nat → ClassId) : ∀ (v : Bool) i n E, kX6_begin_b.2.2.2.1 (2 * i + if v then 0 else 1) = some (n, E) → xCk l D yv RX6 cX6_begin 2 3 kX6_begin_b.1 v i n E := xenv_ok (L := eX6_begin_b) ⟨(xCk_min q_2_197 q_2_198 q_1_16 q_2_199).up (by decide), (xCk_IV (n := 0) (mX6_advance l D yv) q_2_200 q_2_201 q_2_202 q_1_6 q_2_203 rfl rfl (by decide +kernel) (by decide) fiR).up (by decide), trivial⟩
def tX9_read_a : List (Nat × Bool × List xI) := [(0, true, [(0, .aload_n 3, 1), (1, .invokevirtual 27, 3), (4, .aload_n 0, 1), (5, .getfield 9, 3), (8, .iconst 0, 1), (9, .invokestatic 32, 3), (12, .aload_n 0, 1), (13, .iconst 0, 1), (14, .putfield 15, 3), (17, .aload_n 0, 1), (18, .iconst 0, 1), (19, .putfield 19, 3), (22, .nop, 0)])]
def eX9_read_a : List (Bool × Nat × Nat × xE) := [(true, 27, 1, xMV shT0 2 [5, 6, 7, 8, 9, 10, 11, 12, 13, 14, 15, 16, 17] (xT kX2_clear)), (false, 32, 2, xFill shT0)]
def kX9_read_a : xC := (shT0, xlk flX9, xlk coX9, xenv eX9_read_a, tX9_read_a, 2, 4)
theorem zX9_read_a : xSt RX9 cX9_read kX9_read_a 18 := ⟨fiT0, okT0.1, okT0.2, foX9, cnX9, by decide +kernel⟩
theorem hX9_read_a (l : Launch) (D : va_G) (yv : Nat → ClassId) : ∀ (v : Bool) i n E, kX9_read_a.2.2.2.1 (2 * i + if v then 0 else 1) = some (n, E) → xCk l D yv RX9 cX9_read 3 18 kX9_read_a.1 v i n E := xenv_ok (L := eX9_read_a) ⟨(xCk_MV (n := 0) (τ := [5, 6, 7, 8, 9, 10, 11, 12, 13, 14, 15, 16, 17]) (mX2_clear l D yv) (xsubB_ok (l' := wlG) (l := wlT0) (by decide +kernel)) q_2_184 q_2_185 q_2_186 q_1_2 q_2_187 rfl rfl (by decide +kernel) (by decide) fiT0).up (by decide), (xCk_fill q_2_192 q_1_62 q_1_4 q_1_63 fiT0).up (by decide), trivial⟩
def tX9_read_b : List (Nat × Bool × List xI) := [(34, true, [(34, .aload_n 0, 1), (35, .getfield 19, 3), (38, .sipush 900, 3), (41, .if_icmp .ge 51, 3), (44, .aload_n 0, 1), (45, .getfield 23, 3), (48, .sipush 302, 3), (51, .invokevirtual 44, 3), (54, .ifCond .ne 38, 3), (57, .aload_n 0, 1), (58, .aload_n 3, 1), (59, .invokevirtual 48, 3), (62, .ifCond .eq 15, 3), (65, .aload_n 0, 1), (66, .getfield 23, 3), (69, .bipush 59, 2), (71, .invokevirtual 52, 3), (74, .ifCond .ne 5, 3), (77, .nop, 0)]), (77, true, [(77, .iconst 0, 1), (78, .ireturn, 1)]), (79, false, [(79, .aload_n 0, 1), (80, .dup, 1), (81, .getfield 19, 3), (84, .iconst 1, 1), (85, .iadd, 1), (86, .putfield 19, 3), (89, .goto (-55), 3)]), (92, true, [(92, .aload_n 0, 1), (93, .getfield 23, 3), (96, .sipush 302, 3), (99, .invokevirtual 44, 3), (102, .ifCond .ne 14, 3), (105, .aload_n 0, 1), (106, .getfield 23, 3), (109, .iconst 1, 1), (110, .invokevirtual 55, 3), (113, .ifCond .eq 7, 3), (116, .nop, 0)]), (116, true, [(116, .iconst 1, 1), (117, .goto 4, 3)]), (120, false, [(120, .iconst 0, 1), (121, .nop, 0)]), (121, false, [(121, .ireturn, 1)])]
def eX9_read_b : List (Bool × Nat × Nat × xE) := [(true, 44, 2, xMV shT 6 [2, 3, 4] (xT kX6_isAt)), (true, 48, 2, xIV shT 9 (xT kX9_readLine)), (true, 52, 2, xMV shT 6 [2, 3, 4] (xT kX6_pass)), (true, 55, 2, xMV shT 6 [2, 3, 4] (xT kX6_fail))]
def kX9_read_b : xC := (shT, xlk flX9, xlk coX9, xenv eX9_read_b, tX9_read_b, 2, 4)
theorem zX9_read_b : xSt RX9 cX9_read kX9_read_b 18 := ⟨fiT, okT.1, okT.2, foX9, cnX9, by decide +kernel⟩
theorem hX9_read_b (l : Launch) (D : va_G) (yv : Nat → ClassId) : ∀ (v : Bool) i n E, kX9_read_b.2.2.2.1 (2 * i + if v then 0 else 1) = some (n, E) → xCk l D yv RX9 cX9_read 4 18 kX9_read_b.1 v i n E := xenv_ok (L := eX9_read_b) ⟨(xCk_MV (n := 1) (τ := [2, 3, 4]) (mX6_isAt l D yv) (xsubB_ok (l' := wlR) (l := wlT) (by decide +kernel)) q_2_208 q_2_209 q_2_210 q_1_6 q_2_211 rfl rfl (by decide +kernel) (by decide) fiT).up (by decide), (xCk_IV (n := 1) (mX9_readLine l D yv) q_2_212 q_2_214 q_p_3 q_1_11 q_2_215 rfl rfl (by decide +kernel) (by decide) fiT).up (by decide), (xCk_MV (n := 1) (τ := [2, 3, 4]) (mX6_pass l D yv) (xsubB_ok (l' := wlR) (l := wlT) (by decide +kernel)) q_3_36 q_3_37 q_3_38 q_1_6 q_3_39 rfl rfl (by decide +kernel) (by decide) fiT).up (by decide), (xCk_MV (n := 1) (τ := [2, 3, 4]) (mX6_fail l D yv) (xsubB_ok (l' := wlR) (l := wlT) (by decide +kernel)) q_2_220 q_2_221 q_2_222 q_1_6 q_2_223 rfl rfl (by decide +kernel) (by decide) fiT).up (by decide), trivial⟩
def tX1_read_a : List (Nat × Bool × List xI) := [(0, true, [(0, .aload_n 0, 1), (1, .iconst 0, 1), (2, .putfield 15, 3), (5, .nop, 0)])]
def eX1_read_a : List (Bool × Nat × Nat × xE) := []
def kX1_read_a : xC := (shE0, xlk flX1, xlk coX1, xenv eX1_read_a, tX1_read_a, 2, 4)
theorem zX1_read_a : xSt RX1 cX1_read kX1_read_a 18 := ⟨fiE0, okE0.1, okE0.2, foX1, cnX1, by decide +kernel⟩
theorem hX1_read_a (l : Launch) (D : va_G) (yv : Nat → ClassId) : ∀ (v : Bool) i n E, kX1_read_a.2.2.2.1 (2 * i + if v then 0 else 1) = some (n, E) → xCk l D yv RX1 cX1_read 0 18 kX1_read_a.1 v i n E := xenv_ok (L := eX1_read_a) trivial
def tX1_read_b : List (Nat × Bool × List xI) := [(17, true, [(17, .aload_n 0, 1), (18, .getfield 15, 3), (21, .bipush 30, 2), (23, .if_icmp .gt 51, 3), (26, .aload_n 0, 1), (27, .getfield 19, 3), (30, .sipush 302, 3), (33, .invokevirtual 29, 3), (36, .ifCond .ne 38, 3), (39, .aload_n 0, 1), (40, .aload_n 3, 1), (41, .invokevirtual 33, 3), (44, .ifCond .eq 15, 3), (47, .aload_n 0, 1), (48, .getfield 19, 3), (51, .bipush 59, 2), (53, .invokevirtual 37, 3), (56, .ifCond .ne 5, 3), (59, .nop, 0)]), (59, true, [(59, .iconst 0, 1), (60, .ireturn, 1)]), (61, false, [(61, .aload_n 0, 1), (62, .dup, 1), (63, .getfield 15, 3), (66, .iconst 1, 1), (67, .iadd, 1), (68, .putfield 15, 3), (71, .goto (-54), 3)]), (74, true, [(74, .iconst 1, 1), (75, .ireturn, 1)])]
def eX1_read_b : List (Bool × Nat × Nat × xE) := [(true, 29, 2, xMV shE 6 [2, 3, 4] (xT kX6_isAt)), (true, 33, 2, xIV shE 1 (xT kX1_readLine)), (true, 37, 2, xMV shE 6 [2, 3, 4] (xT kX6_pass))]
def kX1_read_b : xC := (shE, xlk flX1, xlk coX1, xenv eX1_read_b, tX1_read_b, 2, 4)
theorem zX1_read_b : xSt RX1 cX1_read kX1_read_b 18 := ⟨fiE, okE.1, okE.2, foX1, cnX1, by decide +kernel⟩
theorem hX1_read_b (l : Launch) (D : va_G) (yv : Nat → ClassId) : ∀ (v : Bool) i n E, kX1_read_b.2.2.2.1 (2 * i + if v then 0 else 1) = some (n, E) → xCk l D yv RX1 cX1_read 5 18 kX1_read_b.1 v i n E := xenv_ok (L := eX1_read_b) ⟨(xCk_MV (n := 1) (τ := [2, 3, 4]) (mX6_isAt l D yv) (xsubB_ok (l' := wlR) (l := wlE) (by decide +kernel)) q_5_98 q_2_209 q_2_210 q_1_6 q_2_211 rfl rfl (by decide +kernel) (by decide) fiE).up (by decide), (xCk_IV (n := 1) (mX1_readLine l D yv) q_5_99 q_5_101 q_p_48 q_1_12 q_5_102 rfl rfl (by decide +kernel) (by decide) fiE).up (by decide), (xCk_MV (n := 1) (τ := [2, 3, 4]) (mX6_pass l D yv) (xsubB_ok (l' := wlR) (l := wlE) (by decide +kernel)) q_5_107 q_3_37 q_3_38 q_1_6 q_3_39 rfl rfl (by decide +kernel) (by decide) fiE).up (by decide), trivial⟩
def tX8_read_a : List (Nat × Bool × List xI) := [(0, true, [(0, .aload_n 0, 1), (1, .getfield 12, 3), (4, .invokevirtual 26, 3), (7, .aload_n 0, 1), (8, .iconst 0, 1), (9, .putfield 18, 3), (12, .nop, 0)])]
def eX8_read_a : List (Bool × Nat × Nat × xE) := [(true, 26, 1, xMV shS0 7 [1, 2] (xT kX7_clear))]
def kX8_read_a : xC := (shS0, xlk flX8, xlk coX8, xenv eX8_read_a, tX8_read_a, 2, 4)
theorem zX8_read_a : xSt RX8 cX8_read kX8_read_a 19 := ⟨fiS0, okS0.1, okS0.2, foX8, cnX8, by decide +kernel⟩
theorem hX8_read_a (l : Launch) (D : va_G) (yv : Nat → ClassId) : ∀ (v : Bool) i n E, kX8_read_a.2.2.2.1 (2 * i + if v then 0 else 1) = some (n, E) → xCk l D yv RX8 cX8_read 1 19 kX8_read_a.1 v i n E := xenv_ok (L := eX8_read_a) ⟨(xCk_MV (n := 0) (τ := [1, 2]) (mX7_clear l D yv) (xsubB_ok (l' := wlN0) (l := wlS0) (by decide +kernel)) q_5_146 q_3_100 q_3_101 q_1_5 q_3_102 rfl rfl (by decide +kernel) (by decide) fiS0).up (by decide), trivial⟩
def tX8_read_b : List (Nat × Bool × List xI) := [(24, true, [(24, .aload_n 0, 1), (25, .aload_n 3, 1), (26, .iconst 1, 1), (27, .invokevirtual 35, 3), (30, .ifCond .ne 5, 3), (33, .iconst 0, 1), (34, .ireturn, 1)]), (35, false, [(35, .aload_n 0, 1), (36, .getfield 22, 3), (39, .sipush 302, 3), (42, .invokevirtual 39, 3), (45, .ifCond .ne 14, 3), (48, .aload_n 0, 1), (49, .getfield 22, 3), (52, .iconst 1, 1), (53, .invokevirtual 43, 3), (56, .ifCond .eq 7, 3), (59, .nop, 0)]), (59, true, [(59, .iconst 1, 1), (60, .goto 4, 3)]), (63, false, [(63, .iconst 0, 1), (64, .nop, 0)]), (64, false, [(64, .ireturn, 1)])]
def eX8_read_b : List (Bool × Nat × Nat × xE) := [(true, 35, 3, xIV shS 8 (SE 9)), (true, 39, 2, xMV shS 6 [3, 4, 5] (xT kX6_isAt)), (true, 43, 2, xMV shS 6 [3, 4, 5] (xT kX6_fail))]
def kX8_read_b : xC := (shS, xlk flX8, xlk coX8, xenv eX8_read_b, tX8_read_b, 2, 4)
theorem zX8_read_b : xSt RX8 cX8_read kX8_read_b 19 := ⟨fiS, okS.1, okS.2, foX8, cnX8, by decide +kernel⟩
theorem hX8_read_b (l : Launch) (D : va_G) (yv : Nat → ClassId) : ∀ (v : Bool) i n E, kX8_read_b.2.2.2.1 (2 * i + if v then 0 else 1) = some (n, E) → xCk l D yv RX8 cX8_read 33 19 kX8_read_b.1 v i n E := xenv_ok (L := eX8_read_b) ⟨(xCk_IV (n := 2) (mSE l D yv 9).2.2 q_5_148 q_5_150 q_p_51 q_1_13 q_5_151 rfl rfl (by decide +kernel) (by decide) fiS).up (by decide), (xCk_MV (n := 1) (τ := [3, 4, 5]) (mX6_isAt l D yv) (xsubB_ok (l' := wlR) (l := wlS) (by decide +kernel)) q_5_181 q_2_209 q_2_210 q_1_6 q_2_211 rfl rfl (by decide +kernel) (by decide) fiS).up (by decide), (xCk_MV (n := 1) (τ := [3, 4, 5]) (mX6_fail l D yv) (xsubB_ok (l' := wlR) (l := wlS) (by decide +kernel)) q_5_164 q_2_221 q_2_222 q_1_6 q_2_223 rfl rfl (by decide +kernel) (by decide) fiS).up (by decide), trivial⟩
