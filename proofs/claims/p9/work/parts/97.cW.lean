theorem fdX0 {own : String} {i j : Nat} (hj : j < 13) (hl : Cond.fieldLink own i (TX0 j).1 (TX0 j).2.1 (TX0 j).2.2.1 ∈ gw) (hf : tyX0 j = .int ∨ tyX0 j = .long ∨ tyX0 j = .boolean → (TX0 j).2.2.2 = false) : xFd own i 0 j := ⟨RX0, TX0, 13, tyX0, rfl, inGX0, tyX0_ok, nmX0, hj, hl, hf⟩
theorem fdX1 {own : String} {i j : Nat} (hj : j < 3) (hl : Cond.fieldLink own i (TX1 j).1 (TX1 j).2.1 (TX1 j).2.2.1 ∈ gw) (hf : tyX1 j = .int ∨ tyX1 j = .long ∨ tyX1 j = .boolean → (TX1 j).2.2.2 = false) : xFd own i 1 j := ⟨RX1, TX1, 3, tyX1, rfl, inGX1, tyX1_ok, nmX1, hj, hl, hf⟩
theorem fdX4 {own : String} {i j : Nat} (hj : j < 10) (hl : Cond.fieldLink own i (TX4 j).1 (TX4 j).2.1 (TX4 j).2.2.1 ∈ gw) (hf : tyX4 j = .int ∨ tyX4 j = .long ∨ tyX4 j = .boolean → (TX4 j).2.2.2 = false) : xFd own i 4 j := ⟨RX4, TX4, 10, tyX4, rfl, inGX4, tyX4_ok, nmX4, hj, hl, hf⟩
theorem fdX6 {own : String} {i j : Nat} (hj : j < 11) (hl : Cond.fieldLink own i (TX6 j).1 (TX6 j).2.1 (TX6 j).2.2.1 ∈ gw) (hf : tyX6 j = .int ∨ tyX6 j = .long ∨ tyX6 j = .boolean → (TX6 j).2.2.2 = false) : xFd own i 6 j := ⟨RX6, TX6, 11, tyX6, rfl, inGX6, tyX6_ok, nmX6, hj, hl, hf⟩
theorem fdX7 {own : String} {i j : Nat} (hj : j < 2) (hl : Cond.fieldLink own i (TX7 j).1 (TX7 j).2.1 (TX7 j).2.2.1 ∈ gw) (hf : tyX7 j = .int ∨ tyX7 j = .long ∨ tyX7 j = .boolean → (TX7 j).2.2.2 = false) : xFd own i 7 j := ⟨RX7, TX7, 2, tyX7, rfl, inGX7, tyX7_ok, nmX7, hj, hl, hf⟩
theorem fdX9 {own : String} {i j : Nat} (hj : j < 4) (hl : Cond.fieldLink own i (TX9 j).1 (TX9 j).2.1 (TX9 j).2.2.1 ∈ gw) (hf : tyX9 j = .int ∨ tyX9 j = .long ∨ tyX9 j = .boolean → (TX9 j).2.2.2 = false) : xFd own i 9 j := ⟨RX9, TX9, 4, tyX9, rfl, inGX9, tyX9_ok, nmX9, hj, hl, hf⟩
/-- the world R -/
def wlR : List (Nat × Nat × List Nat) := [(0, 6, [5, 6, 0, 0, 0, 0, 0, 0, 1, 0, 0]), (3, 19, []), (1, 940, [])]
def shR : xH := fun t => wlR[t]?
theorem fiR : xfin 3 shR := xfin_l wlR
theorem okR : xShp shR ∧ xLn shR := xSh_ok (l := wlR) ⟨⟨RX6, TX6, 11, rfl, by decide +kernel⟩, (by decide : 19 < 2147483648), (by decide : 940 < 2147483648), trivial⟩
/-- the world Q -/
def wlQ : List (Nat × Nat × List Nat) := [(0, 6, [5, 6, 0, 0, 0, 0, 0, 0, 1, 0, 0]), (3, 19, []), (1, 940, []), (0, 2, [0, 0, 2, 0, 8, 9, 10, 11, 0, 0, 12, 13, 14, 15, 0, 0, 0, 16]), (3, 6, []), (2, 78, []), (2, 6, []), (2, 52, []), (2, 13, []), (2, 6, []), (2, 6, []), (2, 6, []), (0, 3, [17, 18, 0, 19]), (2, 78, []), (2, 52, []), (2, 6, [])]
def shQ : xH := fun t => wlQ[t]?
theorem fiQ : xfin 16 shQ := xfin_l wlQ
theorem okQ : xShp shQ ∧ xLn shQ := xSh_ok (l := wlQ) ⟨⟨RX6, TX6, 11, rfl, by decide +kernel⟩, (by decide : 19 < 2147483648), (by decide : 940 < 2147483648), ⟨RX2, TX2, 18, rfl, by decide +kernel⟩, (by decide : 6 < 2147483648), (by decide : 78 < 2147483648), (by decide : 6 < 2147483648), (by decide : 52 < 2147483648), (by decide : 13 < 2147483648), (by decide : 6 < 2147483648), (by decide : 6 < 2147483648), (by decide : 6 < 2147483648), ⟨RX3, TX3, 4, rfl, by decide +kernel⟩, (by decide : 78 < 2147483648), (by decide : 52 < 2147483648), (by decide : 6 < 2147483648), trivial⟩
/-- the world T -/
def wlT : List (Nat × Nat × List Nat) := [(0, 9, [6, 5, 2, 0]), (2, 13, []), (0, 6, [7, 8, 0, 0, 0, 0, 0, 0, 1, 0, 0]), (3, 19, []), (1, 940, []), (0, 2, [0, 0, 2, 0, 10, 11, 12, 13, 0, 0, 14, 15, 16, 17, 0, 0, 0, 18]), (3, 6, []), (2, 78, []), (2, 6, []), (2, 52, []), (2, 13, []), (2, 6, []), (2, 6, []), (2, 6, []), (0, 3, [19, 20, 0, 21]), (2, 78, []), (2, 52, []), (2, 6, [])]
def shT : xH := fun t => wlT[t]?
theorem fiT : xfin 18 shT := xfin_l wlT
theorem okT : xShp shT ∧ xLn shT := xSh_ok (l := wlT) ⟨⟨RX9, TX9, 4, rfl, by decide +kernel⟩, (by decide : 13 < 2147483648), ⟨RX6, TX6, 11, rfl, by decide +kernel⟩, (by decide : 19 < 2147483648), (by decide : 940 < 2147483648), ⟨RX2, TX2, 18, rfl, by decide +kernel⟩, (by decide : 6 < 2147483648), (by decide : 78 < 2147483648), (by decide : 6 < 2147483648), (by decide : 52 < 2147483648), (by decide : 13 < 2147483648), (by decide : 6 < 2147483648), (by decide : 6 < 2147483648), (by decide : 6 < 2147483648), ⟨RX3, TX3, 4, rfl, by decide +kernel⟩, (by decide : 78 < 2147483648), (by decide : 52 < 2147483648), (by decide : 6 < 2147483648), trivial⟩
/-- the world E -/
def wlE : List (Nat × Nat × List Nat) := [(0, 1, [6, 5, 0]), (2, 120, []), (0, 6, [7, 8, 0, 0, 0, 0, 0, 0, 1, 0, 0]), (3, 19, []), (1, 940, []), (0, 2, [0, 0, 2, 0, 10, 11, 12, 13, 0, 0, 14, 15, 16, 17, 0, 0, 0, 18]), (3, 6, []), (2, 78, []), (2, 6, []), (2, 52, []), (2, 13, []), (2, 6, []), (2, 6, []), (2, 6, []), (0, 3, [19, 20, 0, 21]), (2, 78, []), (2, 52, []), (2, 6, [])]
def shE : xH := fun t => wlE[t]?
theorem fiE : xfin 18 shE := xfin_l wlE
theorem okE : xShp shE ∧ xLn shE := xSh_ok (l := wlE) ⟨⟨RX1, TX1, 3, rfl, by decide +kernel⟩, (by decide : 120 < 2147483648), ⟨RX6, TX6, 11, rfl, by decide +kernel⟩, (by decide : 19 < 2147483648), (by decide : 940 < 2147483648), ⟨RX2, TX2, 18, rfl, by decide +kernel⟩, (by decide : 6 < 2147483648), (by decide : 78 < 2147483648), (by decide : 6 < 2147483648), (by decide : 52 < 2147483648), (by decide : 13 < 2147483648), (by decide : 6 < 2147483648), (by decide : 6 < 2147483648), (by decide : 6 < 2147483648), ⟨RX3, TX3, 4, rfl, by decide +kernel⟩, (by decide : 78 < 2147483648), (by decide : 52 < 2147483648), (by decide : 6 < 2147483648), trivial⟩
/-- the world N -/
def wlN : List (Nat × Nat × List Nat) := [(0, 7, [5, 0]), (2, 40, []), (0, 2, [0, 0, 2, 0, 7, 8, 9, 10, 0, 0, 11, 12, 13, 14, 0, 0, 0, 15]), (3, 6, []), (2, 78, []), (2, 6, []), (2, 52, []), (2, 13, []), (2, 6, []), (2, 6, []), (2, 6, []), (0, 3, [16, 17, 0, 18]), (2, 78, []), (2, 52, []), (2, 6, [])]
def shN : xH := fun t => wlN[t]?
theorem fiN : xfin 15 shN := xfin_l wlN
theorem okN : xShp shN ∧ xLn shN := xSh_ok (l := wlN) ⟨⟨RX7, TX7, 2, rfl, by decide +kernel⟩, (by decide : 40 < 2147483648), ⟨RX2, TX2, 18, rfl, by decide +kernel⟩, (by decide : 6 < 2147483648), (by decide : 78 < 2147483648), (by decide : 6 < 2147483648), (by decide : 52 < 2147483648), (by decide : 13 < 2147483648), (by decide : 6 < 2147483648), (by decide : 6 < 2147483648), (by decide : 6 < 2147483648), ⟨RX3, TX3, 4, rfl, by decide +kernel⟩, (by decide : 78 < 2147483648), (by decide : 52 < 2147483648), (by decide : 6 < 2147483648), trivial⟩
/-- the world N0 -/
def wlN0 : List (Nat × Nat × List Nat) := [(0, 7, [5, 0]), (2, 40, [])]
def shN0 : xH := fun t => wlN0[t]?
theorem fiN0 : xfin 2 shN0 := xfin_l wlN0
theorem okN0 : xShp shN0 ∧ xLn shN0 := xSh_ok (l := wlN0) ⟨⟨RX7, TX7, 2, rfl, by decide +kernel⟩, (by decide : 40 < 2147483648), trivial⟩
/-- the world NN -/
def wlNN : List (Nat × Nat × List Nat) := [(0, 7, [5, 0]), (2, 40, []), (0, 7, [7, 0]), (2, 40, [])]
def shNN : xH := fun t => wlNN[t]?
theorem fiNN : xfin 4 shNN := xfin_l wlNN
theorem okNN : xShp shNN ∧ xLn shNN := xSh_ok (l := wlNN) ⟨⟨RX7, TX7, 2, rfl, by decide +kernel⟩, (by decide : 40 < 2147483648), ⟨RX7, TX7, 2, rfl, by decide +kernel⟩, (by decide : 40 < 2147483648), trivial⟩
/-- the world O -/
def wlO : List (Nat × Nat × List Nat) := [(0, 4, [5, 6, 0, 7, 8, 0, 9, 10, 11, 1]), (2, 12, []), (2, 12, []), (2, 6, []), (2, 6, []), (2, 6, []), (2, 7, []), (3, 15625, []), (0, 2, [0, 0, 2, 0, 13, 14, 15, 16, 0, 0, 17, 18, 19, 20, 0, 0, 0, 21]), (3, 6, []), (2, 78, []), (2, 6, []), (2, 52, []), (2, 13, []), (2, 6, []), (2, 6, []), (2, 6, []), (0, 3, [22, 23, 0, 24]), (2, 78, []), (2, 52, []), (2, 6, [])]
def shO : xH := fun t => wlO[t]?
theorem fiO : xfin 21 shO := xfin_l wlO
theorem okO : xShp shO ∧ xLn shO := xSh_ok (l := wlO) ⟨⟨RX4, TX4, 10, rfl, by decide +kernel⟩, (by decide : 12 < 2147483648), (by decide : 12 < 2147483648), (by decide : 6 < 2147483648), (by decide : 6 < 2147483648), (by decide : 6 < 2147483648), (by decide : 7 < 2147483648), (by decide : 15625 < 2147483648), ⟨RX2, TX2, 18, rfl, by decide +kernel⟩, (by decide : 6 < 2147483648), (by decide : 78 < 2147483648), (by decide : 6 < 2147483648), (by decide : 52 < 2147483648), (by decide : 13 < 2147483648), (by decide : 6 < 2147483648), (by decide : 6 < 2147483648), (by decide : 6 < 2147483648), ⟨RX3, TX3, 4, rfl, by decide +kernel⟩, (by decide : 78 < 2147483648), (by decide : 52 < 2147483648), (by decide : 6 < 2147483648), trivial⟩
/-- the world O0 -/
def wlO0 : List (Nat × Nat × List Nat) := [(0, 4, [5, 6, 0, 7, 8, 0, 9, 10, 11, 1]), (2, 12, []), (2, 12, []), (2, 6, []), (2, 6, []), (2, 6, []), (2, 7, []), (3, 15625, [])]
def shO0 : xH := fun t => wlO0[t]?
theorem fiO0 : xfin 8 shO0 := xfin_l wlO0
theorem okO0 : xShp shO0 ∧ xLn shO0 := xSh_ok (l := wlO0) ⟨⟨RX4, TX4, 10, rfl, by decide +kernel⟩, (by decide : 12 < 2147483648), (by decide : 12 < 2147483648), (by decide : 6 < 2147483648), (by decide : 6 < 2147483648), (by decide : 6 < 2147483648), (by decide : 7 < 2147483648), (by decide : 15625 < 2147483648), trivial⟩
/-- the world U -/
def wlU : List (Nat × Nat × List Nat) := [(0, 0, [5, 6, 7, 0, 0, 2, 0, 8, 0, 0, 0, 0, 0]), (2, 2500, []), (2, 3, []), (2, 4, []), (2, 6, []), (0, 2, [0, 0, 2, 0, 10, 11, 12, 13, 0, 0, 14, 15, 16, 17, 0, 0, 0, 18]), (3, 6, []), (2, 78, []), (2, 6, []), (2, 52, []), (2, 13, []), (2, 6, []), (2, 6, []), (2, 6, []), (0, 3, [19, 20, 0, 21]), (2, 78, []), (2, 52, []), (2, 6, [])]
def shU : xH := fun t => wlU[t]?
theorem fiU : xfin 18 shU := xfin_l wlU
theorem okU : xShp shU ∧ xLn shU := xSh_ok (l := wlU) ⟨⟨RX0, TX0, 13, rfl, by decide +kernel⟩, (by decide : 2500 < 2147483648), (by decide : 3 < 2147483648), (by decide : 4 < 2147483648), (by decide : 6 < 2147483648), ⟨RX2, TX2, 18, rfl, by decide +kernel⟩, (by decide : 6 < 2147483648), (by decide : 78 < 2147483648), (by decide : 6 < 2147483648), (by decide : 52 < 2147483648), (by decide : 13 < 2147483648), (by decide : 6 < 2147483648), (by decide : 6 < 2147483648), (by decide : 6 < 2147483648), ⟨RX3, TX3, 4, rfl, by decide +kernel⟩, (by decide : 78 < 2147483648), (by decide : 52 < 2147483648), (by decide : 6 < 2147483648), trivial⟩
/-- the world U0 -/
def wlU0 : List (Nat × Nat × List Nat) := [(0, 0, [5, 6, 7, 0, 0, 2, 0, 8, 0, 0, 0, 0, 0]), (2, 2500, []), (2, 3, []), (2, 4, []), (2, 6, [])]
def shU0 : xH := fun t => wlU0[t]?
theorem fiU0 : xfin 5 shU0 := xfin_l wlU0
theorem okU0 : xShp shU0 ∧ xLn shU0 := xSh_ok (l := wlU0) ⟨⟨RX0, TX0, 13, rfl, by decide +kernel⟩, (by decide : 2500 < 2147483648), (by decide : 3 < 2147483648), (by decide : 4 < 2147483648), (by decide : 6 < 2147483648), trivial⟩
def flX6 : List (Nat × Nat × Nat) := [(11, 6, 0), (15, 6, 1), (19, 6, 2), (23, 6, 3), (26, 6, 4), (29, 6, 5), (32, 6, 6), (35, 6, 7), (38, 6, 8), (42, 6, 9), (45, 6, 10)]
theorem foX6 : ∀ i ci j, xlk flX6 i = some (ci, j) → xFd RX6 i ci j := xFs_ok (L := flX6) ⟨fdX6 (by decide) q_1_221 (by decide), fdX6 (by decide) q_1_222 (by decide), fdX6 (by decide) q_1_223 (by decide), fdX6 (by decide) q_1_224 (by decide), fdX6 (by decide) q_1_225 (by decide), fdX6 (by decide) q_1_226 (by decide), fdX6 (by decide) q_1_229 (by decide), fdX6 (by decide) q_1_230 (by decide), fdX6 (by decide) q_1_234 (by decide), fdX6 (by decide) q_1_238 (by decide), fdX6 (by decide) q_2_0 (by decide), trivial⟩
def coX6 : List (Nat × (Int ⊕ Int)) := [(60, .inr (32))]
theorem cnX6 : xCn RX6 (xlk coX6) := xCs_ok (L := coX6) ⟨⟨⟨by decide, by decide⟩, q_1_220⟩, trivial⟩
def flX9 : List (Nat × Nat × Nat) := [(9, 9, 1), (15, 9, 2), (19, 9, 3), (23, 9, 0), (58, 6, 5), (79, 2, 0), (89, 6, 7), (92, 2, 1), (95, 6, 8), (122, 2, 2), (125, 2, 3)]
theorem foX9 : ∀ i ci j, xlk flX9 i = some (ci, j) → xFd RX9 i ci j := xFs_ok (L := flX9) ⟨fdX9 (by decide) q_2_32 (by decide), fdX9 (by decide) q_2_33 (by decide), fdX9 (by decide) q_2_34 (by decide), fdX9 (by decide) q_2_31 (by decide), fdX6 (by decide) q_1_227 (by decide), fdX2 (by decide) q_1_65 (by decide), fdX6 (by decide) q_1_231 (by decide), fdX2 (by decide) q_1_72 (by decide), fdX6 (by decide) q_1_235 (by decide), fdX2 (by decide) q_1_76 (by decide), fdX2 (by decide) q_1_80 (by decide), trivial⟩
def coX9 : List (Nat × (Int ⊕ Int)) := []
theorem cnX9 : xCn RX9 (xlk coX9) := xCs_ok (L := coX9) trivial
def flX1 : List (Nat × Nat × Nat) := [(9, 1, 1), (15, 1, 2), (19, 1, 0), (46, 6, 8), (59, 2, 0), (66, 6, 7)]
theorem foX1 : ∀ i ci j, xlk flX1 i = some (ci, j) → xFd RX1 i ci j := xFs_ok (L := flX1) ⟨fdX1 (by decide) q_2_52 (by decide), fdX1 (by decide) q_2_53 (by decide), fdX1 (by decide) q_2_51 (by decide), fdX6 (by decide) q_1_237 (by decide), fdX2 (by decide) q_1_68 (by decide), fdX6 (by decide) q_1_232 (by decide), trivial⟩
def coX1 : List (Nat × (Int ⊕ Int)) := []
theorem cnX1 : xCn RX1 (xlk coX1) := xCs_ok (L := coX1) trivial
def flX7 : List (Nat × Nat × Nat) := [(11, 7, 0), (15, 7, 1), (31, 2, 10), (40, 2, 17)]
theorem foX7 : ∀ i ci j, xlk flX7 i = some (ci, j) → xFd RX7 i ci j := xFs_ok (L := flX7) ⟨fdX7 (by decide) q_1_157 (by decide), fdX7 (by decide) q_1_158 (by decide), fdX2 (by decide) q_1_94 (by decide), fdX2 (by decide) q_1_112 (by decide), trivial⟩
def coX7 : List (Nat × (Int ⊕ Int)) := []
theorem cnX7 : xCn RX7 (xlk coX7) := xCs_ok (L := coX7) trivial
def flX4 : List (Nat × Nat × Nat) := [(11, 4, 0), (15, 4, 1), (18, 4, 2), (22, 4, 3), (25, 4, 4), (28, 4, 5), (31, 4, 6), (34, 4, 7), (37, 4, 8), (41, 4, 9), (56, 2, 17), (75, 2, 0), (88, 2, 1)]
theorem foX4 : ∀ i ci j, xlk flX4 i = some (ci, j) → xFd RX4 i ci j := xFs_ok (L := flX4) ⟨fdX4 (by decide) q_4_8 (by decide), fdX4 (by decide) q_4_9 (by decide), fdX4 (by decide) q_4_10 (by decide), fdX4 (by decide) q_4_11 (by decide), fdX4 (by decide) q_4_12 (by decide), fdX4 (by decide) q_4_13 (by decide), fdX4 (by decide) q_4_14 (by decide), fdX4 (by decide) q_4_15 (by decide), fdX4 (by decide) q_4_16 (by decide), fdX4 (by decide) q_4_17 (by decide), fdX2 (by decide) q_1_111 (by decide), fdX2 (by decide) q_1_66 (by decide), fdX2 (by decide) q_1_71 (by decide), trivial⟩
def coX4 : List (Nat × (Int ⊕ Int)) := [(121, .inr (-1))]
theorem cnX4 : xCn RX4 (xlk coX4) := xCs_ok (L := coX4) ⟨⟨⟨by decide, by decide⟩, q_4_101⟩, trivial⟩
def flX0 : List (Nat × Nat × Nat) := [(11, 0, 0), (15, 0, 1), (18, 0, 2), (21, 0, 3), (25, 0, 4), (28, 0, 5), (32, 0, 6), (35, 0, 7), (38, 0, 8), (41, 0, 9), (44, 0, 10), (47, 0, 11), (50, 0, 12), (67, 2, 14), (74, 2, 0), (80, 2, 2), (81, 2, 3), (85, 2, 7), (86, 2, 8), (98, 2, 16)]
theorem foX0 : ∀ i ci j, xlk flX0 i = some (ci, j) → xFd RX0 i ci j := xFs_ok (L := flX0) ⟨fdX0 (by decide) q_4_147 (by decide), fdX0 (by decide) q_4_148 (by decide), fdX0 (by decide) q_4_149 (by decide), fdX0 (by decide) q_4_150 (by decide), fdX0 (by decide) q_4_151 (by decide), fdX0 (by decide) q_4_152 (by decide), fdX0 (by decide) q_4_153 (by decide), fdX0 (by decide) q_4_154 (by decide), fdX0 (by decide) q_4_155 (by decide), fdX0 (by decide) q_4_156 (by decide), fdX0 (by decide) q_4_157 (by decide), fdX0 (by decide) q_4_158 (by decide), fdX0 (by decide) q_4_159 (by decide), fdX2 (by decide) q_1_103 (by decide), fdX2 (by decide) q_1_67 (by decide), fdX2 (by decide) q_1_75 (by decide), fdX2 (by decide) q_1_79 (by decide), fdX2 (by decide) q_1_87 (by decide), fdX2 (by decide) q_1_90 (by decide), fdX2 (by decide) q_1_108 (by decide), trivial⟩
def coX0 : List (Nat × (Int ⊕ Int)) := []
theorem cnX0 : xCn RX0 (xlk coX0) := xCs_ok (L := coX0) trivial
