theorem q_3_173 : Cond.methodLink RL 74 yX10_ask ∈ gw := gw_3 173 (by decide +kernel) rfl
theorem q_3_174 : Cond.instanceMethod yX10_ask ∈ gw := gw_3 174 (by decide +kernel) rfl
theorem q_3_175 : Cond.selects RX10 yX10_ask yX10_ask ∈ gw := gw_3 175 (by decide +kernel) rfl
theorem q_3_176 : Cond.code yX10_ask cX10_ask 6 (some .int) ∈ gw := gw_3 176 (by decide +kernel) rfl
theorem q_3_212 : Cond.methodLink RL 79 yX10_asked ∈ gw := gw_3 212 (by decide +kernel) rfl
theorem q_3_213 : Cond.instanceMethod yX10_asked ∈ gw := gw_3 213 (by decide +kernel) rfl
theorem q_3_214 : Cond.selects RX10 yX10_asked yX10_asked ∈ gw := gw_3 214 (by decide +kernel) rfl
theorem q_3_215 : Cond.code yX10_asked cX10_asked 2 (some .int) ∈ gw := gw_3 215 (by decide +kernel) rfl
theorem q_3_216 : Cond.methodLink RL 83 yX10_undo ∈ gw := gw_3 216 (by decide +kernel) rfl
theorem q_3_217 : Cond.instanceMethod yX10_undo ∈ gw := gw_3 217 (by decide +kernel) rfl
theorem q_3_218 : Cond.selects RX10 yX10_undo yX10_undo ∈ gw := gw_3 218 (by decide +kernel) rfl
theorem q_3_219 : Cond.code yX10_undo cX10_undo 1 (some .int) ∈ gw := gw_3 219 (by decide +kernel) rfl
theorem q_3_224 : Cond.methodLink RL 87 yX10_known ∈ gw := gw_3 224 (by decide +kernel) rfl
theorem q_3_225 : Cond.instanceMethod yX10_known ∈ gw := gw_3 225 (by decide +kernel) rfl
theorem q_3_226 : Cond.selects RX10 yX10_known yX10_known ∈ gw := gw_3 226 (by decide +kernel) rfl
theorem q_3_227 : Cond.code yX10_known cX10_known 3 (some .int) ∈ gw := gw_3 227 (by decide +kernel) rfl
theorem q_3_229 : Cond.methodLink RL 91 yX10_can ∈ gw := gw_3 229 (by decide +kernel) rfl
theorem q_3_230 : Cond.instanceMethod yX10_can ∈ gw := gw_3 230 (by decide +kernel) rfl
theorem q_3_231 : Cond.selects RX10 yX10_can yX10_can ∈ gw := gw_3 231 (by decide +kernel) rfl
theorem q_3_232 : Cond.code yX10_can cX10_can 3 (some .int) ∈ gw := gw_3 232 (by decide +kernel) rfl
theorem q_3_234 : Cond.methodLink RL 103 yX10_whom ∈ gw := gw_3 234 (by decide +kernel) rfl
theorem q_3_235 : Cond.instanceMethod yX10_whom ∈ gw := gw_3 235 (by decide +kernel) rfl
theorem q_3_236 : Cond.selects RX10 yX10_whom yX10_whom ∈ gw := gw_3 236 (by decide +kernel) rfl
theorem q_3_237 : Cond.code yX10_whom cX10_whom 3 (some .int) ∈ gw := gw_3 237 (by decide +kernel) rfl
theorem q_4_111 : Cond.methodLink RL 107 yX10_sweep ∈ gw := gw_4 111 (by decide +kernel) rfl
theorem q_4_112 : Cond.instanceMethod yX10_sweep ∈ gw := gw_4 112 (by decide +kernel) rfl
theorem q_4_113 : Cond.selects RX10 yX10_sweep yX10_sweep ∈ gw := gw_4 113 (by decide +kernel) rfl
theorem q_4_114 : Cond.code yX10_sweep cX10_sweep 3 (some .int) ∈ gw := gw_4 114 (by decide +kernel) rfl
theorem q_6_58 : Cond.methodLink RL 95 yL_odds ∈ gw := gw_6 58 (by decide +kernel) rfl
theorem q_6_59 : Cond.static yL_odds ∈ gw := gw_6 59 (by decide +kernel) rfl
theorem q_6_60 : Cond.codeWith yL_odds cL_odds 7 (some .int) [(0, 13, 16, 13)] ∈ gw := gw_6 60 (by decide +kernel) rfl
theorem q_6_71 : Cond.methodLink RL 99 yL_next ∈ gw := gw_6 71 (by decide +kernel) rfl
theorem q_6_72 : Cond.static yL_next ∈ gw := gw_6 72 (by decide +kernel) rfl
theorem q_6_73 : Cond.codeWith yL_next cL_next 6 (some .int) [(0, 11, 14, 13)] ∈ gw := gw_6 73 (by decide +kernel) rfl
theorem q_7_239 : Cond.methodLink RL 78 yX11_ask ∈ gw := gw_7 239 (by decide +kernel) rfl
theorem q_8_0 : Cond.instanceMethod yX11_ask ∈ gw := gw_8 0 (by decide +kernel) rfl
theorem q_8_1 : Cond.selects RX11 yX11_ask yX11_ask ∈ gw := gw_8 1 (by decide +kernel) rfl
theorem q_8_2 : Cond.code yX11_ask cX11_ask 6 (some .int) ∈ gw := gw_8 2 (by decide +kernel) rfl
theorem q_8_19 : Cond.methodLink RL 82 yX11_asked ∈ gw := gw_8 19 (by decide +kernel) rfl
theorem q_8_20 : Cond.instanceMethod yX11_asked ∈ gw := gw_8 20 (by decide +kernel) rfl
theorem q_8_21 : Cond.selects RX11 yX11_asked yX11_asked ∈ gw := gw_8 21 (by decide +kernel) rfl
theorem q_8_22 : Cond.code yX11_asked cX11_asked 2 (some .int) ∈ gw := gw_8 22 (by decide +kernel) rfl
theorem q_8_23 : Cond.methodLink RL 86 yX11_undo ∈ gw := gw_8 23 (by decide +kernel) rfl
theorem q_8_24 : Cond.instanceMethod yX11_undo ∈ gw := gw_8 24 (by decide +kernel) rfl
theorem q_8_25 : Cond.selects RX11 yX11_undo yX11_undo ∈ gw := gw_8 25 (by decide +kernel) rfl
theorem q_8_26 : Cond.code yX11_undo cX11_undo 2 (some .int) ∈ gw := gw_8 26 (by decide +kernel) rfl
theorem q_8_27 : Cond.methodLink RL 90 yX11_known ∈ gw := gw_8 27 (by decide +kernel) rfl
theorem q_8_28 : Cond.instanceMethod yX11_known ∈ gw := gw_8 28 (by decide +kernel) rfl
theorem q_8_29 : Cond.selects RX11 yX11_known yX11_known ∈ gw := gw_8 29 (by decide +kernel) rfl
theorem q_8_30 : Cond.code yX11_known cX11_known 3 (some .int) ∈ gw := gw_8 30 (by decide +kernel) rfl
theorem q_8_31 : Cond.methodLink RL 94 yX11_can ∈ gw := gw_8 31 (by decide +kernel) rfl
theorem q_8_32 : Cond.instanceMethod yX11_can ∈ gw := gw_8 32 (by decide +kernel) rfl
theorem q_8_33 : Cond.selects RX11 yX11_can yX11_can ∈ gw := gw_8 33 (by decide +kernel) rfl
theorem q_8_34 : Cond.code yX11_can cX11_can 5 (some .int) ∈ gw := gw_8 34 (by decide +kernel) rfl
theorem q_8_35 : Cond.methodLink RL 98 yX11_odds ∈ gw := gw_8 35 (by decide +kernel) rfl
theorem q_8_36 : Cond.instanceMethod yX11_odds ∈ gw := gw_8 36 (by decide +kernel) rfl
theorem q_8_37 : Cond.selects RX11 yX11_odds yX11_odds ∈ gw := gw_8 37 (by decide +kernel) rfl
theorem q_8_38 : Cond.code yX11_odds cX11_odds 7 (some .long) ∈ gw := gw_8 38 (by decide +kernel) rfl
theorem q_8_56 : Cond.methodLink RL 102 yX11_next_ ∈ gw := gw_8 56 (by decide +kernel) rfl
theorem q_8_57 : Cond.instanceMethod yX11_next_ ∈ gw := gw_8 57 (by decide +kernel) rfl
theorem q_8_58 : Cond.selects RX11 yX11_next_ yX11_next_ ∈ gw := gw_8 58 (by decide +kernel) rfl
theorem q_8_59 : Cond.code yX11_next_ cX11_next_ 11 (some .long) ∈ gw := gw_8 59 (by decide +kernel) rfl
theorem q_8_60 : Cond.methodLink RL 106 yX11_whom ∈ gw := gw_8 60 (by decide +kernel) rfl
theorem q_8_61 : Cond.instanceMethod yX11_whom ∈ gw := gw_8 61 (by decide +kernel) rfl
theorem q_8_62 : Cond.selects RX11 yX11_whom yX11_whom ∈ gw := gw_8 62 (by decide +kernel) rfl
theorem q_8_63 : Cond.code yX11_whom cX11_whom 11 (some .int) ∈ gw := gw_8 63 (by decide +kernel) rfl
theorem q_8_65 : Cond.methodLink RL 110 yX11_sweep ∈ gw := gw_8 65 (by decide +kernel) rfl
theorem q_8_66 : Cond.instanceMethod yX11_sweep ∈ gw := gw_8 66 (by decide +kernel) rfl
theorem q_8_67 : Cond.selects RX11 yX11_sweep yX11_sweep ∈ gw := gw_8 67 (by decide +kernel) rfl
theorem q_8_68 : Cond.code yX11_sweep cX11_sweep 4 (some .int) ∈ gw := gw_8 68 (by decide +kernel) rfl
section XP
variable {p : Program} {l : Launch} {e : Env} {s : State} {m : MethodId} {below : List Frame} {meth : Method} {c : Code}
variable {D : va_G} {yv : Nat → ClassId} {a : Nat → Nat} {ρ : Nat → Nat → Option Nat} {A : Nat → Prop} {kz : Nat × Nat} {Qm : State → Prop} {σ : xS} {w : Nat → Bool} {b Lx n : Nat} {xs : Nat → Int32} {ad : Nat → Nat} {i : Int}
set_option maxHeartbeats 4000000 in
set_option maxRecDepth 100000 in
theorem law_10 (hL : LC p l s m meth c D yv A b Lx xs ad) (hI0 : LIG a ρ w σ b) (hkz : LKz n w kz) (hi : 0 ≤ i ∧ i + 5 < Lx) (hn : n ≤ 512) (hend : ∀ kz w a ρ σ, LIG a ρ w σ b → LKz (n + 1) w kz → XA kz p l e room_1 s m #[Value.ref b] below meth c D yv a ρ 224 (shLw w) A 8 Qm 1390 (lL i) [] σ) : XA kz p l e room_1 s m #[Value.ref b] below meth c D yv a ρ 224 (shLw w) A 8 Qm 529 (lL i) [] σ := by
  obtain ⟨hC, hYY, hX, hbl, hbA, hstt, hLx⟩ := hL
  obtain ⟨hI, hG⟩ := hI0
  have hr := hkz.r hn
  have hLx2 : (Lx : Int) ≤ 3072 := by omega
  refine xs_aload hC (i := 1) (x := 0) dL_law_529 rfl ?_
  refine xs_arg hC hX hbl hbA hI.2.2.2.2 rfl rfl ⟨by decide, by decide⟩ hi hLx2 dL_law_530 dL_law_531 dL_law_533 dL_law_534 dL_law_535 ?_
  refine xs_arg hC hX hbl hbA hI.2.2.2.2 rfl rfl ⟨by decide, by decide⟩ hi hLx2 dL_law_536 dL_law_537 dL_law_539 dL_law_540 dL_law_541 ?_
  refine xs_arg hC hX hbl hbA hI.2.2.2.2 rfl rfl ⟨by decide, by decide⟩ hi hLx2 dL_law_542 dL_law_543 dL_law_545 dL_law_546 dL_law_547 ?_
  refine xs_arg hC hX hbl hbA hI.2.2.2.2 rfl rfl ⟨by decide, by decide⟩ hi hLx2 dL_law_548 dL_law_549 dL_law_551 dL_law_552 dL_law_553 ?_
  refine vs_call (shf := shLw) (rest := []) (as' := [xvi (xs (i + 1).toNat).toInt, xvi (xs (i + 2).toNat).toInt, xvi (xs (i + 3).toNat).toInt, xvi (xs (i + 4).toNat).toInt]) (t := 0) (ci := 10) (n := 4) (K := fun r w' σ' => JW w' σ' ∧ KT σ σ' ∧ ∃ z : Int, r = some (xvi z) ∧ askCR (σ 198) (xs (i + 1).toNat).toInt (xs (i + 2).toNat).toInt (xs (i + 3).toNat).toInt (xs (i + 4).toNat).toInt w σ z w' σ') (mgS 194 σ) (mgA 194 a) (mgR 194 ρ) (mg_ok 194 224 σ a ρ).1 (mg_ok 194 224 σ a ρ).2.1 (mg_ok 194 224 σ a ρ).2.2 hC hYY.1 (mvX10_askF l D yv) (Nat.le_of_ble_eq_true rfl) vfamL q_3_173 q_3_174 q_3_175 q_1_1 q_3_176 rfl rfl (by decide +kernel) (by decide) (by show kz.1 + 13 ≤ 601024; omega) (by show kz.2 + 331 ≤ 7293034; omega) dL_law_554 (sh0 _) rfl (by decide) hI.1 (lLp (by rfl)) (lLp (by rfl)) ⟨σ 198, _, _, _, _, rfl, hI.2.1, hG.1.1, hG.1.2.1.1, fun r w' σ' h1 h2 h3 => ⟨h1, h2, _, rfl, h3⟩⟩ (fun r w1 a1 ρ1 σ1 hk hLK1 hag1 => ?_)
  obtain ⟨hJ1, hkt, z, rfl, hcr⟩ := hk
  obtain ⟨hl1, hw9, hw10, hw13⟩ := hcr.lo
  have hI1 := hI.cls (N := 194) (Or.inl rfl) hLK1 hJ1
  have hG2 := hG.mg (σ1 := σ1) (N := 194) (by omega)
  have hlo : ∀ t, t < 194 → mgS 194 σ σ1 t = σ1 t := fun t ht => if_pos (by omega)
  have hhi : ∀ t, 196 ≤ t → mgS 194 σ σ1 t = σ t := fun t ht => if_neg (by omega)
  generalize mgA 194 a a1 = a2, mgR 194 ρ ρ1 = ρ2, mgS 194 σ σ1 = σ2 at hI1 hG2 hlo hhi ⊢
  obtain ⟨i1, i2, i3, i4, i5, i6, i7, i8, i9, i10, i11⟩ := hI1
  obtain ⟨hh, hkp, hT0⟩ := hI.2.2.2.1
  have hcr9 : askCR (xsel tM σ2 2) (xs (i + 1).toNat).toInt (xs (i + 2).toNat).toInt (xs (i + 3).toNat).toInt (xs (i + 4).toNat).toInt w σ z w1 σ1 := by
    show askCR (σ2 198) (xs (i + 1).toNat).toInt (xs (i + 2).toNat).toInt (xs (i + 3).toNat).toInt (xs (i + 4).toNat).toInt w σ z w1 σ1
    rw [hhi 198 (by decide)]; exact hcr
  have h01 : 0 ≤ σ 0 1 ∧ σ 0 1 ≤ 940 := hI.2.1.1.1
  refine xs_pop hC dL_law_557 ?_
  refine xs_aload hC (i := 2) (x := 196) dL_law_558 rfl ?_
  refine xs_arg hC hX hbl hbA i5 rfl rfl ⟨by decide, by decide⟩ hi hLx2 dL_law_559 dL_law_560 dL_law_562 dL_law_563 dL_law_564 ?_
  refine xs_arg hC hX hbl hbA i5 rfl rfl ⟨by decide, by decide⟩ hi hLx2 dL_law_565 dL_law_566 dL_law_568 dL_law_569 dL_law_570 ?_
  refine xs_arg hC hX hbl hbA i5 rfl rfl ⟨by decide, by decide⟩ hi hLx2 dL_law_571 dL_law_572 dL_law_574 dL_law_575 dL_law_576 ?_
  refine xs_arg hC hX hbl hbA i5 rfl rfl ⟨by decide, by decide⟩ hi hLx2 dL_law_577 dL_law_578 dL_law_580 dL_law_581 dL_law_582 ?_
  refine xs_ck (as := [xvr 196, xvi (xs (i + 1).toNat).toInt, xvi (xs (i + 2).toNat).toInt, xvi (xs (i + 3).toNat).toInt, xvi (xs (i + 4).toNat).toInt]) (rest := []) (K := fun r σ' => ∃ z : Int, r = some (xvi z) ∧ ∃ ς, σ' = xbk tM σ2 ς ∧ RI ς ∧ (ς 0 2 = σ2 196 2) ∧ ς 27 = σ2 223 ∧ ς 1 = σ2 197 ∧ ς 6 = σ2 202 ∧ (Fr [2, 7, 8] [0, 24, 27] (xsel tM σ2) ς ∧ (((¬ (ASK ((xsel tM σ2) 2) (xs (i + 1).toNat).toInt (xs (i + 2).toNat).toInt (xs (i + 3).toNat).toInt ∧ (0 ≤ (xs (i + 4).toNat).toInt ∧ (xs (i + 4).toNat).toInt ≤ 1)) ∧ z = -1 ∧ SAMEx (xsel tM σ2) ς) ∨ ((ASK ((xsel tM σ2) 2) (xs (i + 1).toNat).toInt (xs (i + 2).toNat).toInt (xs (i + 3).toNat).toInt ∧ (0 ≤ (xs (i + 4).toNat).toInt ∧ (xs (i + 4).toNat).toInt ≤ 1)) ∧ 1 ≤ whyF ((xsel tM σ2) 2) (xs (i + 1).toNat).toInt (xs (i + 2).toNat).toInt (xs (i + 3).toNat).toInt.toNat ∧ z = -2 - whyF ((xsel tM σ2) 2) (xs (i + 1).toNat).toInt (xs (i + 2).toNat).toInt (xs (i + 3).toNat).toInt.toNat ∧ SAMEx (xsel tM σ2) ς) ∨ ((ASK ((xsel tM σ2) 2) (xs (i + 1).toNat).toInt (xs (i + 2).toNat).toInt (xs (i + 3).toNat).toInt ∧ (0 ≤ (xs (i + 4).toNat).toInt ∧ (xs (i + 4).toNat).toInt ≤ 1)) ∧ whyF ((xsel tM σ2) 2) (xs (i + 1).toNat).toInt (xs (i + 2).toNat).toInt (xs (i + 3).toNat).toInt.toNat = 0 ∧ KPT ((xsel tM σ2) 0 27) (ς 0 27) ((xsel tM σ2) 8) (ς 8) ((xsel tM σ2) 2) ∧ ς 2 = askF ((xsel tM σ2) 2) (xs (i + 1).toNat).toInt.toNat (xs (i + 2).toNat).toInt.toNat (xs (i + 3).toNat).toInt.toNat (xs (i + 4).toNat).toInt ∧ z = askR ((xsel tM σ2) 2) (xs (i + 1).toNat).toInt.toNat (xs (i + 2).toNat).toInt.toNat (xs (i + 3).toNat).toInt.toNat (xs (i + 4).toNat).toInt 3 ∧ (ς 0 24 = 1 ∧ ∀ i9 : Nat, i9 < 8 → ς 7 i9 = askR ((xsel tM σ2) 2) (xs (i + 1).toNat).toInt.toNat (xs (i + 2).toNat).toInt.toNat (xs (i + 3).toNat).toInt.toNat (xs (i + 4).toNat).toInt i9)))))) hC ((xCk_MV (n := 4) (τ := tM) (mX11_ask l D yv) (subM w1) q_7_239 q_8_0 q_8_1 q_1_15 q_8_2 rfl rfl (by decide +kernel) (by decide) (shLw_fin w1)).up (Nat.le_of_ble_eq_true rfl)) (by show kz.1 + (13) ≤ 601024; have : 13 ≤ 15 := (by first | omega | (split <;> omega)); omega) (by show kz.2 + (331) ≤ 7293034; have : 331 ≤ 15690 := (by first | omega | (split <;> omega)); omega) dL_law_583 (xMVf (ci := 11) rfl rfl (fun Q2 hQ2 => s_askJ (σ := xsel tM σ2) i3 hG2.1.2.1.1 (fun r2 ς h2 fr h9 => hQ2 _ _ ⟨_, rfl, _, rfl, h2.1, h2.2.1, h2.2.2.1, h2.2.2.2.1, h2.2.2.2.2.1, ⟨fr, h9⟩⟩))) rfl (Nat.le_of_ble_eq_true rfl) (fun r σ3 hk => ?_)
  obtain ⟨z2, rfl, ς, rfl, j1, j2, j3, j5, j6, j9⟩ := hk
  have j4 := KPx.same hkp hw9 hw10 (j3.trans i7)
  refine xs_pop hC dL_law_586 ?_
  refine xs_goto (tgt := 1390) hC dL_law_587 rfl ?_
  exact hend _ w1 a2 ρ2 _ ⟨(LI.ref i1 i2 j1 (by omega) j4 (hT0.nx (i8.trans hkt.1) (i9.trans hkt.2) (j5.trans i10) (j6.trans i11) (by omega)) i5), GL.fin ((hG2.ask hcr9 j9.1 j9.2).1) hlo⟩ (hkz.st (k1 := 13) (k2 := 331) hw13 (by decide) (by decide))
set_option maxHeartbeats 4000000 in
set_option maxRecDepth 100000 in
theorem law_11 (hL : LC p l s m meth c D yv A b Lx xs ad) (hI0 : LIG a ρ w σ b) (hkz : LKz n w kz) (hi : 0 ≤ i ∧ i + 5 < Lx) (hn : n ≤ 512) (hend : ∀ kz w a ρ σ, LIG a ρ w σ b → LKz (n + 1) w kz → XA kz p l e room_1 s m #[Value.ref b] below meth c D yv a ρ 224 (shLw w) A 8 Qm 1390 (lL i) [] σ) : XA kz p l e room_1 s m #[Value.ref b] below meth c D yv a ρ 224 (shLw w) A 8 Qm 590 (lL i) [] σ := by
  obtain ⟨hC, hYY, hX, hbl, hbA, hstt, hLx⟩ := hL
  obtain ⟨hI, hG⟩ := hI0
  have hr := hkz.r hn
  have hLx2 : (Lx : Int) ≤ 3072 := by omega
  refine xs_aload hC (i := 1) (x := 0) dL_law_590 rfl ?_
  refine xs_arg hC hX hbl hbA hI.2.2.2.2 rfl rfl ⟨by decide, by decide⟩ hi hLx2 dL_law_591 dL_law_592 dL_law_594 dL_law_595 dL_law_596 ?_
  refine vs_call (shf := shLw) (rest := []) (as' := [xvi (xs (i + 1).toNat).toInt]) (t := 0) (ci := 10) (n := 1) (K := fun r w' σ' => JW w' σ' ∧ RsK [xvr 0, xvi (xs (i + 1).toNat).toInt] σ w r w' σ') (mgS 194 σ) (mgA 194 a) (mgR 194 ρ) (mg_ok 194 224 σ a ρ).1 (mg_ok 194 224 σ a ρ).2.1 (mg_ok 194 224 σ a ρ).2.2 hC hYY.1 (mvX10_askedK l D yv) (Nat.le_of_ble_eq_true rfl) vfamL q_3_212 q_3_213 q_3_214 q_1_1 q_3_215 rfl rfl (by decide +kernel) (by decide) (by show kz.1 + 0 ≤ 601024; omega) (by show kz.2 + 0 ≤ 7293034; omega) dL_law_597 (sh0 _) rfl (by decide) hI.1 (lLp (by rfl)) (lLp (by rfl)) ⟨hI.2.1, ⟨_, rfl⟩, fun r w' σ' h1 h2 => ⟨h1, h2⟩⟩ (fun r w1 a1 ρ1 σ1 hk hLK1 hag1 => ?_)
  obtain ⟨hJ1, hR1⟩ := hk
  obtain ⟨⟨z, rfl⟩, hl1, hw9, ⟨hw10, hw13, hkt⟩, hst⟩ := hR1
  have hI1 := hI.cls (N := 194) (Or.inl rfl) hLK1 hJ1
  have hG2 := hG.mg (σ1 := σ1) (N := 194) (by omega)
  have hlo : ∀ t, t < 194 → mgS 194 σ σ1 t = σ1 t := fun t ht => if_pos (by omega)
  generalize mgA 194 a a1 = a2, mgR 194 ρ ρ1 = ρ2, mgS 194 σ σ1 = σ2 at hI1 hG2 hlo ⊢
  obtain ⟨i1, i2, i3, i4, i5, i6, i7, i8, i9, i10, i11⟩ := hI1
  obtain ⟨hh, hkp, hT0⟩ := hI.2.2.2.1
  have h01 : 0 ≤ σ 0 1 ∧ σ 0 1 ≤ 940 := hI.2.1.1.1
  refine xs_pop hC dL_law_600 ?_
  refine xs_aload hC (i := 2) (x := 196) dL_law_601 rfl ?_
  refine xs_arg hC hX hbl hbA i5 rfl rfl ⟨by decide, by decide⟩ hi hLx2 dL_law_602 dL_law_603 dL_law_605 dL_law_606 dL_law_607 ?_
  refine xs_ck (as := [xvr 196, xvi (xs (i + 1).toNat).toInt]) (rest := []) (K := fun r σ' => ∃ z : Int, r = some (xvi z) ∧ ∃ ς, σ' = xbk tM σ2 ς ∧ RI ς ∧ (ς 0 2 = σ2 196 2) ∧ ς 27 = σ2 223 ∧ ς 1 = σ2 197 ∧ ς 6 = σ2 202 ∧ Fr [] [0] (xsel tM σ2) ς) hC ((xCk_MV (n := 1) (τ := tM) (mX11_asked l D yv) (subM w1) q_8_19 q_8_20 q_8_21 q_1_15 q_8_22 rfl rfl (by decide +kernel) (by decide) (shLw_fin w1)).up (Nat.le_of_ble_eq_true rfl)) (by show kz.1 + (0) ≤ 601024; have : 0 ≤ 15 := (by first | omega | (split <;> omega)); omega) (by show kz.2 + (0) ≤ 7293034; have : 0 ≤ 15690 := (by first | omega | (split <;> omega)); omega) dL_law_608 (xMVf (ci := 11) rfl rfl (fun Q2 hQ2 => s_askedJ (σ := xsel tM σ2) i3 hG2.1.2.1.1 (fun r2 ς h2 fr h9 => hQ2 _ _ ⟨_, rfl, _, rfl, h2.1, h2.2.1, h2.2.2.1, h2.2.2.2.1, h2.2.2.2.2.1, fr⟩))) rfl (Nat.le_of_ble_eq_true rfl) (fun r σ3 hk => ?_)
  obtain ⟨z2, rfl, ς, rfl, j1, j2, j3, j5, j6, j9⟩ := hk
  have j4 := KPx.same hkp hw9 hw10 (j3.trans i7)
  refine xs_pop hC dL_law_611 ?_
  refine xs_goto (tgt := 1390) hC dL_law_612 rfl ?_
  exact hend _ w1 a2 ρ2 _ ⟨(LI.ref i1 i2 j1 (by omega) j4 (hT0.nx (i8.trans hkt.1) (i9.trans hkt.2) (j5.trans i10) (j6.trans i11) (by omega)) i5), GL.fin ((hG2.cls hst).fr j9 (by decide) (by decide)) hlo⟩ (hkz.st (k1 := 0) (k2 := 0) hw13 (by decide) (by decide))
set_option maxHeartbeats 4000000 in
set_option maxRecDepth 100000 in
theorem law_12 (hL : LC p l s m meth c D yv A b Lx xs ad) (hI0 : LIG a ρ w σ b) (hkz : LKz n w kz) (hi : 0 ≤ i ∧ i + 5 < Lx) (hn : n ≤ 512) (hend : ∀ kz w a ρ σ, LIG a ρ w σ b → LKz (n + 1) w kz → XA kz p l e room_1 s m #[Value.ref b] below meth c D yv a ρ 224 (shLw w) A 8 Qm 1390 (lL i) [] σ) : XA kz p l e room_1 s m #[Value.ref b] below meth c D yv a ρ 224 (shLw w) A 8 Qm 615 (lL i) [] σ := by
  obtain ⟨hC, hYY, hX, hbl, hbA, hstt, hLx⟩ := hL
  obtain ⟨hI, hG⟩ := hI0
  obtain ⟨ui, hui, hub⟩ := hG.und
  have hr := hkz.r hn
  have hLx2 : (Lx : Int) ≤ 3072 := by omega
  refine xs_aload hC (i := 1) (x := 0) dL_law_615 rfl ?_
  refine vs_call (shf := shLw) (rest := []) (as' := []) (t := 0) (ci := 10) (n := 0) (K := fun r w' σ' => JW w' σ' ∧ KT σ σ' ∧ (∃ z : Int, r = some (xvi z) ∧ undoCR ui (bkR (σ 198) (σ 204) (σ 196 27 - 1).toNat) σ z σ') ∧ w' = w) (mgS 194 σ) (mgA 194 a) (mgR 194 ρ) (mg_ok 194 224 σ a ρ).1 (mg_ok 194 224 σ a ρ).2.1 (mg_ok 194 224 σ a ρ).2.2 hC hYY.1 (mvX10_undoF l D yv) (Nat.le_of_ble_eq_true rfl) vfamL q_3_216 q_3_217 q_3_218 q_1_1 q_3_219 rfl rfl (by decide +kernel) (by decide) (by show kz.1 + 0 ≤ 601024; omega) (by show kz.2 + 0 ≤ 7293034; omega) dL_law_616 (sh0 _) rfl (by decide) hI.1 (lLp (by rfl)) (lLp (by rfl)) ⟨ui, _, rfl, hI.2.1, hui, hub, fun r σ' h1 h2 h3 => ⟨h1, h2, ⟨_, rfl, h3⟩, rfl⟩⟩ (fun r w1 a1 ρ1 σ1 hk hLK1 hag1 => ?_)
  obtain ⟨hJ1, hkt, ⟨z, rfl, hcr⟩, rfl⟩ := hk
  have hl1 : σ1 0 1 = σ 0 1 := hcr.lo
  have hw9 : w1 9 = w1 9 := rfl
  have hw10 : w1 10 = w1 10 := rfl
  have hw13 : w1 13 = true → w1 13 = true := fun h => h
  have hI1 := hI.cls (N := 194) (Or.inl rfl) hLK1 hJ1
  have hG2 := hG.mg (σ1 := σ1) (N := 194) (by omega)
  have hlo : ∀ t, t < 194 → mgS 194 σ σ1 t = σ1 t := fun t ht => if_pos (by omega)
  have hhi : ∀ t, 196 ≤ t → mgS 194 σ σ1 t = σ t := fun t ht => if_neg (by omega)
  generalize mgA 194 a a1 = a2, mgR 194 ρ ρ1 = ρ2, mgS 194 σ σ1 = σ2 at hI1 hG2 hlo hhi ⊢
  obtain ⟨i1, i2, i3, i4, i5, i6, i7, i8, i9, i10, i11⟩ := hI1
  obtain ⟨hh, hkp, hT0⟩ := hI.2.2.2.1
  have hcr9 : undoCR ui (bkR (xsel tM σ2 2) (xsel tM σ2 8) (xsel tM σ2 0 27 - 1).toNat) σ z σ1 := by
    show undoCR ui (bkR (σ2 198) (σ2 204) (σ2 196 27 - 1).toNat) σ z σ1
    rw [hhi 198 (by decide), hhi 204 (by decide), hhi 196 (by decide)]; exact hcr
  have h01 : 0 ≤ σ 0 1 ∧ σ 0 1 ≤ 940 := hI.2.1.1.1
  refine xs_pop hC dL_law_619 ?_
  refine xs_aload hC (i := 2) (x := 196) dL_law_620 rfl ?_
  refine xs_ck (as := [xvr 196]) (rest := []) (K := fun r σ' => ∃ z : Int, r = some (xvi z) ∧ ∃ ς, σ' = xbk tM σ2 ς ∧ RI ς ∧ (ς 0 2 = σ2 196 2) ∧ ς 27 = σ2 223 ∧ ς 1 = σ2 197 ∧ ς 6 = σ2 202 ∧ (Fr [2] [0, 27] (xsel tM σ2) ς ∧ ((((xsel tM σ2) 0 27 = 0 ∧ z = -1 ∧ ς 0 27 = (xsel tM σ2) 0 27 ∧ ς 2 = (xsel tM σ2) 2) ∨ (¬ (xsel tM σ2) 0 27 = 0 ∧ z = (xsel tM σ2) 0 27 - 1 ∧ ς 0 27 = (xsel tM σ2) 0 27 - 1 ∧ (∀ q : Nat, q < 4 ∨ 584 ≤ q → ς 2 q = (xsel tM σ2) 2 q) ∧ ∀ q : Nat, q < 580 → ς 2 (4 + q) = bkj ((xsel tM σ2) 8) ((xsel tM σ2) 0 27 - 1).toNat q))))) hC ((xCk_MV (n := 0) (τ := tM) (mX11_undo l D yv) (subM w1) q_8_23 q_8_24 q_8_25 q_1_15 q_8_26 rfl rfl (by decide +kernel) (by decide) (shLw_fin w1)).up (Nat.le_of_ble_eq_true rfl)) (by show kz.1 + (0) ≤ 601024; have : 0 ≤ 15 := (by first | omega | (split <;> omega)); omega) (by show kz.2 + (0) ≤ 7293034; have : 0 ≤ 15690 := (by first | omega | (split <;> omega)); omega) dL_law_621 (xMVf (ci := 11) rfl rfl (fun Q2 hQ2 => s_undoJ (σ := xsel tM σ2) i3 i3.2.2.2.1 (fun r2 ς h2 fr h9 => hQ2 _ _ ⟨_, rfl, _, rfl, h2.1, h2.2.1, h2.2.2.1, h2.2.2.2.1, h2.2.2.2.2.1, ⟨fr, h9⟩⟩))) rfl (Nat.le_of_ble_eq_true rfl) (fun r σ3 hk => ?_)
  obtain ⟨z2, rfl, ς, rfl, j1, j2, j3, j5, j6, j9⟩ := hk
  have j4 := KPx.same hkp hw9 hw10 (j3.trans i7)
  refine xs_pop hC dL_law_624 ?_
  refine xs_goto (tgt := 1390) hC dL_law_625 rfl ?_
  exact hend _ w1 a2 ρ2 _ ⟨(LI.ref i1 i2 j1 (by omega) j4 (hT0.nx (i8.trans hkt.1) (i9.trans hkt.2) (j5.trans i10) (j6.trans i11) (by omega)) i5), GL.fin ((hG2.undo hui hcr9 j9.1 j9.2).1) hlo⟩ (hkz.st (k1 := 0) (k2 := 0) hw13 (by decide) (by decide))
set_option maxHeartbeats 4000000 in
set_option maxRecDepth 100000 in
theorem law_13 (hL : LC p l s m meth c D yv A b Lx xs ad) (hI0 : LIG a ρ w σ b) (hkz : LKz n w kz) (hi : 0 ≤ i ∧ i + 5 < Lx) (hn : n ≤ 512) (hend : ∀ kz w a ρ σ, LIG a ρ w σ b → LKz (n + 1) w kz → XA kz p l e room_1 s m #[Value.ref b] below meth c D yv a ρ 224 (shLw w) A 8 Qm 1390 (lL i) [] σ) : XA kz p l e room_1 s m #[Value.ref b] below meth c D yv a ρ 224 (shLw w) A 8 Qm 628 (lL i) [] σ := by
  obtain ⟨hC, hYY, hX, hbl, hbA, hstt, hLx⟩ := hL
  obtain ⟨hI, hG⟩ := hI0
  have hr := hkz.r hn
  have hLx2 : (Lx : Int) ≤ 3072 := by omega
  refine xs_aload hC (i := 1) (x := 0) dL_law_628 rfl ?_
  refine xs_arg hC hX hbl hbA hI.2.2.2.2 rfl rfl ⟨by decide, by decide⟩ hi hLx2 dL_law_629 dL_law_630 dL_law_632 dL_law_633 dL_law_634 ?_
  refine xs_arg hC hX hbl hbA hI.2.2.2.2 rfl rfl ⟨by decide, by decide⟩ hi hLx2 dL_law_635 dL_law_636 dL_law_638 dL_law_639 dL_law_640 ?_
  refine vs_call (shf := shLw) (rest := []) (as' := [xvi (xs (i + 1).toNat).toInt, xvi (xs (i + 2).toNat).toInt]) (t := 0) (ci := 10) (n := 2) (K := fun r w' σ' => JW w' σ' ∧ RsK [xvr 0, xvi (xs (i + 1).toNat).toInt, xvi (xs (i + 2).toNat).toInt] σ w r w' σ') (mgS 194 σ) (mgA 194 a) (mgR 194 ρ) (mg_ok 194 224 σ a ρ).1 (mg_ok 194 224 σ a ρ).2.1 (mg_ok 194 224 σ a ρ).2.2 hC hYY.1 (mvX10_knownK l D yv) (Nat.le_of_ble_eq_true rfl) vfamL q_3_224 q_3_225 q_3_226 q_1_1 q_3_227 rfl rfl (by decide +kernel) (by decide) (by show kz.1 + 0 ≤ 601024; omega) (by show kz.2 + 0 ≤ 7293034; omega) dL_law_641 (sh0 _) rfl (by decide) hI.1 (lLp (by rfl)) (lLp (by rfl)) ⟨hI.2.1, ⟨_, _, rfl⟩, fun r w' σ' h1 h2 => ⟨h1, h2⟩⟩ (fun r w1 a1 ρ1 σ1 hk hLK1 hag1 => ?_)
  obtain ⟨hJ1, hR1⟩ := hk
  obtain ⟨⟨z, rfl⟩, hl1, hw9, ⟨hw10, hw13, hkt⟩, hst⟩ := hR1
  have hI1 := hI.cls (N := 194) (Or.inl rfl) hLK1 hJ1
  have hG2 := hG.mg (σ1 := σ1) (N := 194) (by omega)
  have hlo : ∀ t, t < 194 → mgS 194 σ σ1 t = σ1 t := fun t ht => if_pos (by omega)
  generalize mgA 194 a a1 = a2, mgR 194 ρ ρ1 = ρ2, mgS 194 σ σ1 = σ2 at hI1 hG2 hlo ⊢
  obtain ⟨i1, i2, i3, i4, i5, i6, i7, i8, i9, i10, i11⟩ := hI1
  obtain ⟨hh, hkp, hT0⟩ := hI.2.2.2.1
  have h01 : 0 ≤ σ 0 1 ∧ σ 0 1 ≤ 940 := hI.2.1.1.1
  refine xs_pop hC dL_law_644 ?_
  refine xs_aload hC (i := 2) (x := 196) dL_law_645 rfl ?_
  refine xs_arg hC hX hbl hbA i5 rfl rfl ⟨by decide, by decide⟩ hi hLx2 dL_law_646 dL_law_647 dL_law_649 dL_law_650 dL_law_651 ?_
  refine xs_arg hC hX hbl hbA i5 rfl rfl ⟨by decide, by decide⟩ hi hLx2 dL_law_652 dL_law_653 dL_law_655 dL_law_656 dL_law_657 ?_
  refine xs_ck (as := [xvr 196, xvi (xs (i + 1).toNat).toInt, xvi (xs (i + 2).toNat).toInt]) (rest := []) (K := fun r σ' => ∃ z : Int, r = some (xvi z) ∧ ∃ ς, σ' = xbk tM σ2 ς ∧ RI ς ∧ (ς 0 2 = σ2 196 2) ∧ ς 27 = σ2 223 ∧ ς 1 = σ2 197 ∧ ς 6 = σ2 202 ∧ Fr [] [0] (xsel tM σ2) ς) hC ((xCk_MV (n := 2) (τ := tM) (mX11_known l D yv) (subM w1) q_8_27 q_8_28 q_8_29 q_1_15 q_8_30 rfl rfl (by decide +kernel) (by decide) (shLw_fin w1)).up (Nat.le_of_ble_eq_true rfl)) (by show kz.1 + (0) ≤ 601024; have : 0 ≤ 15 := (by first | omega | (split <;> omega)); omega) (by show kz.2 + (0) ≤ 7293034; have : 0 ≤ 15690 := (by first | omega | (split <;> omega)); omega) dL_law_658 (xMVf (ci := 11) rfl rfl (fun Q2 hQ2 => s_knownJ (σ := xsel tM σ2) i3 hG2.1.2.1.1.1 (fun r2 ς h2 fr h9 => hQ2 _ _ ⟨_, rfl, _, rfl, h2.1, h2.2.1, h2.2.2.1, h2.2.2.2.1, h2.2.2.2.2.1, fr⟩))) rfl (Nat.le_of_ble_eq_true rfl) (fun r σ3 hk => ?_)
  obtain ⟨z2, rfl, ς, rfl, j1, j2, j3, j5, j6, j9⟩ := hk
  have j4 := KPx.same hkp hw9 hw10 (j3.trans i7)
  refine xs_pop hC dL_law_661 ?_
  refine xs_goto (tgt := 1390) hC dL_law_662 rfl ?_
  exact hend _ w1 a2 ρ2 _ ⟨(LI.ref i1 i2 j1 (by omega) j4 (hT0.nx (i8.trans hkt.1) (i9.trans hkt.2) (j5.trans i10) (j6.trans i11) (by omega)) i5), GL.fin ((hG2.cls hst).fr j9 (by decide) (by decide)) hlo⟩ (hkz.st (k1 := 0) (k2 := 0) hw13 (by decide) (by decide))
set_option maxHeartbeats 4000000 in
set_option maxRecDepth 100000 in
theorem law_14 (hL : LC p l s m meth c D yv A b Lx xs ad) (hI0 : LIG a ρ w σ b) (hkz : LKz n w kz) (hi : 0 ≤ i ∧ i + 5 < Lx) (hn : n ≤ 512) (hend : ∀ kz w a ρ σ, LIG a ρ w σ b → LKz (n + 1) w kz → XA kz p l e room_1 s m #[Value.ref b] below meth c D yv a ρ 224 (shLw w) A 8 Qm 1390 (lL i) [] σ) : XA kz p l e room_1 s m #[Value.ref b] below meth c D yv a ρ 224 (shLw w) A 8 Qm 665 (lL i) [] σ := by
  obtain ⟨hC, hYY, hX, hbl, hbA, hstt, hLx⟩ := hL
  obtain ⟨hI, hG⟩ := hI0
  have hr := hkz.r hn
  have hLx2 : (Lx : Int) ≤ 3072 := by omega
  refine xs_aload hC (i := 1) (x := 0) dL_law_665 rfl ?_
  refine xs_arg hC hX hbl hbA hI.2.2.2.2 rfl rfl ⟨by decide, by decide⟩ hi hLx2 dL_law_666 dL_law_667 dL_law_669 dL_law_670 dL_law_671 ?_
  refine xs_arg hC hX hbl hbA hI.2.2.2.2 rfl rfl ⟨by decide, by decide⟩ hi hLx2 dL_law_672 dL_law_673 dL_law_675 dL_law_676 dL_law_677 ?_
  refine vs_call (shf := shLw) (rest := []) (as' := [xvi (xs (i + 1).toNat).toInt, xvi (xs (i + 2).toNat).toInt]) (t := 0) (ci := 10) (n := 2) (K := fun r w' σ' => JW w' σ' ∧ RsK [xvr 0, xvi (xs (i + 1).toNat).toInt, xvi (xs (i + 2).toNat).toInt] σ w r w' σ') (mgS 194 σ) (mgA 194 a) (mgR 194 ρ) (mg_ok 194 224 σ a ρ).1 (mg_ok 194 224 σ a ρ).2.1 (mg_ok 194 224 σ a ρ).2.2 hC hYY.1 (mvX10_canK l D yv) (Nat.le_of_ble_eq_true rfl) vfamL q_3_229 q_3_230 q_3_231 q_1_1 q_3_232 rfl rfl (by decide +kernel) (by decide) (by show kz.1 + 0 ≤ 601024; omega) (by show kz.2 + 0 ≤ 7293034; omega) dL_law_678 (sh0 _) rfl (by decide) hI.1 (lLp (by rfl)) (lLp (by rfl)) ⟨hI.2.1, ⟨_, _, rfl⟩, fun r w' σ' h1 h2 => ⟨h1, h2⟩⟩ (fun r w1 a1 ρ1 σ1 hk hLK1 hag1 => ?_)
  obtain ⟨hJ1, hR1⟩ := hk
  obtain ⟨⟨z, rfl⟩, hl1, hw9, ⟨hw10, hw13, hkt⟩, hst⟩ := hR1
  have hI1 := hI.cls (N := 194) (Or.inl rfl) hLK1 hJ1
  have hG2 := hG.mg (σ1 := σ1) (N := 194) (by omega)
  have hlo : ∀ t, t < 194 → mgS 194 σ σ1 t = σ1 t := fun t ht => if_pos (by omega)
  generalize mgA 194 a a1 = a2, mgR 194 ρ ρ1 = ρ2, mgS 194 σ σ1 = σ2 at hI1 hG2 hlo ⊢
  obtain ⟨i1, i2, i3, i4, i5, i6, i7, i8, i9, i10, i11⟩ := hI1
  obtain ⟨hh, hkp, hT0⟩ := hI.2.2.2.1
  have h01 : 0 ≤ σ 0 1 ∧ σ 0 1 ≤ 940 := hI.2.1.1.1
  refine xs_pop hC dL_law_681 ?_
  refine xs_aload hC (i := 2) (x := 196) dL_law_682 rfl ?_
  refine xs_arg hC hX hbl hbA i5 rfl rfl ⟨by decide, by decide⟩ hi hLx2 dL_law_683 dL_law_684 dL_law_686 dL_law_687 dL_law_688 ?_
  refine xs_arg hC hX hbl hbA i5 rfl rfl ⟨by decide, by decide⟩ hi hLx2 dL_law_689 dL_law_690 dL_law_692 dL_law_693 dL_law_694 ?_
  refine xs_ck (as := [xvr 196, xvi (xs (i + 1).toNat).toInt, xvi (xs (i + 2).toNat).toInt]) (rest := []) (K := fun r σ' => ∃ z : Int, r = some (xvi z) ∧ ∃ ς, σ' = xbk tM σ2 ς ∧ RI ς ∧ (ς 0 2 = σ2 196 2) ∧ ς 27 = σ2 223 ∧ ς 1 = σ2 197 ∧ ς 6 = σ2 202 ∧ Fr [] [0] (xsel tM σ2) ς) hC ((xCk_MV (n := 2) (τ := tM) (mX11_can l D yv) (subM w1) q_8_31 q_8_32 q_8_33 q_1_15 q_8_34 rfl rfl (by decide +kernel) (by decide) (shLw_fin w1)).up (Nat.le_of_ble_eq_true rfl)) (by show kz.1 + (0) ≤ 601024; have : 0 ≤ 15 := (by first | omega | (split <;> omega)); omega) (by show kz.2 + (0) ≤ 7293034; have : 0 ≤ 15690 := (by first | omega | (split <;> omega)); omega) dL_law_695 (xMVf (ci := 11) rfl rfl (fun Q2 hQ2 => s_canJ (σ := xsel tM σ2) i3 hG2.1.2.1.1.1 (fun r2 ς h2 fr h9 => hQ2 _ _ ⟨_, rfl, _, rfl, h2.1, h2.2.1, h2.2.2.1, h2.2.2.2.1, h2.2.2.2.2.1, fr⟩))) rfl (Nat.le_of_ble_eq_true rfl) (fun r σ3 hk => ?_)
  obtain ⟨z2, rfl, ς, rfl, j1, j2, j3, j5, j6, j9⟩ := hk
  have j4 := KPx.same hkp hw9 hw10 (j3.trans i7)
  refine xs_pop hC dL_law_698 ?_
  refine xs_goto (tgt := 1390) hC dL_law_699 rfl ?_
  exact hend _ w1 a2 ρ2 _ ⟨(LI.ref i1 i2 j1 (by omega) j4 (hT0.nx (i8.trans hkt.1) (i9.trans hkt.2) (j5.trans i10) (j6.trans i11) (by omega)) i5), GL.fin ((hG2.cls hst).fr j9 (by decide) (by decide)) hlo⟩ (hkz.st (k1 := 0) (k2 := 0) hw13 (by decide) (by decide))
set_option maxHeartbeats 4000000 in
set_option maxRecDepth 100000 in
theorem law_15 (hL : LC p l s m meth c D yv A b Lx xs ad) (hI0 : LIG a ρ w σ b) (hkz : LKz n w kz) (hi : 0 ≤ i ∧ i + 5 < Lx) (hn : n ≤ 512) (hend : ∀ kz w a ρ σ, LIG a ρ w σ b → LKz (n + 1) w kz → XA kz p l e room_1 s m #[Value.ref b] below meth c D yv a ρ 224 (shLw w) A 8 Qm 1390 (lL i) [] σ) : XA kz p l e room_1 s m #[Value.ref b] below meth c D yv a ρ 224 (shLw w) A 8 Qm 702 (lL i) [] σ := by
  obtain ⟨hC, hYY, hX, hbl, hbA, hstt, hLx⟩ := hL
  obtain ⟨hI, hG⟩ := hI0
  have hr := hkz.r hn
  have hLx2 : (Lx : Int) ≤ 3072 := by omega
  refine xs_aload hC (i := 1) (x := 0) dL_law_702 rfl ?_
  refine xs_arg hC hX hbl hbA hI.2.2.2.2 rfl rfl ⟨by decide, by decide⟩ hi hLx2 dL_law_703 dL_law_704 dL_law_706 dL_law_707 dL_law_708 ?_
  refine xs_arg hC hX hbl hbA hI.2.2.2.2 rfl rfl ⟨by decide, by decide⟩ hi hLx2 dL_law_709 dL_law_710 dL_law_712 dL_law_713 dL_law_714 ?_
  refine xs_arg hC hX hbl hbA hI.2.2.2.2 rfl rfl ⟨by decide, by decide⟩ hi hLx2 dL_law_715 dL_law_716 dL_law_718 dL_law_719 dL_law_720 ?_
  refine xs_arg hC hX hbl hbA hI.2.2.2.2 rfl rfl ⟨by decide, by decide⟩ hi hLx2 dL_law_721 dL_law_722 dL_law_724 dL_law_725 dL_law_726 ?_
  refine xs_aload hC (i := 3) (x := 194) dL_law_727 rfl ?_
  by_cases ht : tO σ (xs (i + 1).toNat).toInt (xs (i + 2).toNat).toInt (xs (i + 3).toNat).toInt (xs (i + 4).toNat).toInt
  · refine gs_callS (as := [xvr 0, xvi (xs (i + 1).toNat).toInt, xvi (xs (i + 2).toNat).toInt, xvi (xs (i + 3).toNat).toInt, xvi (xs (i + 4).toNat).toInt, xvr 194]) (rest := []) (n := 6) (K := fun r w' σ' => JW w' σ' ∧ (∃ z : Int, r = some (xvi z)) ∧ RxK σ w w' σ' ∧ (true = true → w' 13 = true)) (mg_ok 195 224 σ a ρ) hC hYY (mL_odds2K true (mcO_t 1) l D yv ad hstt) (Nat.le_of_ble_eq_true rfl) q_6_58 q_6_59 q_1_0 q_6_60 (by decide +kernel) (Nat.le_of_ble_eq_true rfl) (by show kz.1 + ((if w 13 = true then 0 else 8) + 1) ≤ 601024; have : (if w 13 = true then 0 else 8) + 1 ≤ 9 := (by first | omega | (split <;> omega)); omega) (by show kz.2 + ((if w 13 = true then 0 else 15684) + 6 * 1) ≤ 7293034; have : (if w 13 = true then 0 else 15684) + 6 * 1 ≤ 15690 := (by first | omega | (split <;> omega)); omega) dL_law_728 rfl (by decide) hI.1 (lSp (by rfl)) (lSp (by rfl)) ⟨hI.2.1, ⟨_, _, _, _, rfl, ⟨fun _ => rfl, fun _ => ht⟩⟩, fun r w' σ' h1 h2 h3 => ⟨h1, h2.1, h2.2, h3⟩⟩ (fun r w1 a1 ρ1 σ1 hk hLK1 hag1 => ?_)
    obtain ⟨hJ1, ⟨z, rfl⟩, hR1, hB1⟩ := hk
    have hl1 : σ1 0 1 = σ 0 1 := hR1.1
    have hw9 : w1 9 = w 9 := hR1.2.1
    have hw10 : w1 10 = w 10 := hR1.2.2.1.1
    have hw13 : w 13 = true → w1 13 = true := hR1.2.2.1.2.1
    have hkt : KT σ σ1 := hR1.2.2.1.2.2
    have hst : STW w w1 σ σ1 := hR1.2.2.2
    have hI1 := hI.cls (N := 195) (Or.inr rfl) hLK1 hJ1
    have hG2 := hG.mg (σ1 := σ1) (N := 195) (by omega)
    have hlo : ∀ t, t < 194 → mgS 195 σ σ1 t = σ1 t := fun t ht => if_pos (by omega)
    generalize mgA 195 a a1 = a2, mgR 195 ρ ρ1 = ρ2, mgS 195 σ σ1 = σ2 at hI1 hG2 hlo ⊢
    obtain ⟨i1, i2, i3, i4, i5, i6, i7, i8, i9, i10, i11⟩ := hI1
    obtain ⟨hh, hkp, hT0⟩ := hI.2.2.2.1
    have h01 : 0 ≤ σ 0 1 ∧ σ 0 1 ≤ 940 := hI.2.1.1.1
    refine xs_istoreL hC dL_law_731 (Nat.le_of_ble_eq_true rfl) ?_
    show XA _ p l e room_1 s m _ below meth c D yv a2 ρ2 224 (shLw w1) A 8 Qm 733 [xvr 195, xvr 0, xvr 196, xvr 194, xvi i, xvi z, xvu, xvu] [] σ2
    refine xs_aload hC (i := 2) (x := 196) dL_law_733 rfl ?_
    refine xs_arg hC hX hbl hbA i5 rfl rfl ⟨by decide, by decide⟩ hi hLx2 dL_law_734 dL_law_735 dL_law_737 dL_law_738 dL_law_739 ?_
    refine xs_arg hC hX hbl hbA i5 rfl rfl ⟨by decide, by decide⟩ hi hLx2 dL_law_740 dL_law_741 dL_law_743 dL_law_744 dL_law_745 ?_
    refine xs_arg hC hX hbl hbA i5 rfl rfl ⟨by decide, by decide⟩ hi hLx2 dL_law_746 dL_law_747 dL_law_749 dL_law_750 dL_law_751 ?_
    refine xs_arg hC hX hbl hbA i5 rfl rfl ⟨by decide, by decide⟩ hi hLx2 dL_law_752 dL_law_753 dL_law_755 dL_law_756 dL_law_757 ?_
    refine xs_ck (as := [xvr 196, xvi (xs (i + 1).toNat).toInt, xvi (xs (i + 2).toNat).toInt, xvi (xs (i + 3).toNat).toInt, xvi (xs (i + 4).toNat).toInt]) (rest := []) (K := fun r σ' => ∃ z : Int, r = some (xvl z) ∧ ∃ ς, σ' = xbk tM σ2 ς ∧ RI ς ∧ (ς 0 2 = σ2 196 2) ∧ ς 27 = σ2 223 ∧ ς 1 = σ2 197 ∧ ς 6 = σ2 202 ∧ RKs (xsel tM σ2) ς) hC ((xCk_MV (n := 4) (τ := tM) (mX11_odds l D yv) (subM w1) q_8_35 q_8_36 q_8_37 q_1_15 q_8_38 rfl rfl (by decide +kernel) (by decide) (shLw_fin w1)).up (Nat.le_of_ble_eq_true rfl)) (by show kz.1 + ((if w 13 = true then 0 else 8) + 1) ≤ 601024; have : (if w 13 = true then 0 else 8) + 1 ≤ 15 := (by first | omega | (split <;> omega)); omega) (by show kz.2 + ((if w 13 = true then 0 else 15684) + 6 * 1) ≤ 7293034; have : (if w 13 = true then 0 else 15684) + 6 * 1 ≤ 15690 := (by first | omega | (split <;> omega)); omega) dL_law_758 (xMVf (ci := 11) rfl rfl (fun Q2 hQ2 => s_oddsJ (σ := xsel tM σ2) i3 (fun r2 ς h2 h9 => hQ2 _ _ ⟨_, rfl, _, rfl, h2.1, h2.2.1, h2.2.2.1, h2.2.2.2.1, h2.2.2.2.2.1, h9⟩))) rfl (Nat.le_of_ble_eq_true rfl) (fun r σ3 hk => ?_)
    obtain ⟨z2, rfl, ς, rfl, j1, j2, j3, j5, j6, j9⟩ := hk
    have j4 := KPx.same hkp hw9 hw10 (j3.trans i7)
    refine xs_lstoreL hC dL_law_761 (Nat.le_of_ble_eq_true rfl) ?_
    show XA _ p l e room_1 s m _ below meth c D yv a2 ρ2 224 (shLw w1) A 8 Qm 763 [xvr 195, xvr 0, xvr 196, xvr 194, xvi i, xvi z, xvl z2, xvu] [] (xbk tM σ2 ς)
    refine xs_goto (tgt := 1390) hC dL_law_763 rfl ?_
    refine XA.forget 5 ?_
    refine XA.forget 6 ?_
    exact hend _ w1 a2 ρ2 _ ⟨(LI.ref i1 i2 j1 (by omega) j4 (hT0.nx (i8.trans hkt.1) (i9.trans hkt.2) (j5.trans i10) (j6.trans i11) (by omega)) i5), GL.fin ((hG2.cls hst).ks j9) hlo⟩ (hkz.on (j := 1) (hB1 rfl) (by decide))
  · refine gs_callS (as := [xvr 0, xvi (xs (i + 1).toNat).toInt, xvi (xs (i + 2).toNat).toInt, xvi (xs (i + 3).toNat).toInt, xvi (xs (i + 4).toNat).toInt, xvr 194]) (rest := []) (n := 6) (K := fun r w' σ' => JW w' σ' ∧ (∃ z : Int, r = some (xvi z)) ∧ RxK σ w w' σ' ∧ (false = true → w' 13 = true)) (mg_ok 195 224 σ a ρ) hC hYY (mL_odds2K false (mcO_f 1) l D yv ad hstt) (Nat.le_of_ble_eq_true rfl) q_6_58 q_6_59 q_1_0 q_6_60 (by decide +kernel) (Nat.le_of_ble_eq_true rfl) (by show kz.1 + (1) ≤ 601024; have : 1 ≤ 9 := (by first | omega | (split <;> omega)); omega) (by show kz.2 + (6 * 1) ≤ 7293034; have : 6 * 1 ≤ 15690 := (by first | omega | (split <;> omega)); omega) dL_law_728 rfl (by decide) hI.1 (lSp (by rfl)) (lSp (by rfl)) ⟨hI.2.1, ⟨_, _, _, _, rfl, ⟨fun h => absurd h ht, fun h => by cases h⟩⟩, fun r w' σ' h1 h2 h3 => ⟨h1, h2.1, h2.2, h3⟩⟩ (fun r w1 a1 ρ1 σ1 hk hLK1 hag1 => ?_)
    obtain ⟨hJ1, ⟨z, rfl⟩, hR1, hB1⟩ := hk
    have hl1 : σ1 0 1 = σ 0 1 := hR1.1
    have hw9 : w1 9 = w 9 := hR1.2.1
    have hw10 : w1 10 = w 10 := hR1.2.2.1.1
    have hw13 : w 13 = true → w1 13 = true := hR1.2.2.1.2.1
    have hkt : KT σ σ1 := hR1.2.2.1.2.2
    have hst : STW w w1 σ σ1 := hR1.2.2.2
    have hI1 := hI.cls (N := 195) (Or.inr rfl) hLK1 hJ1
    have hG2 := hG.mg (σ1 := σ1) (N := 195) (by omega)
    have hlo : ∀ t, t < 194 → mgS 195 σ σ1 t = σ1 t := fun t ht => if_pos (by omega)
    generalize mgA 195 a a1 = a2, mgR 195 ρ ρ1 = ρ2, mgS 195 σ σ1 = σ2 at hI1 hG2 hlo ⊢
    obtain ⟨i1, i2, i3, i4, i5, i6, i7, i8, i9, i10, i11⟩ := hI1
    obtain ⟨hh, hkp, hT0⟩ := hI.2.2.2.1
    have h01 : 0 ≤ σ 0 1 ∧ σ 0 1 ≤ 940 := hI.2.1.1.1
    refine xs_istoreL hC dL_law_731 (Nat.le_of_ble_eq_true rfl) ?_
    show XA _ p l e room_1 s m _ below meth c D yv a2 ρ2 224 (shLw w1) A 8 Qm 733 [xvr 195, xvr 0, xvr 196, xvr 194, xvi i, xvi z, xvu, xvu] [] σ2
    refine xs_aload hC (i := 2) (x := 196) dL_law_733 rfl ?_
    refine xs_arg hC hX hbl hbA i5 rfl rfl ⟨by decide, by decide⟩ hi hLx2 dL_law_734 dL_law_735 dL_law_737 dL_law_738 dL_law_739 ?_
    refine xs_arg hC hX hbl hbA i5 rfl rfl ⟨by decide, by decide⟩ hi hLx2 dL_law_740 dL_law_741 dL_law_743 dL_law_744 dL_law_745 ?_
    refine xs_arg hC hX hbl hbA i5 rfl rfl ⟨by decide, by decide⟩ hi hLx2 dL_law_746 dL_law_747 dL_law_749 dL_law_750 dL_law_751 ?_
    refine xs_arg hC hX hbl hbA i5 rfl rfl ⟨by decide, by decide⟩ hi hLx2 dL_law_752 dL_law_753 dL_law_755 dL_law_756 dL_law_757 ?_
    refine xs_ck (as := [xvr 196, xvi (xs (i + 1).toNat).toInt, xvi (xs (i + 2).toNat).toInt, xvi (xs (i + 3).toNat).toInt, xvi (xs (i + 4).toNat).toInt]) (rest := []) (K := fun r σ' => ∃ z : Int, r = some (xvl z) ∧ ∃ ς, σ' = xbk tM σ2 ς ∧ RI ς ∧ (ς 0 2 = σ2 196 2) ∧ ς 27 = σ2 223 ∧ ς 1 = σ2 197 ∧ ς 6 = σ2 202 ∧ RKs (xsel tM σ2) ς) hC ((xCk_MV (n := 4) (τ := tM) (mX11_odds l D yv) (subM w1) q_8_35 q_8_36 q_8_37 q_1_15 q_8_38 rfl rfl (by decide +kernel) (by decide) (shLw_fin w1)).up (Nat.le_of_ble_eq_true rfl)) (by show kz.1 + (1) ≤ 601024; have : 1 ≤ 15 := (by first | omega | (split <;> omega)); omega) (by show kz.2 + (6 * 1) ≤ 7293034; have : 6 * 1 ≤ 15690 := (by first | omega | (split <;> omega)); omega) dL_law_758 (xMVf (ci := 11) rfl rfl (fun Q2 hQ2 => s_oddsJ (σ := xsel tM σ2) i3 (fun r2 ς h2 h9 => hQ2 _ _ ⟨_, rfl, _, rfl, h2.1, h2.2.1, h2.2.2.1, h2.2.2.2.1, h2.2.2.2.2.1, h9⟩))) rfl (Nat.le_of_ble_eq_true rfl) (fun r σ3 hk => ?_)
    obtain ⟨z2, rfl, ς, rfl, j1, j2, j3, j5, j6, j9⟩ := hk
    have j4 := KPx.same hkp hw9 hw10 (j3.trans i7)
    refine xs_lstoreL hC dL_law_761 (Nat.le_of_ble_eq_true rfl) ?_
    show XA _ p l e room_1 s m _ below meth c D yv a2 ρ2 224 (shLw w1) A 8 Qm 763 [xvr 195, xvr 0, xvr 196, xvr 194, xvi i, xvi z, xvl z2, xvu] [] (xbk tM σ2 ς)
    refine xs_goto (tgt := 1390) hC dL_law_763 rfl ?_
    refine XA.forget 5 ?_
    refine XA.forget 6 ?_
    exact hend _ w1 a2 ρ2 _ ⟨(LI.ref i1 i2 j1 (by omega) j4 (hT0.nx (i8.trans hkt.1) (i9.trans hkt.2) (j5.trans i10) (j6.trans i11) (by omega)) i5), GL.fin ((hG2.cls hst).ks j9) hlo⟩ (hkz.st (k1 := 1) (k2 := 6 * 1) hw13 (by decide) (by decide))
set_option maxHeartbeats 4000000 in
set_option maxRecDepth 100000 in
theorem law_16 (hL : LC p l s m meth c D yv A b Lx xs ad) (hI0 : LIG a ρ w σ b) (hkz : LKz n w kz) (hi : 0 ≤ i ∧ i + 5 < Lx) (hn : n ≤ 512) (hend : ∀ kz w a ρ σ, LIG a ρ w σ b → LKz (n + 1) w kz → XA kz p l e room_1 s m #[Value.ref b] below meth c D yv a ρ 224 (shLw w) A 8 Qm 1390 (lL i) [] σ) : XA kz p l e room_1 s m #[Value.ref b] below meth c D yv a ρ 224 (shLw w) A 8 Qm 766 (lL i) [] σ := by
  obtain ⟨hC, hYY, hX, hbl, hbA, hstt, hLx⟩ := hL
  obtain ⟨hI, hG⟩ := hI0
  have hr := hkz.r hn
  have hLx2 : (Lx : Int) ≤ 3072 := by omega
  refine xs_aload hC (i := 1) (x := 0) dL_law_766 rfl ?_
  refine xs_arg hC hX hbl hbA hI.2.2.2.2 rfl rfl ⟨by decide, by decide⟩ hi hLx2 dL_law_767 dL_law_768 dL_law_770 dL_law_771 dL_law_772 ?_
  refine xs_arg hC hX hbl hbA hI.2.2.2.2 rfl rfl ⟨by decide, by decide⟩ hi hLx2 dL_law_773 dL_law_774 dL_law_776 dL_law_777 dL_law_778 ?_
  refine xs_arg hC hX hbl hbA hI.2.2.2.2 rfl rfl ⟨by decide, by decide⟩ hi hLx2 dL_law_779 dL_law_780 dL_law_782 dL_law_783 dL_law_784 ?_
  refine xs_aload hC (i := 3) (x := 194) dL_law_785 rfl ?_
  by_cases ht : tN σ (xs (i + 1).toNat).toInt (xs (i + 2).toNat).toInt (xs (i + 3).toNat).toInt
  · refine gs_callS (as := [xvr 0, xvi (xs (i + 1).toNat).toInt, xvi (xs (i + 2).toNat).toInt, xvi (xs (i + 3).toNat).toInt, xvr 194]) (rest := []) (n := 5) (K := fun r w' σ' => JW w' σ' ∧ (∃ z : Int, r = some (xvi z)) ∧ RxK σ w w' σ' ∧ (true = true → w' 13 = true)) (mg_ok 195 224 σ a ρ) hC hYY (mL_next2K true (mcO_t 1) l D yv ad hstt) (Nat.le_of_ble_eq_true rfl) q_6_71 q_6_72 q_1_0 q_6_73 (by decide +kernel) (Nat.le_of_ble_eq_true rfl) (by show kz.1 + ((if w 13 = true then 0 else 8) + 1) ≤ 601024; have : (if w 13 = true then 0 else 8) + 1 ≤ 9 := (by first | omega | (split <;> omega)); omega) (by show kz.2 + ((if w 13 = true then 0 else 15684) + 6 * 1) ≤ 7293034; have : (if w 13 = true then 0 else 15684) + 6 * 1 ≤ 15690 := (by first | omega | (split <;> omega)); omega) dL_law_786 rfl (by decide) hI.1 (lSp (by rfl)) (lSp (by rfl)) ⟨hI.2.1, ⟨_, _, _, rfl, ⟨fun _ => rfl, fun _ => ht⟩⟩, fun r w' σ' h1 h2 h3 => ⟨h1, h2.1, h2.2, h3⟩⟩ (fun r w1 a1 ρ1 σ1 hk hLK1 hag1 => ?_)
    obtain ⟨hJ1, ⟨z, rfl⟩, hR1, hB1⟩ := hk
    have hl1 : σ1 0 1 = σ 0 1 := hR1.1
    have hw9 : w1 9 = w 9 := hR1.2.1
    have hw10 : w1 10 = w 10 := hR1.2.2.1.1
    have hw13 : w 13 = true → w1 13 = true := hR1.2.2.1.2.1
    have hkt : KT σ σ1 := hR1.2.2.1.2.2
    have hst : STW w w1 σ σ1 := hR1.2.2.2
    have hI1 := hI.cls (N := 195) (Or.inr rfl) hLK1 hJ1
    have hG2 := hG.mg (σ1 := σ1) (N := 195) (by omega)
    have hlo : ∀ t, t < 194 → mgS 195 σ σ1 t = σ1 t := fun t ht => if_pos (by omega)
    generalize mgA 195 a a1 = a2, mgR 195 ρ ρ1 = ρ2, mgS 195 σ σ1 = σ2 at hI1 hG2 hlo ⊢
    obtain ⟨i1, i2, i3, i4, i5, i6, i7, i8, i9, i10, i11⟩ := hI1
    obtain ⟨hh, hkp, hT0⟩ := hI.2.2.2.1
    have h01 : 0 ≤ σ 0 1 ∧ σ 0 1 ≤ 940 := hI.2.1.1.1
    refine xs_istoreL hC dL_law_789 (Nat.le_of_ble_eq_true rfl) ?_
    show XA _ p l e room_1 s m _ below meth c D yv a2 ρ2 224 (shLw w1) A 8 Qm 791 [xvr 195, xvr 0, xvr 196, xvr 194, xvi i, xvi z, xvu, xvu] [] σ2
    refine xs_aload hC (i := 2) (x := 196) dL_law_791 rfl ?_
    refine xs_arg hC hX hbl hbA i5 rfl rfl ⟨by decide, by decide⟩ hi hLx2 dL_law_792 dL_law_793 dL_law_795 dL_law_796 dL_law_797 ?_
    refine xs_arg hC hX hbl hbA i5 rfl rfl ⟨by decide, by decide⟩ hi hLx2 dL_law_798 dL_law_799 dL_law_801 dL_law_802 dL_law_803 ?_
    refine xs_arg hC hX hbl hbA i5 rfl rfl ⟨by decide, by decide⟩ hi hLx2 dL_law_804 dL_law_805 dL_law_807 dL_law_808 dL_law_809 ?_
    refine xs_ck (as := [xvr 196, xvi (xs (i + 1).toNat).toInt, xvi (xs (i + 2).toNat).toInt, xvi (xs (i + 3).toNat).toInt]) (rest := []) (K := fun r σ' => ∃ z : Int, r = some (xvl z) ∧ ∃ ς, σ' = xbk tM σ2 ς ∧ RI ς ∧ (ς 0 2 = σ2 196 2) ∧ ς 27 = σ2 223 ∧ ς 1 = σ2 197 ∧ ς 6 = σ2 202 ∧ RKs (xsel tM σ2) ς) hC ((xCk_MV (n := 3) (τ := tM) (mX11_next_ l D yv) (subM w1) q_8_56 q_8_57 q_8_58 q_1_15 q_8_59 rfl rfl (by decide +kernel) (by decide) (shLw_fin w1)).up (Nat.le_of_ble_eq_true rfl)) (by show kz.1 + ((if w 13 = true then 0 else 8) + 1) ≤ 601024; have : (if w 13 = true then 0 else 8) + 1 ≤ 15 := (by first | omega | (split <;> omega)); omega) (by show kz.2 + ((if w 13 = true then 0 else 15684) + 6 * 1) ≤ 7293034; have : (if w 13 = true then 0 else 15684) + 6 * 1 ≤ 15690 := (by first | omega | (split <;> omega)); omega) dL_law_810 (xMVf (ci := 11) rfl rfl (fun Q2 hQ2 => s_next_J (σ := xsel tM σ2) i3 (fun r2 ς h2 h9 => hQ2 _ _ ⟨_, rfl, _, rfl, h2.1, h2.2.1, h2.2.2.1, h2.2.2.2.1, h2.2.2.2.2.1, h9⟩))) rfl (Nat.le_of_ble_eq_true rfl) (fun r σ3 hk => ?_)
    obtain ⟨z2, rfl, ς, rfl, j1, j2, j3, j5, j6, j9⟩ := hk
    have j4 := KPx.same hkp hw9 hw10 (j3.trans i7)
    refine xs_lstoreL hC dL_law_813 (Nat.le_of_ble_eq_true rfl) ?_
    show XA _ p l e room_1 s m _ below meth c D yv a2 ρ2 224 (shLw w1) A 8 Qm 815 [xvr 195, xvr 0, xvr 196, xvr 194, xvi i, xvi z, xvl z2, xvu] [] (xbk tM σ2 ς)
    refine xs_goto (tgt := 1390) hC dL_law_815 rfl ?_
    refine XA.forget 5 ?_
    refine XA.forget 6 ?_
    exact hend _ w1 a2 ρ2 _ ⟨(LI.ref i1 i2 j1 (by omega) j4 (hT0.nx (i8.trans hkt.1) (i9.trans hkt.2) (j5.trans i10) (j6.trans i11) (by omega)) i5), GL.fin ((hG2.cls hst).ks j9) hlo⟩ (hkz.on (j := 1) (hB1 rfl) (by decide))
  · refine gs_callS (as := [xvr 0, xvi (xs (i + 1).toNat).toInt, xvi (xs (i + 2).toNat).toInt, xvi (xs (i + 3).toNat).toInt, xvr 194]) (rest := []) (n := 5) (K := fun r w' σ' => JW w' σ' ∧ (∃ z : Int, r = some (xvi z)) ∧ RxK σ w w' σ' ∧ (false = true → w' 13 = true)) (mg_ok 195 224 σ a ρ) hC hYY (mL_next2K false (mcO_f 1) l D yv ad hstt) (Nat.le_of_ble_eq_true rfl) q_6_71 q_6_72 q_1_0 q_6_73 (by decide +kernel) (Nat.le_of_ble_eq_true rfl) (by show kz.1 + (1) ≤ 601024; have : 1 ≤ 9 := (by first | omega | (split <;> omega)); omega) (by show kz.2 + (6 * 1) ≤ 7293034; have : 6 * 1 ≤ 15690 := (by first | omega | (split <;> omega)); omega) dL_law_786 rfl (by decide) hI.1 (lSp (by rfl)) (lSp (by rfl)) ⟨hI.2.1, ⟨_, _, _, rfl, ⟨fun h => absurd h ht, fun h => by cases h⟩⟩, fun r w' σ' h1 h2 h3 => ⟨h1, h2.1, h2.2, h3⟩⟩ (fun r w1 a1 ρ1 σ1 hk hLK1 hag1 => ?_)
    obtain ⟨hJ1, ⟨z, rfl⟩, hR1, hB1⟩ := hk
    have hl1 : σ1 0 1 = σ 0 1 := hR1.1
    have hw9 : w1 9 = w 9 := hR1.2.1
    have hw10 : w1 10 = w 10 := hR1.2.2.1.1
    have hw13 : w 13 = true → w1 13 = true := hR1.2.2.1.2.1
    have hkt : KT σ σ1 := hR1.2.2.1.2.2
    have hst : STW w w1 σ σ1 := hR1.2.2.2
    have hI1 := hI.cls (N := 195) (Or.inr rfl) hLK1 hJ1
    have hG2 := hG.mg (σ1 := σ1) (N := 195) (by omega)
    have hlo : ∀ t, t < 194 → mgS 195 σ σ1 t = σ1 t := fun t ht => if_pos (by omega)
    generalize mgA 195 a a1 = a2, mgR 195 ρ ρ1 = ρ2, mgS 195 σ σ1 = σ2 at hI1 hG2 hlo ⊢
    obtain ⟨i1, i2, i3, i4, i5, i6, i7, i8, i9, i10, i11⟩ := hI1
    obtain ⟨hh, hkp, hT0⟩ := hI.2.2.2.1
    have h01 : 0 ≤ σ 0 1 ∧ σ 0 1 ≤ 940 := hI.2.1.1.1
    refine xs_istoreL hC dL_law_789 (Nat.le_of_ble_eq_true rfl) ?_
    show XA _ p l e room_1 s m _ below meth c D yv a2 ρ2 224 (shLw w1) A 8 Qm 791 [xvr 195, xvr 0, xvr 196, xvr 194, xvi i, xvi z, xvu, xvu] [] σ2
    refine xs_aload hC (i := 2) (x := 196) dL_law_791 rfl ?_
    refine xs_arg hC hX hbl hbA i5 rfl rfl ⟨by decide, by decide⟩ hi hLx2 dL_law_792 dL_law_793 dL_law_795 dL_law_796 dL_law_797 ?_
    refine xs_arg hC hX hbl hbA i5 rfl rfl ⟨by decide, by decide⟩ hi hLx2 dL_law_798 dL_law_799 dL_law_801 dL_law_802 dL_law_803 ?_
    refine xs_arg hC hX hbl hbA i5 rfl rfl ⟨by decide, by decide⟩ hi hLx2 dL_law_804 dL_law_805 dL_law_807 dL_law_808 dL_law_809 ?_
    refine xs_ck (as := [xvr 196, xvi (xs (i + 1).toNat).toInt, xvi (xs (i + 2).toNat).toInt, xvi (xs (i + 3).toNat).toInt]) (rest := []) (K := fun r σ' => ∃ z : Int, r = some (xvl z) ∧ ∃ ς, σ' = xbk tM σ2 ς ∧ RI ς ∧ (ς 0 2 = σ2 196 2) ∧ ς 27 = σ2 223 ∧ ς 1 = σ2 197 ∧ ς 6 = σ2 202 ∧ RKs (xsel tM σ2) ς) hC ((xCk_MV (n := 3) (τ := tM) (mX11_next_ l D yv) (subM w1) q_8_56 q_8_57 q_8_58 q_1_15 q_8_59 rfl rfl (by decide +kernel) (by decide) (shLw_fin w1)).up (Nat.le_of_ble_eq_true rfl)) (by show kz.1 + (1) ≤ 601024; have : 1 ≤ 15 := (by first | omega | (split <;> omega)); omega) (by show kz.2 + (6 * 1) ≤ 7293034; have : 6 * 1 ≤ 15690 := (by first | omega | (split <;> omega)); omega) dL_law_810 (xMVf (ci := 11) rfl rfl (fun Q2 hQ2 => s_next_J (σ := xsel tM σ2) i3 (fun r2 ς h2 h9 => hQ2 _ _ ⟨_, rfl, _, rfl, h2.1, h2.2.1, h2.2.2.1, h2.2.2.2.1, h2.2.2.2.2.1, h9⟩))) rfl (Nat.le_of_ble_eq_true rfl) (fun r σ3 hk => ?_)
    obtain ⟨z2, rfl, ς, rfl, j1, j2, j3, j5, j6, j9⟩ := hk
    have j4 := KPx.same hkp hw9 hw10 (j3.trans i7)
    refine xs_lstoreL hC dL_law_813 (Nat.le_of_ble_eq_true rfl) ?_
    show XA _ p l e room_1 s m _ below meth c D yv a2 ρ2 224 (shLw w1) A 8 Qm 815 [xvr 195, xvr 0, xvr 196, xvr 194, xvi i, xvi z, xvl z2, xvu] [] (xbk tM σ2 ς)
    refine xs_goto (tgt := 1390) hC dL_law_815 rfl ?_
    refine XA.forget 5 ?_
    refine XA.forget 6 ?_
    exact hend _ w1 a2 ρ2 _ ⟨(LI.ref i1 i2 j1 (by omega) j4 (hT0.nx (i8.trans hkt.1) (i9.trans hkt.2) (j5.trans i10) (j6.trans i11) (by omega)) i5), GL.fin ((hG2.cls hst).ks j9) hlo⟩ (hkz.st (k1 := 1) (k2 := 6 * 1) hw13 (by decide) (by decide))
set_option maxHeartbeats 4000000 in
set_option maxRecDepth 100000 in
theorem law_17 (hL : LC p l s m meth c D yv A b Lx xs ad) (hI0 : LIG a ρ w σ b) (hkz : LKz n w kz) (hi : 0 ≤ i ∧ i + 5 < Lx) (hn : n ≤ 512) (hend : ∀ kz w a ρ σ, LIG a ρ w σ b → LKz (n + 1) w kz → XA kz p l e room_1 s m #[Value.ref b] below meth c D yv a ρ 224 (shLw w) A 8 Qm 1390 (lL i) [] σ) : XA kz p l e room_1 s m #[Value.ref b] below meth c D yv a ρ 224 (shLw w) A 8 Qm 818 (lL i) [] σ := by
  obtain ⟨hC, hYY, hX, hbl, hbA, hstt, hLx⟩ := hL
  obtain ⟨hI, hG⟩ := hI0
  have hr := hkz.r hn
  have hLx2 : (Lx : Int) ≤ 3072 := by omega
  refine xs_aload hC (i := 1) (x := 0) dL_law_818 rfl ?_
  refine xs_arg hC hX hbl hbA hI.2.2.2.2 rfl rfl ⟨by decide, by decide⟩ hi hLx2 dL_law_819 dL_law_820 dL_law_822 dL_law_823 dL_law_824 ?_
  by_cases ht : tW σ (xs (i + 1).toNat).toInt
  · refine vs_call (shf := shLw) (rest := []) (as' := [xvi (xs (i + 1).toNat).toInt]) (t := 0) (ci := 10) (n := 1) (K := fun r w' σ' => (JW w' σ' ∧ RsK [xvr 0, xvi (xs (i + 1).toNat).toInt] σ w r w' σ') ∧ (true = true → w' 13 = true)) (mgS 194 σ) (mgA 194 a) (mgR 194 ρ) (mg_ok 194 224 σ a ρ).1 (mg_ok 194 224 σ a ρ).2.1 (mg_ok 194 224 σ a ρ).2.2 hC hYY.1 (mvX10_whom2K true (mcO_t 0) l D yv) (Nat.le_of_ble_eq_true rfl) vfamL q_3_234 q_3_235 q_3_236 q_1_1 q_3_237 rfl rfl (by decide +kernel) (by decide) (by show kz.1 + ((if w 13 = true then 0 else 8) + 0) ≤ 601024; have : (if w 13 = true then 0 else 8) ≤ 8 := (by split <;> omega); omega) (by show kz.2 + ((if w 13 = true then 0 else 15684) + 6 * 0) ≤ 7293034; have : (if w 13 = true then 0 else 15684) ≤ 15684 := (by split <;> omega); omega) dL_law_825 (sh0 _) rfl (by decide) hI.1 (lLp (by rfl)) (lLp (by rfl)) ⟨hI.2.1, ⟨_, rfl, ⟨fun _ => rfl, fun _ => ht⟩⟩, fun r w' σ' h1 h2 h3 => ⟨⟨h1, h2⟩, h3⟩⟩ (fun r w1 a1 ρ1 σ1 hk hLK1 hag1 => ?_)
    obtain ⟨hk, hB1⟩ := hk
    obtain ⟨hJ1, hR1⟩ := hk
    obtain ⟨⟨z, rfl⟩, hl1, hw9, ⟨hw10, hw13, hkt⟩, hst⟩ := hR1
    have hI1 := hI.cls (N := 194) (Or.inl rfl) hLK1 hJ1
    have hG2 := hG.mg (σ1 := σ1) (N := 194) (by omega)
    have hlo : ∀ t, t < 194 → mgS 194 σ σ1 t = σ1 t := fun t ht => if_pos (by omega)
    generalize mgA 194 a a1 = a2, mgR 194 ρ ρ1 = ρ2, mgS 194 σ σ1 = σ2 at hI1 hG2 hlo ⊢
    obtain ⟨i1, i2, i3, i4, i5, i6, i7, i8, i9, i10, i11⟩ := hI1
    obtain ⟨hh, hkp, hT0⟩ := hI.2.2.2.1
    have h01 : 0 ≤ σ 0 1 ∧ σ 0 1 ≤ 940 := hI.2.1.1.1
    refine xs_pop hC dL_law_828 ?_
    refine xs_aload hC (i := 2) (x := 196) dL_law_829 rfl ?_
    refine xs_arg hC hX hbl hbA i5 rfl rfl ⟨by decide, by decide⟩ hi hLx2 dL_law_830 dL_law_831 dL_law_833 dL_law_834 dL_law_835 ?_
    refine xs_ck (as := [xvr 196, xvi (xs (i + 1).toNat).toInt]) (rest := []) (K := fun r σ' => ∃ z : Int, r = some (xvi z) ∧ ∃ ς, σ' = xbk tM σ2 ς ∧ RI ς ∧ (ς 0 2 = σ2 196 2) ∧ ς 27 = σ2 223 ∧ ς 1 = σ2 197 ∧ ς 6 = σ2 202 ∧ RKs (xsel tM σ2) ς) hC ((xCk_MV (n := 1) (τ := tM) (mX11_whom l D yv) (subM w1) q_8_60 q_8_61 q_8_62 q_1_15 q_8_63 rfl rfl (by decide +kernel) (by decide) (shLw_fin w1)).up (Nat.le_of_ble_eq_true rfl)) (by show kz.1 + ((if w 13 = true then 0 else 8) + 0) ≤ 601024; have : (if w 13 = true then 0 else 8) + 0 ≤ 15 := (by first | omega | (split <;> omega)); omega) (by show kz.2 + ((if w 13 = true then 0 else 15684) + 6 * 0) ≤ 7293034; have : (if w 13 = true then 0 else 15684) + 6 * 0 ≤ 15690 := (by first | omega | (split <;> omega)); omega) dL_law_836 (xMVf (ci := 11) rfl rfl (fun Q2 hQ2 => s_whomJ (σ := xsel tM σ2) i3 (fun r2 ς h2 h9 => hQ2 _ _ ⟨_, rfl, _, rfl, h2.1, h2.2.1, h2.2.2.1, h2.2.2.2.1, h2.2.2.2.2.1, h9⟩))) rfl (Nat.le_of_ble_eq_true rfl) (fun r σ3 hk => ?_)
    obtain ⟨z2, rfl, ς, rfl, j1, j2, j3, j5, j6, j9⟩ := hk
    have j4 := KPx.same hkp hw9 hw10 (j3.trans i7)
    refine xs_pop hC dL_law_839 ?_
    refine xs_goto (tgt := 1390) hC dL_law_840 rfl ?_
    exact hend _ w1 a2 ρ2 _ ⟨(LI.ref i1 i2 j1 (by omega) j4 (hT0.nx (i8.trans hkt.1) (i9.trans hkt.2) (j5.trans i10) (j6.trans i11) (by omega)) i5), GL.fin ((hG2.cls hst).ks j9) hlo⟩ (hkz.on (j := 0) (hB1 rfl) (by decide))
  · refine vs_call (shf := shLw) (rest := []) (as' := [xvi (xs (i + 1).toNat).toInt]) (t := 0) (ci := 10) (n := 1) (K := fun r w' σ' => (JW w' σ' ∧ RsK [xvr 0, xvi (xs (i + 1).toNat).toInt] σ w r w' σ') ∧ (false = true → w' 13 = true)) (mgS 194 σ) (mgA 194 a) (mgR 194 ρ) (mg_ok 194 224 σ a ρ).1 (mg_ok 194 224 σ a ρ).2.1 (mg_ok 194 224 σ a ρ).2.2 hC hYY.1 (mvX10_whom2K false (mcO_f 0) l D yv) (Nat.le_of_ble_eq_true rfl) vfamL q_3_234 q_3_235 q_3_236 q_1_1 q_3_237 rfl rfl (by decide +kernel) (by decide) (by show kz.1 + 0 ≤ 601024; omega) (by show kz.2 + 6 * 0 ≤ 7293034; omega) dL_law_825 (sh0 _) rfl (by decide) hI.1 (lLp (by rfl)) (lLp (by rfl)) ⟨hI.2.1, ⟨_, rfl, ⟨fun h => absurd h ht, fun h => by cases h⟩⟩, fun r w' σ' h1 h2 h3 => ⟨⟨h1, h2⟩, h3⟩⟩ (fun r w1 a1 ρ1 σ1 hk hLK1 hag1 => ?_)
    obtain ⟨hk, hB1⟩ := hk
    obtain ⟨hJ1, hR1⟩ := hk
    obtain ⟨⟨z, rfl⟩, hl1, hw9, ⟨hw10, hw13, hkt⟩, hst⟩ := hR1
    have hI1 := hI.cls (N := 194) (Or.inl rfl) hLK1 hJ1
    have hG2 := hG.mg (σ1 := σ1) (N := 194) (by omega)
    have hlo : ∀ t, t < 194 → mgS 194 σ σ1 t = σ1 t := fun t ht => if_pos (by omega)
    generalize mgA 194 a a1 = a2, mgR 194 ρ ρ1 = ρ2, mgS 194 σ σ1 = σ2 at hI1 hG2 hlo ⊢
    obtain ⟨i1, i2, i3, i4, i5, i6, i7, i8, i9, i10, i11⟩ := hI1
    obtain ⟨hh, hkp, hT0⟩ := hI.2.2.2.1
    have h01 : 0 ≤ σ 0 1 ∧ σ 0 1 ≤ 940 := hI.2.1.1.1
    refine xs_pop hC dL_law_828 ?_
    refine xs_aload hC (i := 2) (x := 196) dL_law_829 rfl ?_
    refine xs_arg hC hX hbl hbA i5 rfl rfl ⟨by decide, by decide⟩ hi hLx2 dL_law_830 dL_law_831 dL_law_833 dL_law_834 dL_law_835 ?_
    refine xs_ck (as := [xvr 196, xvi (xs (i + 1).toNat).toInt]) (rest := []) (K := fun r σ' => ∃ z : Int, r = some (xvi z) ∧ ∃ ς, σ' = xbk tM σ2 ς ∧ RI ς ∧ (ς 0 2 = σ2 196 2) ∧ ς 27 = σ2 223 ∧ ς 1 = σ2 197 ∧ ς 6 = σ2 202 ∧ RKs (xsel tM σ2) ς) hC ((xCk_MV (n := 1) (τ := tM) (mX11_whom l D yv) (subM w1) q_8_60 q_8_61 q_8_62 q_1_15 q_8_63 rfl rfl (by decide +kernel) (by decide) (shLw_fin w1)).up (Nat.le_of_ble_eq_true rfl)) (by show kz.1 + (0) ≤ 601024; have : 0 ≤ 15 := (by first | omega | (split <;> omega)); omega) (by show kz.2 + (6 * 0) ≤ 7293034; have : 6 * 0 ≤ 15690 := (by first | omega | (split <;> omega)); omega) dL_law_836 (xMVf (ci := 11) rfl rfl (fun Q2 hQ2 => s_whomJ (σ := xsel tM σ2) i3 (fun r2 ς h2 h9 => hQ2 _ _ ⟨_, rfl, _, rfl, h2.1, h2.2.1, h2.2.2.1, h2.2.2.2.1, h2.2.2.2.2.1, h9⟩))) rfl (Nat.le_of_ble_eq_true rfl) (fun r σ3 hk => ?_)
    obtain ⟨z2, rfl, ς, rfl, j1, j2, j3, j5, j6, j9⟩ := hk
    have j4 := KPx.same hkp hw9 hw10 (j3.trans i7)
    refine xs_pop hC dL_law_839 ?_
    refine xs_goto (tgt := 1390) hC dL_law_840 rfl ?_
    exact hend _ w1 a2 ρ2 _ ⟨(LI.ref i1 i2 j1 (by omega) j4 (hT0.nx (i8.trans hkt.1) (i9.trans hkt.2) (j5.trans i10) (j6.trans i11) (by omega)) i5), GL.fin ((hG2.cls hst).ks j9) hlo⟩ (hkz.st (k1 := 0) (k2 := 6 * 0) hw13 (by decide) (by decide))
set_option maxHeartbeats 4000000 in
set_option maxRecDepth 100000 in
theorem law_18 (hL : LC p l s m meth c D yv A b Lx xs ad) (hI0 : LIG a ρ w σ b) (hkz : LKz n w kz) (hi : 0 ≤ i ∧ i + 5 < Lx) (hn : n ≤ 512) (hend : ∀ kz w a ρ σ, LIG a ρ w σ b → LKz (n + 1) w kz → XA kz p l e room_1 s m #[Value.ref b] below meth c D yv a ρ 224 (shLw w) A 8 Qm 1390 (lL i) [] σ) : XA kz p l e room_1 s m #[Value.ref b] below meth c D yv a ρ 224 (shLw w) A 8 Qm 843 (lL i) [] σ := by
  obtain ⟨hC, hYY, hX, hbl, hbA, hstt, hLx⟩ := hL
  obtain ⟨hI, hG⟩ := hI0
  have hr := hkz.r hn
  have hLx2 : (Lx : Int) ≤ 3072 := by omega
  refine xs_aload hC (i := 1) (x := 0) dL_law_843 rfl ?_
  refine xs_arg hC hX hbl hbA hI.2.2.2.2 rfl rfl ⟨by decide, by decide⟩ hi hLx2 dL_law_844 dL_law_845 dL_law_847 dL_law_848 dL_law_849 ?_
  refine vs_call (shf := shLw) (rest := []) (as' := [xvi (xs (i + 1).toNat).toInt]) (t := 0) (ci := 10) (n := 1) (K := fun r w' σ' => JW w' σ' ∧ RsK [xvr 0, xvi (xs (i + 1).toNat).toInt] σ w r w' σ') (mgS 194 σ) (mgA 194 a) (mgR 194 ρ) (mg_ok 194 224 σ a ρ).1 (mg_ok 194 224 σ a ρ).2.1 (mg_ok 194 224 σ a ρ).2.2 hC hYY.1 (mvX10_sweepK l D yv) (Nat.le_of_ble_eq_true rfl) vfamL q_4_111 q_4_112 q_4_113 q_1_1 q_4_114 rfl rfl (by decide +kernel) (by decide) (by show kz.1 + 0 ≤ 601024; omega) (by show kz.2 + 0 ≤ 7293034; omega) dL_law_850 (sh0 _) rfl (by decide) hI.1 (lLp (by rfl)) (lLp (by rfl)) ⟨hI.2.1, ⟨_, rfl⟩, fun r w' σ' h1 h2 => ⟨h1, h2⟩⟩ (fun r w1 a1 ρ1 σ1 hk hLK1 hag1 => ?_)
  obtain ⟨hJ1, hR1⟩ := hk
  obtain ⟨⟨z, rfl⟩, hl1, hw9, ⟨hw10, hw13, hkt⟩, hst⟩ := hR1
  have hI1 := hI.cls (N := 194) (Or.inl rfl) hLK1 hJ1
  have hG2 := hG.mg (σ1 := σ1) (N := 194) (by omega)
  have hlo : ∀ t, t < 194 → mgS 194 σ σ1 t = σ1 t := fun t ht => if_pos (by omega)
  generalize mgA 194 a a1 = a2, mgR 194 ρ ρ1 = ρ2, mgS 194 σ σ1 = σ2 at hI1 hG2 hlo ⊢
  obtain ⟨i1, i2, i3, i4, i5, i6, i7, i8, i9, i10, i11⟩ := hI1
  obtain ⟨hh, hkp, hT0⟩ := hI.2.2.2.1
  have h01 : 0 ≤ σ 0 1 ∧ σ 0 1 ≤ 940 := hI.2.1.1.1
  refine xs_pop hC dL_law_853 ?_
  refine xs_aload hC (i := 2) (x := 196) dL_law_854 rfl ?_
  refine xs_arg hC hX hbl hbA i5 rfl rfl ⟨by decide, by decide⟩ hi hLx2 dL_law_855 dL_law_856 dL_law_858 dL_law_859 dL_law_860 ?_
  refine xs_ck (as := [xvr 196, xvi (xs (i + 1).toNat).toInt]) (rest := []) (K := fun r σ' => ∃ z : Int, r = some (xvi z) ∧ ∃ ς, σ' = xbk tM σ2 ς ∧ RI ς ∧ (ς 0 2 = σ2 196 2) ∧ ς 27 = σ2 223 ∧ ς 1 = σ2 197 ∧ ς 6 = σ2 202 ∧ Fr [15] [0, 37] (xsel tM σ2) ς) hC ((xCk_MV (n := 1) (τ := tM) (mX11_sweep l D yv) (subM w1) q_8_65 q_8_66 q_8_67 q_1_15 q_8_68 rfl rfl (by decide +kernel) (by decide) (shLw_fin w1)).up (Nat.le_of_ble_eq_true rfl)) (by show kz.1 + (0) ≤ 601024; have : 0 ≤ 15 := (by first | omega | (split <;> omega)); omega) (by show kz.2 + (0) ≤ 7293034; have : 0 ≤ 15690 := (by first | omega | (split <;> omega)); omega) dL_law_861 (xMVf (ci := 11) rfl rfl (fun Q2 hQ2 => s_sweepJ (σ := xsel tM σ2) i3 hG2.1.2.1.1 (fun r2 ς h2 fr h9 => hQ2 _ _ ⟨_, rfl, _, rfl, h2.1, h2.2.1, h2.2.2.1, h2.2.2.2.1, h2.2.2.2.2.1, fr⟩))) rfl (Nat.le_of_ble_eq_true rfl) (fun r σ3 hk => ?_)
  obtain ⟨z2, rfl, ς, rfl, j1, j2, j3, j5, j6, j9⟩ := hk
  have j4 := KPx.same hkp hw9 hw10 (j3.trans i7)
  refine xs_pop hC dL_law_864 ?_
  refine xs_goto (tgt := 1390) hC dL_law_865 rfl ?_
  exact hend _ w1 a2 ρ2 _ ⟨(LI.ref i1 i2 j1 (by omega) j4 (hT0.nx (i8.trans hkt.1) (i9.trans hkt.2) (j5.trans i10) (j6.trans i11) (by omega)) i5), GL.fin ((hG2.cls hst).fr j9 (by decide) (by decide)) hlo⟩ (hkz.st (k1 := 0) (k2 := 0) hw13 (by decide) (by decide))
end XP
