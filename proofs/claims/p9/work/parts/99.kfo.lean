theorem q_4_120 : Cond.methodLink RL 111 yX10_swept ∈ gw := gw_4 120 (by decide +kernel) rfl
theorem q_4_121 : Cond.instanceMethod yX10_swept ∈ gw := gw_4 121 (by decide +kernel) rfl
theorem q_4_122 : Cond.selects RX10 yX10_swept yX10_swept ∈ gw := gw_4 122 (by decide +kernel) rfl
theorem q_4_123 : Cond.code yX10_swept cX10_swept 2 (some .int) ∈ gw := gw_4 123 (by decide +kernel) rfl
theorem q_4_124 : Cond.methodLink RL 115 yX10_gains ∈ gw := gw_4 124 (by decide +kernel) rfl
theorem q_4_125 : Cond.instanceMethod yX10_gains ∈ gw := gw_4 125 (by decide +kernel) rfl
theorem q_4_126 : Cond.selects RX10 yX10_gains yX10_gains ∈ gw := gw_4 126 (by decide +kernel) rfl
theorem q_4_127 : Cond.code yX10_gains cX10_gains 4 (some .int) ∈ gw := gw_4 127 (by decide +kernel) rfl
theorem q_4_129 : Cond.methodLink RL 119 yX10_open ∈ gw := gw_4 129 (by decide +kernel) rfl
theorem q_4_130 : Cond.instanceMethod yX10_open ∈ gw := gw_4 130 (by decide +kernel) rfl
theorem q_4_131 : Cond.selects RX10 yX10_open yX10_open ∈ gw := gw_4 131 (by decide +kernel) rfl
theorem q_4_132 : Cond.code yX10_open cX10_open 1 (some .int) ∈ gw := gw_4 132 (by decide +kernel) rfl
theorem q_4_238 : Cond.methodLink RL 123 yX10_first ∈ gw := gw_4 238 (by decide +kernel) rfl
theorem q_4_239 : Cond.instanceMethod yX10_first ∈ gw := gw_4 239 (by decide +kernel) rfl
theorem q_5_0 : Cond.selects RX10 yX10_first yX10_first ∈ gw := gw_5 0 (by decide +kernel) rfl
theorem q_5_1 : Cond.code yX10_first cX10_first 1 (some .int) ∈ gw := gw_5 1 (by decide +kernel) rfl
theorem q_5_6 : Cond.methodLink RL 127 yX10_bent ∈ gw := gw_5 6 (by decide +kernel) rfl
theorem q_5_7 : Cond.instanceMethod yX10_bent ∈ gw := gw_5 7 (by decide +kernel) rfl
theorem q_5_8 : Cond.selects RX10 yX10_bent yX10_bent ∈ gw := gw_5 8 (by decide +kernel) rfl
theorem q_5_9 : Cond.code yX10_bent cX10_bent 3 (some .int) ∈ gw := gw_5 9 (by decide +kernel) rfl
theorem q_5_39 : Cond.methodLink RL 131 yX10_play ∈ gw := gw_5 39 (by decide +kernel) rfl
theorem q_5_40 : Cond.instanceMethod yX10_play ∈ gw := gw_5 40 (by decide +kernel) rfl
theorem q_5_41 : Cond.selects RX10 yX10_play yX10_play ∈ gw := gw_5 41 (by decide +kernel) rfl
theorem q_5_42 : Cond.code yX10_play cX10_play 5 (some .int) ∈ gw := gw_5 42 (by decide +kernel) rfl
theorem q_5_47 : Cond.methodLink RL 135 yX10_deal ∈ gw := gw_5 47 (by decide +kernel) rfl
theorem q_5_48 : Cond.instanceMethod yX10_deal ∈ gw := gw_5 48 (by decide +kernel) rfl
theorem q_5_49 : Cond.selects RX10 yX10_deal yX10_deal ∈ gw := gw_5 49 (by decide +kernel) rfl
theorem q_5_50 : Cond.code yX10_deal cX10_deal 3 (some .boolean) ∈ gw := gw_5 50 (by decide +kernel) rfl
theorem q_5_61 : Cond.methodLink RL 140 yX10_games ∈ gw := gw_5 61 (by decide +kernel) rfl
theorem q_5_62 : Cond.instanceMethod yX10_games ∈ gw := gw_5 62 (by decide +kernel) rfl
theorem q_5_63 : Cond.selects RX10 yX10_games yX10_games ∈ gw := gw_5 63 (by decide +kernel) rfl
theorem q_5_64 : Cond.code yX10_games cX10_games 5 (some .int) ∈ gw := gw_5 64 (by decide +kernel) rfl
theorem q_5_77 : Cond.methodLink RL 144 yX10_length ∈ gw := gw_5 77 (by decide +kernel) rfl
theorem q_5_78 : Cond.instanceMethod yX10_length ∈ gw := gw_5 78 (by decide +kernel) rfl
theorem q_5_79 : Cond.selects RX10 yX10_length yX10_length ∈ gw := gw_5 79 (by decide +kernel) rfl
theorem q_5_80 : Cond.code yX10_length cX10_length 5 (some .int) ∈ gw := gw_5 80 (by decide +kernel) rfl
theorem q_8_69 : Cond.methodLink RL 114 yX11_swept ∈ gw := gw_8 69 (by decide +kernel) rfl
theorem q_8_70 : Cond.instanceMethod yX11_swept ∈ gw := gw_8 70 (by decide +kernel) rfl
theorem q_8_71 : Cond.selects RX11 yX11_swept yX11_swept ∈ gw := gw_8 71 (by decide +kernel) rfl
theorem q_8_72 : Cond.code yX11_swept cX11_swept 2 (some .int) ∈ gw := gw_8 72 (by decide +kernel) rfl
theorem q_8_73 : Cond.methodLink RL 118 yX11_gains ∈ gw := gw_8 73 (by decide +kernel) rfl
theorem q_8_74 : Cond.instanceMethod yX11_gains ∈ gw := gw_8 74 (by decide +kernel) rfl
theorem q_8_75 : Cond.selects RX11 yX11_gains yX11_gains ∈ gw := gw_8 75 (by decide +kernel) rfl
theorem q_8_76 : Cond.code yX11_gains cX11_gains 4 (some .int) ∈ gw := gw_8 76 (by decide +kernel) rfl
theorem q_8_81 : Cond.methodLink RL 122 yX11_open ∈ gw := gw_8 81 (by decide +kernel) rfl
theorem q_8_82 : Cond.instanceMethod yX11_open ∈ gw := gw_8 82 (by decide +kernel) rfl
theorem q_8_83 : Cond.selects RX11 yX11_open yX11_open ∈ gw := gw_8 83 (by decide +kernel) rfl
theorem q_8_84 : Cond.code yX11_open cX11_open 1 (some .int) ∈ gw := gw_8 84 (by decide +kernel) rfl
theorem q_8_115 : Cond.methodLink RL 126 yX11_first ∈ gw := gw_8 115 (by decide +kernel) rfl
theorem q_8_116 : Cond.instanceMethod yX11_first ∈ gw := gw_8 116 (by decide +kernel) rfl
theorem q_8_117 : Cond.selects RX11 yX11_first yX11_first ∈ gw := gw_8 117 (by decide +kernel) rfl
theorem q_8_118 : Cond.code yX11_first cX11_first 1 (some .int) ∈ gw := gw_8 118 (by decide +kernel) rfl
theorem q_8_119 : Cond.methodLink RL 130 yX11_bent ∈ gw := gw_8 119 (by decide +kernel) rfl
theorem q_8_120 : Cond.instanceMethod yX11_bent ∈ gw := gw_8 120 (by decide +kernel) rfl
theorem q_8_121 : Cond.selects RX11 yX11_bent yX11_bent ∈ gw := gw_8 121 (by decide +kernel) rfl
theorem q_8_122 : Cond.code yX11_bent cX11_bent 3 (some .int) ∈ gw := gw_8 122 (by decide +kernel) rfl
theorem q_8_131 : Cond.methodLink RL 134 yX11_play ∈ gw := gw_8 131 (by decide +kernel) rfl
theorem q_8_132 : Cond.instanceMethod yX11_play ∈ gw := gw_8 132 (by decide +kernel) rfl
theorem q_8_133 : Cond.selects RX11 yX11_play yX11_play ∈ gw := gw_8 133 (by decide +kernel) rfl
theorem q_8_134 : Cond.code yX11_play cX11_play 3 (some .int) ∈ gw := gw_8 134 (by decide +kernel) rfl
theorem q_8_143 : Cond.methodLink RL 139 yX11_deal ∈ gw := gw_8 143 (by decide +kernel) rfl
theorem q_8_144 : Cond.instanceMethod yX11_deal ∈ gw := gw_8 144 (by decide +kernel) rfl
theorem q_8_145 : Cond.selects RX11 yX11_deal yX11_deal ∈ gw := gw_8 145 (by decide +kernel) rfl
theorem q_8_146 : Cond.code yX11_deal cX11_deal 3 (some .boolean) ∈ gw := gw_8 146 (by decide +kernel) rfl
theorem q_8_156 : Cond.methodLink RL 143 yX11_games ∈ gw := gw_8 156 (by decide +kernel) rfl
theorem q_8_157 : Cond.instanceMethod yX11_games ∈ gw := gw_8 157 (by decide +kernel) rfl
theorem q_8_158 : Cond.selects RX11 yX11_games yX11_games ∈ gw := gw_8 158 (by decide +kernel) rfl
theorem q_8_159 : Cond.code yX11_games cX11_games 5 (some .int) ∈ gw := gw_8 159 (by decide +kernel) rfl
theorem q_8_176 : Cond.methodLink RL 147 yX11_length ∈ gw := gw_8 176 (by decide +kernel) rfl
theorem q_8_177 : Cond.instanceMethod yX11_length ∈ gw := gw_8 177 (by decide +kernel) rfl
theorem q_8_178 : Cond.selects RX11 yX11_length yX11_length ∈ gw := gw_8 178 (by decide +kernel) rfl
theorem q_8_179 : Cond.code yX11_length cX11_length 5 (some .int) ∈ gw := gw_8 179 (by decide +kernel) rfl
section XP
variable {p : Program} {l : Launch} {e : Env} {s : State} {m : MethodId} {below : List Frame} {meth : Method} {c : Code}
variable {D : va_G} {yv : Nat → ClassId} {a : Nat → Nat} {ρ : Nat → Nat → Option Nat} {A : Nat → Prop} {kz : Nat × Nat} {Qm : State → Prop} {σ : xS} {w : Nat → Bool} {b Lx n : Nat} {xs : Nat → Int32} {ad : Nat → Nat} {i : Int}
set_option maxHeartbeats 4000000 in
set_option maxRecDepth 100000 in
theorem law_19 (hL : LC p l s m meth c D yv A b Lx xs ad) (hI0 : LIG a ρ w σ b) (hkz : LKz n w kz) (hi : 0 ≤ i ∧ i + 5 < Lx) (hn : n ≤ 512) (hend : ∀ kz w a ρ σ, LIG a ρ w σ b → LKz (n + 1) w kz → XA kz p l e room_1 s m #[Value.ref b] below meth c D yv a ρ 224 (shLw w) A 8 Qm 1390 (lL i) [] σ) : XA kz p l e room_1 s m #[Value.ref b] below meth c D yv a ρ 224 (shLw w) A 8 Qm 868 (lL i) [] σ := by
  obtain ⟨hC, hYY, hX, hbl, hbA, hstt, hLx⟩ := hL
  obtain ⟨hI, hG⟩ := hI0
  have hr := hkz.r hn
  have hLx2 : (Lx : Int) ≤ 3072 := by omega
  refine xs_aload hC (i := 1) (x := 0) dL_law_868 rfl ?_
  refine xs_arg hC hX hbl hbA hI.2.2.2.2 rfl rfl ⟨by decide, by decide⟩ hi hLx2 dL_law_869 dL_law_870 dL_law_872 dL_law_873 dL_law_874 ?_
  refine vs_call (shf := shLw) (rest := []) (as' := [xvi (xs (i + 1).toNat).toInt]) (t := 0) (ci := 10) (n := 1) (K := fun r w' σ' => JW w' σ' ∧ RsK [xvr 0, xvi (xs (i + 1).toNat).toInt] σ w r w' σ') (mgS 194 σ) (mgA 194 a) (mgR 194 ρ) (mg_ok 194 224 σ a ρ).1 (mg_ok 194 224 σ a ρ).2.1 (mg_ok 194 224 σ a ρ).2.2 hC hYY.1 (mvX10_sweptK l D yv) (Nat.le_of_ble_eq_true rfl) vfamL q_4_120 q_4_121 q_4_122 q_1_1 q_4_123 rfl rfl (by decide +kernel) (by decide) (by show kz.1 + 0 ≤ 601024; omega) (by show kz.2 + 0 ≤ 7293034; omega) dL_law_875 (sh0 _) rfl (by decide) hI.1 (lLp (by rfl)) (lLp (by rfl)) ⟨hI.2.1, ⟨_, rfl⟩, fun r w' σ' h1 h2 => ⟨h1, h2⟩⟩ (fun r w1 a1 ρ1 σ1 hk hLK1 hag1 => ?_)
  obtain ⟨hJ1, hR1⟩ := hk
  obtain ⟨⟨z, rfl⟩, hl1, hw9, ⟨hw10, hw13, hkt⟩, hst⟩ := hR1
  have hI1 := hI.cls (N := 194) (Or.inl rfl) hLK1 hJ1
  have hG2 := hG.mg (σ1 := σ1) (N := 194) (by omega)
  have hlo : ∀ t, t < 194 → mgS 194 σ σ1 t = σ1 t := fun t ht => if_pos (by omega)
  generalize mgA 194 a a1 = a2, mgR 194 ρ ρ1 = ρ2, mgS 194 σ σ1 = σ2 at hI1 hG2 hlo ⊢
  obtain ⟨i1, i2, i3, i4, i5, i6, i7, i8, i9, i10, i11⟩ := hI1
  obtain ⟨hh, hkp, hT0⟩ := hI.2.2.2.1
  have h01 : 0 ≤ σ 0 1 ∧ σ 0 1 ≤ 940 := hI.2.1.1.1
  refine xs_pop hC dL_law_878 ?_
  refine xs_aload hC (i := 2) (x := 196) dL_law_879 rfl ?_
  refine xs_arg hC hX hbl hbA i5 rfl rfl ⟨by decide, by decide⟩ hi hLx2 dL_law_880 dL_law_881 dL_law_883 dL_law_884 dL_law_885 ?_
  refine xs_ck (as := [xvr 196, xvi (xs (i + 1).toNat).toInt]) (rest := []) (K := fun r σ' => ∃ z : Int, r = some (xvi z) ∧ ∃ ς, σ' = xbk tM σ2 ς ∧ RI ς ∧ (ς 0 2 = σ2 196 2) ∧ ς 27 = σ2 223 ∧ ς 1 = σ2 197 ∧ ς 6 = σ2 202 ∧ Fr [] [0] (xsel tM σ2) ς) hC ((xCk_MV (n := 1) (τ := tM) (mX11_swept l D yv) (subM w1) q_8_69 q_8_70 q_8_71 q_1_15 q_8_72 rfl rfl (by decide +kernel) (by decide) (shLw_fin w1)).up (Nat.le_of_ble_eq_true rfl)) (by show kz.1 + (0) ≤ 601024; have : 0 ≤ 15 := (by first | omega | (split <;> omega)); omega) (by show kz.2 + (0) ≤ 7293034; have : 0 ≤ 15690 := (by first | omega | (split <;> omega)); omega) dL_law_886 (xMVf (ci := 11) rfl rfl (fun Q2 hQ2 => s_sweptJ (σ := xsel tM σ2) i3 hG2.1.2.1.1 (fun r2 ς h2 fr h9 => hQ2 _ _ ⟨_, rfl, _, rfl, h2.1, h2.2.1, h2.2.2.1, h2.2.2.2.1, h2.2.2.2.2.1, fr⟩))) rfl (Nat.le_of_ble_eq_true rfl) (fun r σ3 hk => ?_)
  obtain ⟨z2, rfl, ς, rfl, j1, j2, j3, j5, j6, j9⟩ := hk
  have j4 := KPx.same hkp hw9 hw10 (j3.trans i7)
  refine xs_pop hC dL_law_889 ?_
  refine xs_goto (tgt := 1390) hC dL_law_890 rfl ?_
  exact hend _ w1 a2 ρ2 _ ⟨(LI.ref i1 i2 j1 (by omega) j4 (hT0.nx (i8.trans hkt.1) (i9.trans hkt.2) (j5.trans i10) (j6.trans i11) (by omega)) i5), GL.fin ((hG2.cls hst).fr j9 (by decide) (by decide)) hlo⟩ (hkz.st (k1 := 0) (k2 := 0) hw13 (by decide) (by decide))
set_option maxHeartbeats 4000000 in
set_option maxRecDepth 100000 in
theorem law_20 (hL : LC p l s m meth c D yv A b Lx xs ad) (hI0 : LIG a ρ w σ b) (hkz : LKz n w kz) (hi : 0 ≤ i ∧ i + 5 < Lx) (hn : n ≤ 512) (hend : ∀ kz w a ρ σ, LIG a ρ w σ b → LKz (n + 1) w kz → XA kz p l e room_1 s m #[Value.ref b] below meth c D yv a ρ 224 (shLw w) A 8 Qm 1390 (lL i) [] σ) : XA kz p l e room_1 s m #[Value.ref b] below meth c D yv a ρ 224 (shLw w) A 8 Qm 893 (lL i) [] σ := by
  obtain ⟨hC, hYY, hX, hbl, hbA, hstt, hLx⟩ := hL
  obtain ⟨hI, hG⟩ := hI0
  have hr := hkz.r hn
  have hLx2 : (Lx : Int) ≤ 3072 := by omega
  refine xs_aload hC (i := 1) (x := 0) dL_law_893 rfl ?_
  refine xs_arg hC hX hbl hbA hI.2.2.2.2 rfl rfl ⟨by decide, by decide⟩ hi hLx2 dL_law_894 dL_law_895 dL_law_897 dL_law_898 dL_law_899 ?_
  refine vs_call (shf := shLw) (rest := []) (as' := [xvi (xs (i + 1).toNat).toInt]) (t := 0) (ci := 10) (n := 1) (K := fun r w' σ' => JW w' σ' ∧ RsK [xvr 0, xvi (xs (i + 1).toNat).toInt] σ w r w' σ') (mgS 194 σ) (mgA 194 a) (mgR 194 ρ) (mg_ok 194 224 σ a ρ).1 (mg_ok 194 224 σ a ρ).2.1 (mg_ok 194 224 σ a ρ).2.2 hC hYY.1 (mvX10_gainsK l D yv) (Nat.le_of_ble_eq_true rfl) vfamL q_4_124 q_4_125 q_4_126 q_1_1 q_4_127 rfl rfl (by decide +kernel) (by decide) (by show kz.1 + 0 ≤ 601024; omega) (by show kz.2 + 0 ≤ 7293034; omega) dL_law_900 (sh0 _) rfl (by decide) hI.1 (lLp (by rfl)) (lLp (by rfl)) ⟨hI.2.1, ⟨_, rfl⟩, fun r w' σ' h1 h2 => ⟨h1, h2⟩⟩ (fun r w1 a1 ρ1 σ1 hk hLK1 hag1 => ?_)
  obtain ⟨hJ1, hR1⟩ := hk
  obtain ⟨⟨z, rfl⟩, hl1, hw9, ⟨hw10, hw13, hkt⟩, hst⟩ := hR1
  have hI1 := hI.cls (N := 194) (Or.inl rfl) hLK1 hJ1
  have hG2 := hG.mg (σ1 := σ1) (N := 194) (by omega)
  have hlo : ∀ t, t < 194 → mgS 194 σ σ1 t = σ1 t := fun t ht => if_pos (by omega)
  generalize mgA 194 a a1 = a2, mgR 194 ρ ρ1 = ρ2, mgS 194 σ σ1 = σ2 at hI1 hG2 hlo ⊢
  obtain ⟨i1, i2, i3, i4, i5, i6, i7, i8, i9, i10, i11⟩ := hI1
  obtain ⟨hh, hkp, hT0⟩ := hI.2.2.2.1
  have h01 : 0 ≤ σ 0 1 ∧ σ 0 1 ≤ 940 := hI.2.1.1.1
  refine xs_pop hC dL_law_903 ?_
  refine xs_aload hC (i := 2) (x := 196) dL_law_904 rfl ?_
  refine xs_arg hC hX hbl hbA i5 rfl rfl ⟨by decide, by decide⟩ hi hLx2 dL_law_905 dL_law_906 dL_law_908 dL_law_909 dL_law_910 ?_
  refine xs_ck (as := [xvr 196, xvi (xs (i + 1).toNat).toInt]) (rest := []) (K := fun r σ' => ∃ z : Int, r = some (xvi z) ∧ ∃ ς, σ' = xbk tM σ2 ς ∧ RI ς ∧ (ς 0 2 = σ2 196 2) ∧ ς 27 = σ2 223 ∧ ς 1 = σ2 197 ∧ ς 6 = σ2 202 ∧ Fr [] [0] (xsel tM σ2) ς) hC ((xCk_MV (n := 1) (τ := tM) (mX11_gains l D yv) (subM w1) q_8_73 q_8_74 q_8_75 q_1_15 q_8_76 rfl rfl (by decide +kernel) (by decide) (shLw_fin w1)).up (Nat.le_of_ble_eq_true rfl)) (by show kz.1 + (0) ≤ 601024; have : 0 ≤ 15 := (by first | omega | (split <;> omega)); omega) (by show kz.2 + (0) ≤ 7293034; have : 0 ≤ 15690 := (by first | omega | (split <;> omega)); omega) dL_law_911 (xMVf (ci := 11) rfl rfl (fun Q2 hQ2 => s_gainsJ (σ := xsel tM σ2) i3 hG2.1.2.1.1 (fun r2 ς h2 fr h9 => hQ2 _ _ ⟨_, rfl, _, rfl, h2.1, h2.2.1, h2.2.2.1, h2.2.2.2.1, h2.2.2.2.2.1, fr⟩))) rfl (Nat.le_of_ble_eq_true rfl) (fun r σ3 hk => ?_)
  obtain ⟨z2, rfl, ς, rfl, j1, j2, j3, j5, j6, j9⟩ := hk
  have j4 := KPx.same hkp hw9 hw10 (j3.trans i7)
  refine xs_pop hC dL_law_914 ?_
  refine xs_goto (tgt := 1390) hC dL_law_915 rfl ?_
  exact hend _ w1 a2 ρ2 _ ⟨(LI.ref i1 i2 j1 (by omega) j4 (hT0.nx (i8.trans hkt.1) (i9.trans hkt.2) (j5.trans i10) (j6.trans i11) (by omega)) i5), GL.fin ((hG2.cls hst).fr j9 (by decide) (by decide)) hlo⟩ (hkz.st (k1 := 0) (k2 := 0) hw13 (by decide) (by decide))
set_option maxHeartbeats 4000000 in
set_option maxRecDepth 100000 in
theorem law_21 (hL : LC p l s m meth c D yv A b Lx xs ad) (hI0 : LIG a ρ w σ b) (hkz : LKz n w kz) (hi : 0 ≤ i ∧ i + 5 < Lx) (hn : n ≤ 512) (hend : ∀ kz w a ρ σ, LIG a ρ w σ b → LKz (n + 1) w kz → XA kz p l e room_1 s m #[Value.ref b] below meth c D yv a ρ 224 (shLw w) A 8 Qm 1390 (lL i) [] σ) : XA kz p l e room_1 s m #[Value.ref b] below meth c D yv a ρ 224 (shLw w) A 8 Qm 918 (lL i) [] σ := by
  obtain ⟨hC, hYY, hX, hbl, hbA, hstt, hLx⟩ := hL
  obtain ⟨hI, hG⟩ := hI0
  have hr := hkz.r hn
  have hLx2 : (Lx : Int) ≤ 3072 := by omega
  refine xs_aload hC (i := 1) (x := 0) dL_law_918 rfl ?_
  refine vs_call (shf := shLw) (rest := []) (as' := []) (t := 0) (ci := 10) (n := 0) (K := fun r w' σ' => JW w' σ' ∧ RsK [xvr 0] σ w r w' σ') (mgS 194 σ) (mgA 194 a) (mgR 194 ρ) (mg_ok 194 224 σ a ρ).1 (mg_ok 194 224 σ a ρ).2.1 (mg_ok 194 224 σ a ρ).2.2 hC hYY.1 (mvX10_openK l D yv) (Nat.le_of_ble_eq_true rfl) vfamL q_4_129 q_4_130 q_4_131 q_1_1 q_4_132 rfl rfl (by decide +kernel) (by decide) (by show kz.1 + 5 ≤ 601024; omega) (by show kz.2 + 2526 ≤ 7293034; omega) dL_law_919 (sh0 _) rfl (by decide) hI.1 (lLp (by rfl)) (lLp (by rfl)) ⟨hI.2.1, rfl, fun r w' σ' h1 h2 => ⟨h1, h2⟩⟩ (fun r w1 a1 ρ1 σ1 hk hLK1 hag1 => ?_)
  obtain ⟨hJ1, hR1⟩ := hk
  obtain ⟨⟨z, rfl⟩, hl1, hw9, ⟨hw10, hw13, hkt⟩, hst⟩ := hR1
  have hI1 := hI.cls (N := 194) (Or.inl rfl) hLK1 hJ1
  have hG2 := hG.mg (σ1 := σ1) (N := 194) (by omega)
  have hlo : ∀ t, t < 194 → mgS 194 σ σ1 t = σ1 t := fun t ht => if_pos (by omega)
  generalize mgA 194 a a1 = a2, mgR 194 ρ ρ1 = ρ2, mgS 194 σ σ1 = σ2 at hI1 hG2 hlo ⊢
  obtain ⟨i1, i2, i3, i4, i5, i6, i7, i8, i9, i10, i11⟩ := hI1
  obtain ⟨hh, hkp, hT0⟩ := hI.2.2.2.1
  have h01 : 0 ≤ σ 0 1 ∧ σ 0 1 ≤ 940 := hI.2.1.1.1
  refine xs_pop hC dL_law_922 ?_
  refine xs_aload hC (i := 2) (x := 196) dL_law_923 rfl ?_
  refine xs_ck (as := [xvr 196]) (rest := []) (K := fun r σ' => ∃ z : Int, r = some (xvi z) ∧ ∃ ς, σ' = xbk tM σ2 ς ∧ RI ς ∧ (ς 0 2 = σ2 196 2) ∧ ς 27 = σ2 223 ∧ ς 1 = σ2 197 ∧ ς 6 = σ2 202 ∧ RKs (xsel tM σ2) ς) hC ((xCk_MV (n := 0) (τ := tM) (mX11_open l D yv) (subM w1) q_8_81 q_8_82 q_8_83 q_1_15 q_8_84 rfl rfl (by decide +kernel) (by decide) (shLw_fin w1)).up (Nat.le_of_ble_eq_true rfl)) (by show kz.1 + (5) ≤ 601024; have : 5 ≤ 15 := (by first | omega | (split <;> omega)); omega) (by show kz.2 + (2526) ≤ 7293034; have : 2526 ≤ 15690 := (by first | omega | (split <;> omega)); omega) dL_law_924 (xMVf (ci := 11) rfl rfl (fun Q2 hQ2 => s_openJ (σ := xsel tM σ2) i3 (fun r2 ς h2 h9 => hQ2 _ _ ⟨_, rfl, _, rfl, h2.1, h2.2.1, h2.2.2.1, h2.2.2.2.1, h2.2.2.2.2.1, h9⟩))) rfl (Nat.le_of_ble_eq_true rfl) (fun r σ3 hk => ?_)
  obtain ⟨z2, rfl, ς, rfl, j1, j2, j3, j5, j6, j9⟩ := hk
  have j4 := KPx.same hkp hw9 hw10 (j3.trans i7)
  refine xs_pop hC dL_law_927 ?_
  refine xs_goto (tgt := 1390) hC dL_law_928 rfl ?_
  exact hend _ w1 a2 ρ2 _ ⟨(LI.ref i1 i2 j1 (by omega) j4 (hT0.nx (i8.trans hkt.1) (i9.trans hkt.2) (j5.trans i10) (j6.trans i11) (by omega)) i5), GL.fin ((hG2.cls hst).ks j9) hlo⟩ (hkz.st (k1 := 5) (k2 := 2526) hw13 (by decide) (by decide))
set_option maxHeartbeats 4000000 in
set_option maxRecDepth 100000 in
theorem law_22 (hL : LC p l s m meth c D yv A b Lx xs ad) (hI0 : LIG a ρ w σ b) (hkz : LKz n w kz) (hi : 0 ≤ i ∧ i + 5 < Lx) (hn : n ≤ 512) (hend : ∀ kz w a ρ σ, LIG a ρ w σ b → LKz (n + 1) w kz → XA kz p l e room_1 s m #[Value.ref b] below meth c D yv a ρ 224 (shLw w) A 8 Qm 1390 (lL i) [] σ) : XA kz p l e room_1 s m #[Value.ref b] below meth c D yv a ρ 224 (shLw w) A 8 Qm 931 (lL i) [] σ := by
  obtain ⟨hC, hYY, hX, hbl, hbA, hstt, hLx⟩ := hL
  obtain ⟨hI, hG⟩ := hI0
  have hr := hkz.r hn
  have hLx2 : (Lx : Int) ≤ 3072 := by omega
  refine xs_aload hC (i := 1) (x := 0) dL_law_931 rfl ?_
  refine vs_call (shf := shLw) (rest := []) (as' := []) (t := 0) (ci := 10) (n := 0) (K := fun r w' σ' => JW w' σ' ∧ RsK [xvr 0] σ w r w' σ') (mgS 194 σ) (mgA 194 a) (mgR 194 ρ) (mg_ok 194 224 σ a ρ).1 (mg_ok 194 224 σ a ρ).2.1 (mg_ok 194 224 σ a ρ).2.2 hC hYY.1 (mvX10_firstK l D yv) (Nat.le_of_ble_eq_true rfl) vfamL q_4_238 q_4_239 q_5_0 q_1_1 q_5_1 rfl rfl (by decide +kernel) (by decide) (by show kz.1 + 5 ≤ 601024; omega) (by show kz.2 + 2526 ≤ 7293034; omega) dL_law_932 (sh0 _) rfl (by decide) hI.1 (lLp (by rfl)) (lLp (by rfl)) ⟨hI.2.1, rfl, fun r w' σ' h1 h2 => ⟨h1, h2⟩⟩ (fun r w1 a1 ρ1 σ1 hk hLK1 hag1 => ?_)
  obtain ⟨hJ1, hR1⟩ := hk
  obtain ⟨⟨z, rfl⟩, hl1, hw9, ⟨hw10, hw13, hkt⟩, hst⟩ := hR1
  have hI1 := hI.cls (N := 194) (Or.inl rfl) hLK1 hJ1
  have hG2 := hG.mg (σ1 := σ1) (N := 194) (by omega)
  have hlo : ∀ t, t < 194 → mgS 194 σ σ1 t = σ1 t := fun t ht => if_pos (by omega)
  generalize mgA 194 a a1 = a2, mgR 194 ρ ρ1 = ρ2, mgS 194 σ σ1 = σ2 at hI1 hG2 hlo ⊢
  obtain ⟨i1, i2, i3, i4, i5, i6, i7, i8, i9, i10, i11⟩ := hI1
  obtain ⟨hh, hkp, hT0⟩ := hI.2.2.2.1
  have h01 : 0 ≤ σ 0 1 ∧ σ 0 1 ≤ 940 := hI.2.1.1.1
  refine xs_pop hC dL_law_935 ?_
  refine xs_aload hC (i := 2) (x := 196) dL_law_936 rfl ?_
  refine xs_ck (as := [xvr 196]) (rest := []) (K := fun r σ' => ∃ z : Int, r = some (xvi z) ∧ ∃ ς, σ' = xbk tM σ2 ς ∧ RI ς ∧ (ς 0 2 = σ2 196 2) ∧ ς 27 = σ2 223 ∧ ς 1 = σ2 197 ∧ ς 6 = σ2 202 ∧ RKs (xsel tM σ2) ς) hC ((xCk_MV (n := 0) (τ := tM) (mX11_first l D yv) (subM w1) q_8_115 q_8_116 q_8_117 q_1_15 q_8_118 rfl rfl (by decide +kernel) (by decide) (shLw_fin w1)).up (Nat.le_of_ble_eq_true rfl)) (by show kz.1 + (5) ≤ 601024; have : 5 ≤ 15 := (by first | omega | (split <;> omega)); omega) (by show kz.2 + (2526) ≤ 7293034; have : 2526 ≤ 15690 := (by first | omega | (split <;> omega)); omega) dL_law_937 (xMVf (ci := 11) rfl rfl (fun Q2 hQ2 => s_firstJ (σ := xsel tM σ2) i3 (fun r2 ς h2 h9 => hQ2 _ _ ⟨_, rfl, _, rfl, h2.1, h2.2.1, h2.2.2.1, h2.2.2.2.1, h2.2.2.2.2.1, h9⟩))) rfl (Nat.le_of_ble_eq_true rfl) (fun r σ3 hk => ?_)
  obtain ⟨z2, rfl, ς, rfl, j1, j2, j3, j5, j6, j9⟩ := hk
  have j4 := KPx.same hkp hw9 hw10 (j3.trans i7)
  refine xs_pop hC dL_law_940 ?_
  refine xs_goto (tgt := 1390) hC dL_law_941 rfl ?_
  exact hend _ w1 a2 ρ2 _ ⟨(LI.ref i1 i2 j1 (by omega) j4 (hT0.nx (i8.trans hkt.1) (i9.trans hkt.2) (j5.trans i10) (j6.trans i11) (by omega)) i5), GL.fin ((hG2.cls hst).ks j9) hlo⟩ (hkz.st (k1 := 5) (k2 := 2526) hw13 (by decide) (by decide))
set_option maxHeartbeats 4000000 in
set_option maxRecDepth 100000 in
theorem law_23 (hL : LC p l s m meth c D yv A b Lx xs ad) (hI0 : LIG a ρ w σ b) (hkz : LKz n w kz) (hi : 0 ≤ i ∧ i + 5 < Lx) (hn : n ≤ 512) (hend : ∀ kz w a ρ σ, LIG a ρ w σ b → LKz (n + 1) w kz → XA kz p l e room_1 s m #[Value.ref b] below meth c D yv a ρ 224 (shLw w) A 8 Qm 1390 (lL i) [] σ) : XA kz p l e room_1 s m #[Value.ref b] below meth c D yv a ρ 224 (shLw w) A 8 Qm 944 (lL i) [] σ := by
  obtain ⟨hC, hYY, hX, hbl, hbA, hstt, hLx⟩ := hL
  obtain ⟨hI, hG⟩ := hI0
  have hr := hkz.r hn
  have hLx2 : (Lx : Int) ≤ 3072 := by omega
  refine xs_aload hC (i := 1) (x := 0) dL_law_944 rfl ?_
  refine xs_arg hC hX hbl hbA hI.2.2.2.2 rfl rfl ⟨by decide, by decide⟩ hi hLx2 dL_law_945 dL_law_946 dL_law_948 dL_law_949 dL_law_950 ?_
  refine xs_arg hC hX hbl hbA hI.2.2.2.2 rfl rfl ⟨by decide, by decide⟩ hi hLx2 dL_law_951 dL_law_952 dL_law_954 dL_law_955 dL_law_956 ?_
  refine vs_call (shf := shLw) (rest := []) (as' := [xvi (xs (i + 1).toNat).toInt, xvi (xs (i + 2).toNat).toInt]) (t := 0) (ci := 10) (n := 2) (K := fun r w' σ' => JW w' σ' ∧ RsK [xvr 0, xvi (xs (i + 1).toNat).toInt, xvi (xs (i + 2).toNat).toInt] σ w r w' σ') (mgS 194 σ) (mgA 194 a) (mgR 194 ρ) (mg_ok 194 224 σ a ρ).1 (mg_ok 194 224 σ a ρ).2.1 (mg_ok 194 224 σ a ρ).2.2 hC hYY.1 (mvX10_bentK l D yv) (Nat.le_of_ble_eq_true rfl) vfamL q_5_6 q_5_7 q_5_8 q_1_1 q_5_9 rfl rfl (by decide +kernel) (by decide) (by show kz.1 + 0 ≤ 601024; omega) (by show kz.2 + 0 ≤ 7293034; omega) dL_law_957 (sh0 _) rfl (by decide) hI.1 (lLp (by rfl)) (lLp (by rfl)) ⟨hI.2.1, ⟨_, _, rfl⟩, fun r w' σ' h1 h2 => ⟨h1, h2⟩⟩ (fun r w1 a1 ρ1 σ1 hk hLK1 hag1 => ?_)
  obtain ⟨hJ1, hR1⟩ := hk
  obtain ⟨⟨z, rfl⟩, hl1, hw9, ⟨hw10, hw13, hkt⟩, hst⟩ := hR1
  have hI1 := hI.cls (N := 194) (Or.inl rfl) hLK1 hJ1
  have hG2 := hG.mg (σ1 := σ1) (N := 194) (by omega)
  have hlo : ∀ t, t < 194 → mgS 194 σ σ1 t = σ1 t := fun t ht => if_pos (by omega)
  generalize mgA 194 a a1 = a2, mgR 194 ρ ρ1 = ρ2, mgS 194 σ σ1 = σ2 at hI1 hG2 hlo ⊢
  obtain ⟨i1, i2, i3, i4, i5, i6, i7, i8, i9, i10, i11⟩ := hI1
  obtain ⟨hh, hkp, hT0⟩ := hI.2.2.2.1
  have h01 : 0 ≤ σ 0 1 ∧ σ 0 1 ≤ 940 := hI.2.1.1.1
  refine xs_pop hC dL_law_960 ?_
  refine xs_aload hC (i := 2) (x := 196) dL_law_961 rfl ?_
  refine xs_arg hC hX hbl hbA i5 rfl rfl ⟨by decide, by decide⟩ hi hLx2 dL_law_962 dL_law_963 dL_law_965 dL_law_966 dL_law_967 ?_
  refine xs_arg hC hX hbl hbA i5 rfl rfl ⟨by decide, by decide⟩ hi hLx2 dL_law_968 dL_law_969 dL_law_971 dL_law_972 dL_law_973 ?_
  refine xs_ck (as := [xvr 196, xvi (xs (i + 1).toNat).toInt, xvi (xs (i + 2).toNat).toInt]) (rest := []) (K := fun r σ' => ∃ z : Int, r = some (xvi z) ∧ ∃ ς, σ' = xbk tM σ2 ς ∧ RI ς ∧ (ς 0 2 = σ2 196 2) ∧ ς 27 = σ2 223 ∧ ς 1 = σ2 197 ∧ ς 6 = σ2 202 ∧ Fr [] [0] (xsel tM σ2) ς) hC ((xCk_MV (n := 2) (τ := tM) (mX11_bent l D yv) (subM w1) q_8_119 q_8_120 q_8_121 q_1_15 q_8_122 rfl rfl (by decide +kernel) (by decide) (shLw_fin w1)).up (Nat.le_of_ble_eq_true rfl)) (by show kz.1 + (0) ≤ 601024; have : 0 ≤ 15 := (by first | omega | (split <;> omega)); omega) (by show kz.2 + (0) ≤ 7293034; have : 0 ≤ 15690 := (by first | omega | (split <;> omega)); omega) dL_law_974 (xMVf (ci := 11) rfl rfl (fun Q2 hQ2 => s_bentJ (σ := xsel tM σ2) i3 hG2.1.2.1.1 (fun r2 ς h2 fr h9 => hQ2 _ _ ⟨_, rfl, _, rfl, h2.1, h2.2.1, h2.2.2.1, h2.2.2.2.1, h2.2.2.2.2.1, fr⟩))) rfl (Nat.le_of_ble_eq_true rfl) (fun r σ3 hk => ?_)
  obtain ⟨z2, rfl, ς, rfl, j1, j2, j3, j5, j6, j9⟩ := hk
  have j4 := KPx.same hkp hw9 hw10 (j3.trans i7)
  refine xs_pop hC dL_law_977 ?_
  refine xs_goto (tgt := 1390) hC dL_law_978 rfl ?_
  exact hend _ w1 a2 ρ2 _ ⟨(LI.ref i1 i2 j1 (by omega) j4 (hT0.nx (i8.trans hkt.1) (i9.trans hkt.2) (j5.trans i10) (j6.trans i11) (by omega)) i5), GL.fin ((hG2.cls hst).fr j9 (by decide) (by decide)) hlo⟩ (hkz.st (k1 := 0) (k2 := 0) hw13 (by decide) (by decide))
set_option maxHeartbeats 4000000 in
set_option maxRecDepth 100000 in
theorem law_24 (hL : LC p l s m meth c D yv A b Lx xs ad) (hI0 : LIG a ρ w σ b) (hkz : LKz n w kz) (hi : 0 ≤ i ∧ i + 5 < Lx) (hn : n ≤ 512) (hend : ∀ kz w a ρ σ, LIG a ρ w σ b → LKz (n + 1) w kz → XA kz p l e room_1 s m #[Value.ref b] below meth c D yv a ρ 224 (shLw w) A 8 Qm 1390 (lL i) [] σ) : XA kz p l e room_1 s m #[Value.ref b] below meth c D yv a ρ 224 (shLw w) A 8 Qm 981 (lL i) [] σ := by
  obtain ⟨hC, hYY, hX, hbl, hbA, hstt, hLx⟩ := hL
  obtain ⟨hI, hG⟩ := hI0
  have hr := hkz.r hn
  have hLx2 : (Lx : Int) ≤ 3072 := by omega
  refine xs_aload hC (i := 1) (x := 0) dL_law_981 rfl ?_
  refine xs_arg hC hX hbl hbA hI.2.2.2.2 rfl rfl ⟨by decide, by decide⟩ hi hLx2 dL_law_982 dL_law_983 dL_law_985 dL_law_986 dL_law_987 ?_
  refine vs_call (shf := shLw) (rest := []) (as' := [xvi (xs (i + 1).toNat).toInt]) (t := 0) (ci := 10) (n := 1) (K := fun r w' σ' => JW w' σ' ∧ KT σ σ' ∧ ∃ z : Int, r = some (xvi z) ∧ PLC (σ 198) (σ 197) (xs (i + 1).toNat).toInt w σ z w' σ') (mgS 194 σ) (mgA 194 a) (mgR 194 ρ) (mg_ok 194 224 σ a ρ).1 (mg_ok 194 224 σ a ρ).2.1 (mg_ok 194 224 σ a ρ).2.2 hC hYY.1 (mvX10_playF l D yv) (Nat.le_of_ble_eq_true rfl) vfamL q_5_39 q_5_40 q_5_41 q_1_1 q_5_42 rfl rfl (by decide +kernel) (by decide) (by show kz.1 + 13 ≤ 601024; omega) (by show kz.2 + 331 ≤ 7293034; omega) dL_law_988 (sh0 _) rfl (by decide) hI.1 (lLp (by rfl)) (lLp (by rfl)) ⟨_, σ 198, σ 197, rfl, hI.2.1, hG.1.1, hG.1.2.1.1, (fun h k hk => (hI.2.2.2.1.2.2.1 k (by have := h.2.2.1; omega)).1), fun r w' σ' h1 h2 h3 => ⟨h1, h2, _, rfl, h3⟩⟩ (fun r w1 a1 ρ1 σ1 hk hLK1 hag1 => ?_)
  obtain ⟨hJ1, hkt, z, rfl, hcr⟩ := hk
  obtain ⟨hl1, hw9, hw10, hw13⟩ := hcr.lo
  have hI1 := hI.cls (N := 194) (Or.inl rfl) hLK1 hJ1
  have hG2 := hG.mg (σ1 := σ1) (N := 194) (by omega)
  have hlo : ∀ t, t < 194 → mgS 194 σ σ1 t = σ1 t := fun t ht => if_pos (by omega)
  have hhi : ∀ t, 196 ≤ t → mgS 194 σ σ1 t = σ t := fun t ht => if_neg (by omega)
  generalize mgA 194 a a1 = a2, mgR 194 ρ ρ1 = ρ2, mgS 194 σ σ1 = σ2 at hI1 hG2 hlo hhi ⊢
  obtain ⟨i1, i2, i3, i4, i5, i6, i7, i8, i9, i10, i11⟩ := hI1
  obtain ⟨hh, hkp, hT0⟩ := hI.2.2.2.1
  have hcr9 : PLC (xsel tM σ2 2) (xsel tM σ2 1) (xs (i + 1).toNat).toInt w σ z w1 σ1 := by
    show PLC (σ2 198) (σ2 197) (xs (i + 1).toNat).toInt w σ z w1 σ1
    rw [hhi 198 (by decide), hhi 197 (by decide)]; exact hcr
  have h01 : 0 ≤ σ 0 1 ∧ σ 0 1 ≤ 940 := hI.2.1.1.1
  refine xs_pop hC dL_law_991 ?_
  refine xs_aload hC (i := 2) (x := 196) dL_law_992 rfl ?_
  refine xs_arg hC hX hbl hbA i5 rfl rfl ⟨by decide, by decide⟩ hi hLx2 dL_law_993 dL_law_994 dL_law_996 dL_law_997 dL_law_998 ?_
  refine xs_ck (as := [xvr 196, xvi (xs (i + 1).toNat).toInt]) (rest := []) (K := fun r σ' => ∃ z : Int, r = some (xvi z) ∧ ∃ ς, σ' = xbk tM σ2 ς ∧ RI ς ∧ (ς 0 2 = 0) ∧ ς 27 = σ2 223 ∧ ς 1 = σ2 197 ∧ ς 6 = σ2 202 ∧ (Fr [2, 7, 8, 20] [0, 2, 3, 4, 5, 24, 27] (xsel tM σ2) ς ∧ ((ς 0 2 = 0 ∧ ((¬ RLS ((xsel tM σ2) 2) ((xsel tM σ2) 1) ((xsel tM σ2) 0 2) (xs (i + 1).toNat).toInt ∧ z = -1 ∧ SAMEx (xsel tM σ2) ς) ∨ (RLS ((xsel tM σ2) 2) ((xsel tM σ2) 1) ((xsel tM σ2) 0 2) (xs (i + 1).toNat).toInt ∧ (((xsel tM σ2) 2 4 = -1 ∧ z = 0 ∧ SAMEx (xsel tM σ2) ς) ∨ (¬ (xsel tM σ2) 2 4 = -1 ∧ KPT ((xsel tM σ2) 0 27) (ς 0 27) ((xsel tM σ2) 8) (ς 8) ((xsel tM σ2) 2) ∧ (TV (ς 2) ∧ (∀ i9 : Nat, i9 < 4 ∨ 571 ≤ i9 → ς 2 i9 = (xsel tM σ2) 2 i9) ∧ (0 ≤ z ∧ z ≤ (xs (i + 1).toNat).toInt)) ∧ ς 2 = plyN ((xsel tM σ2) 2) ((xsel tM σ2) 1) (xs (i + 1).toNat).toInt.toNat ∧ z = plyD ((xsel tM σ2) 2) ((xsel tM σ2) 1) (xs (i + 1).toNat).toInt.toNat ∧ (((1 : Int) = 0 ∧ ς 7 = (xsel tM σ2) 7 ∧ ς 0 24 = (xsel tM σ2) 0 24) ∨ (¬ (1 : Int) = 0 ∧ (∀ i9 : Nat, i9 < 8 → ς 7 i9 = plyR ((xsel tM σ2) 7) ((xsel tM σ2) 2) ((xsel tM σ2) 1) (xs (i + 1).toNat).toInt.toNat i9) ∧ ((z = 0 ∧ ς 0 24 = (xsel tM σ2) 0 24) ∨ (0 < z ∧ ς 0 24 = 1)))))))))))) hC ((xCk_MV (n := 1) (τ := tM) (mX11_play l D yv) (subM w1) q_8_131 q_8_132 q_8_133 q_1_15 q_8_134 rfl rfl (by decide +kernel) (by decide) (shLw_fin w1)).up (Nat.le_of_ble_eq_true rfl)) (by show kz.1 + (13) ≤ 601024; have : 13 ≤ 15 := (by first | omega | (split <;> omega)); omega) (by show kz.2 + (331) ≤ 7293034; have : 331 ≤ 15690 := (by first | omega | (split <;> omega)); omega) dL_law_999 (xMVf (ci := 11) rfl rfl (fun Q2 hQ2 => s_playJ (σ := xsel tM σ2) i3 hG2.1.2.1.1 (by show BYx (σ2 197) (σ2 196 2); rw [i10, i4, ← hh]; exact fun i hi => (hT0.1 i hi).2) (fun r2 ς h2 fr h9 => hQ2 _ _ ⟨_, rfl, _, rfl, h2.1, h2.2.1, h2.2.2.1, h2.2.2.2.1, h2.2.2.2.2, ⟨fr, h9⟩⟩))) rfl (Nat.le_of_ble_eq_true rfl) (fun r σ3 hk => ?_)
  obtain ⟨z2, rfl, ς, rfl, j1, j2, j3, j5, j6, j9⟩ := hk
  have j4 := KPx.same hkp hw9 hw10 (j3.trans i7)
  refine xs_pop hC dL_law_1002 ?_
  refine xs_goto (tgt := 1390) hC dL_law_1003 rfl ?_
  exact hend _ w1 a2 ρ2 _ ⟨(LI.ref i1 i2 j1 (by omega) j4 (hT0.nx (i8.trans hkt.1) (i9.trans hkt.2) (j5.trans i10) (j6.trans i11) (by omega)) i5), GL.fin (hG2.play (fun k hk => (show ALx (σ 1) (σ2 197) (σ 0 1) from fun i hi => by rw [i10]; exact (hT0.1 i hi).1) k hk) (show σ 0 1 = σ2 196 2 from hh.trans i4.symm) hcr9 j9.1 j9.2) hlo⟩ (hkz.st (k1 := 13) (k2 := 331) hw13 (by decide) (by decide))
set_option maxHeartbeats 4000000 in
set_option maxRecDepth 100000 in
theorem law_25 (hL : LC p l s m meth c D yv A b Lx xs ad) (hI0 : LIG a ρ w σ b) (hkz : LKz n w kz) (hi : 0 ≤ i ∧ i + 5 < Lx) (hn : n ≤ 512) (hend : ∀ kz w a ρ σ, LIG a ρ w σ b → LKz (n + 1) w kz → XA kz p l e room_1 s m #[Value.ref b] below meth c D yv a ρ 224 (shLw w) A 8 Qm 1390 (lL i) [] σ) : XA kz p l e room_1 s m #[Value.ref b] below meth c D yv a ρ 224 (shLw w) A 8 Qm 1006 (lL i) [] σ := by
  obtain ⟨hC, hYY, hX, hbl, hbA, hstt, hLx⟩ := hL
  obtain ⟨hI, hG⟩ := hI0
  have hr := hkz.r hn
  have hLx2 : (Lx : Int) ≤ 3072 := by omega
  refine xs_aload hC (i := 1) (x := 0) dL_law_1006 rfl ?_
  refine xs_arg hC hX hbl hbA hI.2.2.2.2 rfl rfl ⟨by decide, by decide⟩ hi hLx2 dL_law_1007 dL_law_1008 dL_law_1010 dL_law_1011 dL_law_1012 ?_
  refine xs_arg hC hX hbl hbA hI.2.2.2.2 rfl rfl ⟨by decide, by decide⟩ hi hLx2 dL_law_1013 dL_law_1014 dL_law_1016 dL_law_1017 dL_law_1018 ?_
  refine vs_call (shf := shLw) (rest := []) (as' := [xvi (xs (i + 1).toNat).toInt, xvi (xs (i + 2).toNat).toInt]) (t := 0) (ci := 10) (n := 2) (K := fun r w' σ' => JW w' σ' ∧ KT σ σ' ∧ ∃ z : Int, r = some (xvi z) ∧ dealCR (σ 198) (xs (i + 1).toNat).toInt (xs (i + 2).toNat).toInt w σ z w' σ') (mgS 194 σ) (mgA 194 a) (mgR 194 ρ) (mg_ok 194 224 σ a ρ).1 (mg_ok 194 224 σ a ρ).2.1 (mg_ok 194 224 σ a ρ).2.2 hC hYY.1 (mvX10_dealF l D yv) (Nat.le_of_ble_eq_true rfl) vfamL q_5_47 q_5_48 q_5_49 q_1_1 q_5_50 rfl rfl (by decide +kernel) (by decide) (by show kz.1 + 13 ≤ 601024; omega) (by show kz.2 + 331 ≤ 7293034; omega) dL_law_1019 (sh0 _) rfl (by decide) hI.1 (lLp (by rfl)) (lLp (by rfl)) ⟨σ 198, _, _, rfl, hI.2.1, hG.1.1, hG.1.2.1.1, fun r w' σ' h1 h2 h3 => ⟨h1, h2, _, rfl, h3⟩⟩ (fun r w1 a1 ρ1 σ1 hk hLK1 hag1 => ?_)
  obtain ⟨hJ1, hkt, z, rfl, hcr⟩ := hk
  obtain ⟨hl1, hw9, hw10, hw13⟩ := hcr.lo
  have hI1 := hI.cls (N := 194) (Or.inl rfl) hLK1 hJ1
  have hG2 := hG.mg (σ1 := σ1) (N := 194) (by omega)
  have hlo : ∀ t, t < 194 → mgS 194 σ σ1 t = σ1 t := fun t ht => if_pos (by omega)
  have hhi : ∀ t, 196 ≤ t → mgS 194 σ σ1 t = σ t := fun t ht => if_neg (by omega)
  generalize mgA 194 a a1 = a2, mgR 194 ρ ρ1 = ρ2, mgS 194 σ σ1 = σ2 at hI1 hG2 hlo hhi ⊢
  obtain ⟨i1, i2, i3, i4, i5, i6, i7, i8, i9, i10, i11⟩ := hI1
  obtain ⟨hh, hkp, hT0⟩ := hI.2.2.2.1
  have hcr9 : dealCR (xsel tM σ2 2) (xs (i + 1).toNat).toInt (xs (i + 2).toNat).toInt w σ z w1 σ1 := by
    show dealCR (σ2 198) (xs (i + 1).toNat).toInt (xs (i + 2).toNat).toInt w σ z w1 σ1
    rw [hhi 198 (by decide)]; exact hcr
  have h01 : 0 ≤ σ 0 1 ∧ σ 0 1 ≤ 940 := hI.2.1.1.1
  refine xs_pop hC dL_law_1022 ?_
  refine xs_aload hC (i := 2) (x := 196) dL_law_1023 rfl ?_
  refine xs_arg hC hX hbl hbA i5 rfl rfl ⟨by decide, by decide⟩ hi hLx2 dL_law_1024 dL_law_1025 dL_law_1027 dL_law_1028 dL_law_1029 ?_
  refine xs_arg hC hX hbl hbA i5 rfl rfl ⟨by decide, by decide⟩ hi hLx2 dL_law_1030 dL_law_1031 dL_law_1033 dL_law_1034 dL_law_1035 ?_
  refine xs_ck (as := [xvr 196, xvi (xs (i + 1).toNat).toInt, xvi (xs (i + 2).toNat).toInt]) (rest := []) (K := fun r σ' => ∃ z : Int, r = some (xvi z) ∧ ∃ ς, σ' = xbk tM σ2 ς ∧ RI ς ∧ (ς 0 2 = σ2 196 2) ∧ ς 27 = σ2 223 ∧ ς 1 = σ2 197 ∧ ς 6 = σ2 202 ∧ (Fr [2, 8, 21] [0, 27, 49] (xsel tM σ2) ς ∧ (((DLc2 ((xsel tM σ2) 2) (xs (i + 1).toNat).toInt ∧ z = 1 ∧ KPT ((xsel tM σ2) 0 27) (ς 0 27) ((xsel tM σ2) 8) (ς 8) ((xsel tM σ2) 2) ∧ ς 2 = dealF ((xsel tM σ2) 2) (xs (i + 1).toNat).toInt (xs (i + 2).toNat).toInt) ∨ (¬ DLc2 ((xsel tM σ2) 2) (xs (i + 1).toNat).toInt ∧ z = 0 ∧ SAMEx (xsel tM σ2) ς))))) hC ((xCk_MV (n := 2) (τ := tM) (mX11_deal l D yv) (subM w1) q_8_143 q_8_144 q_8_145 q_1_15 q_8_146 rfl rfl (by decide +kernel) (by decide) (shLw_fin w1)).up (Nat.le_of_ble_eq_true rfl)) (by show kz.1 + (13) ≤ 601024; have : 13 ≤ 15 := (by first | omega | (split <;> omega)); omega) (by show kz.2 + (331) ≤ 7293034; have : 331 ≤ 15690 := (by first | omega | (split <;> omega)); omega) dL_law_1036 (xMVf (ci := 11) rfl rfl (fun Q2 hQ2 => s_dealJ (σ := xsel tM σ2) i3 hG2.1.2.1.1 (fun r2 ς h2 fr h9 => hQ2 _ _ ⟨_, rfl, _, rfl, h2.1, h2.2.1, h2.2.2.1, h2.2.2.2.1, h2.2.2.2.2.1, ⟨fr, h9⟩⟩))) rfl (Nat.le_of_ble_eq_true rfl) (fun r σ3 hk => ?_)
  obtain ⟨z2, rfl, ς, rfl, j1, j2, j3, j5, j6, j9⟩ := hk
  have j4 := KPx.same hkp hw9 hw10 (j3.trans i7)
  refine xs_pop hC dL_law_1039 ?_
  refine xs_goto (tgt := 1390) hC dL_law_1040 rfl ?_
  exact hend _ w1 a2 ρ2 _ ⟨(LI.ref i1 i2 j1 (by omega) j4 (hT0.nx (i8.trans hkt.1) (i9.trans hkt.2) (j5.trans i10) (j6.trans i11) (by omega)) i5), GL.fin ((hG2.deal hcr9 j9.1 j9.2).1) hlo⟩ (hkz.st (k1 := 13) (k2 := 331) hw13 (by decide) (by decide))
set_option maxHeartbeats 4000000 in
set_option maxRecDepth 100000 in
theorem law_26 (hL : LC p l s m meth c D yv A b Lx xs ad) (hI0 : LIG a ρ w σ b) (hkz : LKz n w kz) (hi : 0 ≤ i ∧ i + 5 < Lx) (hn : n ≤ 512) (hend : ∀ kz w a ρ σ, LIG a ρ w σ b → LKz (n + 1) w kz → XA kz p l e room_1 s m #[Value.ref b] below meth c D yv a ρ 224 (shLw w) A 8 Qm 1390 (lL i) [] σ) : XA kz p l e room_1 s m #[Value.ref b] below meth c D yv a ρ 224 (shLw w) A 8 Qm 1043 (lL i) [] σ := by
  obtain ⟨hC, hYY, hX, hbl, hbA, hstt, hLx⟩ := hL
  obtain ⟨hI, hG⟩ := hI0
  have hr := hkz.r hn
  have hLx2 : (Lx : Int) ≤ 3072 := by omega
  refine xs_aload hC (i := 1) (x := 0) dL_law_1043 rfl ?_
  refine xs_arg hC hX hbl hbA hI.2.2.2.2 rfl rfl ⟨by decide, by decide⟩ hi hLx2 dL_law_1044 dL_law_1045 dL_law_1047 dL_law_1048 dL_law_1049 ?_
  refine xs_arg hC hX hbl hbA hI.2.2.2.2 rfl rfl ⟨by decide, by decide⟩ hi hLx2 dL_law_1050 dL_law_1051 dL_law_1053 dL_law_1054 dL_law_1055 ?_
  refine xs_arg hC hX hbl hbA hI.2.2.2.2 rfl rfl ⟨by decide, by decide⟩ hi hLx2 dL_law_1056 dL_law_1057 dL_law_1059 dL_law_1060 dL_law_1061 ?_
  refine xs_arg hC hX hbl hbA hI.2.2.2.2 rfl rfl ⟨by decide, by decide⟩ hi hLx2 dL_law_1062 dL_law_1063 dL_law_1065 dL_law_1066 dL_law_1067 ?_
  refine vs_call (shf := shLw) (rest := []) (as' := [xvi (xs (i + 1).toNat).toInt, xvi (xs (i + 2).toNat).toInt, xvi (xs (i + 3).toNat).toInt, xvi (xs (i + 4).toNat).toInt]) (t := 0) (ci := 10) (n := 4) (K := fun r w' σ' => JW w' σ' ∧ RsK [xvr 0, xvi (xs (i + 1).toNat).toInt, xvi (xs (i + 2).toNat).toInt, xvi (xs (i + 3).toNat).toInt, xvi (xs (i + 4).toNat).toInt] σ w r w' σ') (mgS 194 σ) (mgA 194 a) (mgR 194 ρ) (mg_ok 194 224 σ a ρ).1 (mg_ok 194 224 σ a ρ).2.1 (mg_ok 194 224 σ a ρ).2.2 hC hYY.1 (mvX10_gamesK l D yv) (Nat.le_of_ble_eq_true rfl) vfamL q_5_61 q_5_62 q_5_63 q_1_1 q_5_64 rfl rfl (by decide +kernel) (by decide) (by show kz.1 + 0 ≤ 601024; omega) (by show kz.2 + 0 ≤ 7293034; omega) dL_law_1068 (sh0 _) rfl (by decide) hI.1 (lLp (by rfl)) (lLp (by rfl)) ⟨hI.2.1, ⟨_, _, _, _, rfl⟩, fun r w' σ' h1 h2 => ⟨h1, h2⟩⟩ (fun r w1 a1 ρ1 σ1 hk hLK1 hag1 => ?_)
  obtain ⟨hJ1, hR1⟩ := hk
  obtain ⟨⟨z, rfl⟩, hl1, hw9, ⟨hw10, hw13, hkt⟩, hst⟩ := hR1
  have hI1 := hI.cls (N := 194) (Or.inl rfl) hLK1 hJ1
  have hG2 := hG.mg (σ1 := σ1) (N := 194) (by omega)
  have hlo : ∀ t, t < 194 → mgS 194 σ σ1 t = σ1 t := fun t ht => if_pos (by omega)
  generalize mgA 194 a a1 = a2, mgR 194 ρ ρ1 = ρ2, mgS 194 σ σ1 = σ2 at hI1 hG2 hlo ⊢
  obtain ⟨i1, i2, i3, i4, i5, i6, i7, i8, i9, i10, i11⟩ := hI1
  obtain ⟨hh, hkp, hT0⟩ := hI.2.2.2.1
  have h01 : 0 ≤ σ 0 1 ∧ σ 0 1 ≤ 940 := hI.2.1.1.1
  refine xs_pop hC dL_law_1071 ?_
  refine xs_aload hC (i := 2) (x := 196) dL_law_1072 rfl ?_
  refine xs_arg hC hX hbl hbA i5 rfl rfl ⟨by decide, by decide⟩ hi hLx2 dL_law_1073 dL_law_1074 dL_law_1076 dL_law_1077 dL_law_1078 ?_
  refine xs_arg hC hX hbl hbA i5 rfl rfl ⟨by decide, by decide⟩ hi hLx2 dL_law_1079 dL_law_1080 dL_law_1082 dL_law_1083 dL_law_1084 ?_
  refine xs_arg hC hX hbl hbA i5 rfl rfl ⟨by decide, by decide⟩ hi hLx2 dL_law_1085 dL_law_1086 dL_law_1088 dL_law_1089 dL_law_1090 ?_
  refine xs_arg hC hX hbl hbA i5 rfl rfl ⟨by decide, by decide⟩ hi hLx2 dL_law_1091 dL_law_1092 dL_law_1094 dL_law_1095 dL_law_1096 ?_
  refine xs_ck (as := [xvr 196, xvi (xs (i + 1).toNat).toInt, xvi (xs (i + 2).toNat).toInt, xvi (xs (i + 3).toNat).toInt, xvi (xs (i + 4).toNat).toInt]) (rest := []) (K := fun r σ' => ∃ z : Int, r = some (xvi z) ∧ ∃ ς, σ' = xbk tM σ2 ς ∧ RI ς ∧ (ς 0 2 = σ2 196 2) ∧ ς 27 = σ2 223 ∧ ς 1 = σ2 197 ∧ ς 6 = σ2 202 ∧ (Fr [2, 7, 9, 20, 21] [0, 24, 49, 51] (xsel tM σ2) ς ∧ SAMEx (xsel tM σ2) ς)) hC ((xCk_MV (n := 4) (τ := tM) (mX11_games l D yv) (subM w1) q_8_156 q_8_157 q_8_158 q_1_15 q_8_159 rfl rfl (by decide +kernel) (by decide) (shLw_fin w1)).up (Nat.le_of_ble_eq_true rfl)) (by show kz.1 + (0) ≤ 601024; have : 0 ≤ 15 := (by first | omega | (split <;> omega)); omega) (by show kz.2 + (0) ≤ 7293034; have : 0 ≤ 15690 := (by first | omega | (split <;> omega)); omega) dL_law_1097 (xMVf (ci := 11) rfl rfl (fun Q2 hQ2 => s_gamesJ (σ := xsel tM σ2) i3 hG2.1.2.1.1 (fun r2 ς h2 fr h9 => hQ2 _ _ ⟨_, rfl, _, rfl, h2.1, h2.2.1, h2.2.2.1, h2.2.2.2.1, h2.2.2.2.2.1, ⟨fr, h9.elim (fun h => h.2.2) (fun h => h.2.2)⟩⟩))) rfl (Nat.le_of_ble_eq_true rfl) (fun r σ3 hk => ?_)
  obtain ⟨z2, rfl, ς, rfl, j1, j2, j3, j5, j6, j9⟩ := hk
  have j4 := KPx.same hkp hw9 hw10 (j3.trans i7)
  refine xs_pop hC dL_law_1100 ?_
  refine xs_goto (tgt := 1390) hC dL_law_1101 rfl ?_
  exact hend _ w1 a2 ρ2 _ ⟨(LI.ref i1 i2 j1 (by omega) j4 (hT0.nx (i8.trans hkt.1) (i9.trans hkt.2) (j5.trans i10) (j6.trans i11) (by omega)) i5), GL.fin ((hG2.cls hst).sm j9.2 (j9.1.1 5 (by decide) (by decide)) (j9.1.1 25 (by decide) (by decide)) (j9.1.1 26 (by decide) (by decide)) (j9.1.1 27 (by decide) (by decide))) hlo⟩ (hkz.st (k1 := 0) (k2 := 0) hw13 (by decide) (by decide))
set_option maxHeartbeats 4000000 in
set_option maxRecDepth 100000 in
theorem law_27 (hL : LC p l s m meth c D yv A b Lx xs ad) (hI0 : LIG a ρ w σ b) (hkz : LKz n w kz) (hi : 0 ≤ i ∧ i + 5 < Lx) (hn : n ≤ 512) (hend : ∀ kz w a ρ σ, LIG a ρ w σ b → LKz (n + 1) w kz → XA kz p l e room_1 s m #[Value.ref b] below meth c D yv a ρ 224 (shLw w) A 8 Qm 1390 (lL i) [] σ) : XA kz p l e room_1 s m #[Value.ref b] below meth c D yv a ρ 224 (shLw w) A 8 Qm 1104 (lL i) [] σ := by
  obtain ⟨hC, hYY, hX, hbl, hbA, hstt, hLx⟩ := hL
  obtain ⟨hI, hG⟩ := hI0
  have hr := hkz.r hn
  have hLx2 : (Lx : Int) ≤ 3072 := by omega
  refine xs_aload hC (i := 1) (x := 0) dL_law_1104 rfl ?_
  refine xs_arg hC hX hbl hbA hI.2.2.2.2 rfl rfl ⟨by decide, by decide⟩ hi hLx2 dL_law_1105 dL_law_1106 dL_law_1108 dL_law_1109 dL_law_1110 ?_
  refine xs_arg hC hX hbl hbA hI.2.2.2.2 rfl rfl ⟨by decide, by decide⟩ hi hLx2 dL_law_1111 dL_law_1112 dL_law_1114 dL_law_1115 dL_law_1116 ?_
  refine xs_arg hC hX hbl hbA hI.2.2.2.2 rfl rfl ⟨by decide, by decide⟩ hi hLx2 dL_law_1117 dL_law_1118 dL_law_1120 dL_law_1121 dL_law_1122 ?_
  refine xs_arg hC hX hbl hbA hI.2.2.2.2 rfl rfl ⟨by decide, by decide⟩ hi hLx2 dL_law_1123 dL_law_1124 dL_law_1126 dL_law_1127 dL_law_1128 ?_
  refine vs_call (shf := shLw) (rest := []) (as' := [xvi (xs (i + 1).toNat).toInt, xvi (xs (i + 2).toNat).toInt, xvi (xs (i + 3).toNat).toInt, xvi (xs (i + 4).toNat).toInt]) (t := 0) (ci := 10) (n := 4) (K := fun r w' σ' => JW w' σ' ∧ RsK [xvr 0, xvi (xs (i + 1).toNat).toInt, xvi (xs (i + 2).toNat).toInt, xvi (xs (i + 3).toNat).toInt, xvi (xs (i + 4).toNat).toInt] σ w r w' σ') (mgS 194 σ) (mgA 194 a) (mgR 194 ρ) (mg_ok 194 224 σ a ρ).1 (mg_ok 194 224 σ a ρ).2.1 (mg_ok 194 224 σ a ρ).2.2 hC hYY.1 (mvX10_lengthK l D yv) (Nat.le_of_ble_eq_true rfl) vfamL q_5_77 q_5_78 q_5_79 q_1_1 q_5_80 rfl rfl (by decide +kernel) (by decide) (by show kz.1 + 0 ≤ 601024; omega) (by show kz.2 + 0 ≤ 7293034; omega) dL_law_1129 (sh0 _) rfl (by decide) hI.1 (lLp (by rfl)) (lLp (by rfl)) ⟨hI.2.1, ⟨_, _, _, _, rfl⟩, fun r w' σ' h1 h2 => ⟨h1, h2⟩⟩ (fun r w1 a1 ρ1 σ1 hk hLK1 hag1 => ?_)
  obtain ⟨hJ1, hR1⟩ := hk
  obtain ⟨⟨z, rfl⟩, hl1, hw9, ⟨hw10, hw13, hkt⟩, hst⟩ := hR1
  have hI1 := hI.cls (N := 194) (Or.inl rfl) hLK1 hJ1
  have hG2 := hG.mg (σ1 := σ1) (N := 194) (by omega)
  have hlo : ∀ t, t < 194 → mgS 194 σ σ1 t = σ1 t := fun t ht => if_pos (by omega)
  generalize mgA 194 a a1 = a2, mgR 194 ρ ρ1 = ρ2, mgS 194 σ σ1 = σ2 at hI1 hG2 hlo ⊢
  obtain ⟨i1, i2, i3, i4, i5, i6, i7, i8, i9, i10, i11⟩ := hI1
  obtain ⟨hh, hkp, hT0⟩ := hI.2.2.2.1
  have h01 : 0 ≤ σ 0 1 ∧ σ 0 1 ≤ 940 := hI.2.1.1.1
  refine xs_pop hC dL_law_1132 ?_
  refine xs_aload hC (i := 2) (x := 196) dL_law_1133 rfl ?_
  refine xs_arg hC hX hbl hbA i5 rfl rfl ⟨by decide, by decide⟩ hi hLx2 dL_law_1134 dL_law_1135 dL_law_1137 dL_law_1138 dL_law_1139 ?_
  refine xs_arg hC hX hbl hbA i5 rfl rfl ⟨by decide, by decide⟩ hi hLx2 dL_law_1140 dL_law_1141 dL_law_1143 dL_law_1144 dL_law_1145 ?_
  refine xs_arg hC hX hbl hbA i5 rfl rfl ⟨by decide, by decide⟩ hi hLx2 dL_law_1146 dL_law_1147 dL_law_1149 dL_law_1150 dL_law_1151 ?_
  refine xs_arg hC hX hbl hbA i5 rfl rfl ⟨by decide, by decide⟩ hi hLx2 dL_law_1152 dL_law_1153 dL_law_1155 dL_law_1156 dL_law_1157 ?_
  refine xs_ck (as := [xvr 196, xvi (xs (i + 1).toNat).toInt, xvi (xs (i + 2).toNat).toInt, xvi (xs (i + 3).toNat).toInt, xvi (xs (i + 4).toNat).toInt]) (rest := []) (K := fun r σ' => ∃ z : Int, r = some (xvi z) ∧ ∃ ς, σ' = xbk tM σ2 ς ∧ RI ς ∧ (ς 0 2 = σ2 196 2) ∧ ς 27 = σ2 223 ∧ ς 1 = σ2 197 ∧ ς 6 = σ2 202 ∧ (Fr [2, 7, 9, 20, 21] [0, 24, 49, 51] (xsel tM σ2) ς ∧ SAMEx (xsel tM σ2) ς)) hC ((xCk_MV (n := 4) (τ := tM) (mX11_length l D yv) (subM w1) q_8_176 q_8_177 q_8_178 q_1_15 q_8_179 rfl rfl (by decide +kernel) (by decide) (shLw_fin w1)).up (Nat.le_of_ble_eq_true rfl)) (by show kz.1 + (0) ≤ 601024; have : 0 ≤ 15 := (by first | omega | (split <;> omega)); omega) (by show kz.2 + (0) ≤ 7293034; have : 0 ≤ 15690 := (by first | omega | (split <;> omega)); omega) dL_law_1158 (xMVf (ci := 11) rfl rfl (fun Q2 hQ2 => s_lengthJ (σ := xsel tM σ2) i3 hG2.1.2.1.1 (fun r2 ς h2 fr h9 => hQ2 _ _ ⟨_, rfl, _, rfl, h2.1, h2.2.1, h2.2.2.1, h2.2.2.2.1, h2.2.2.2.2.1, ⟨fr, h9.elim (fun h => h.2.2) (fun h => h.2.2)⟩⟩))) rfl (Nat.le_of_ble_eq_true rfl) (fun r σ3 hk => ?_)
  obtain ⟨z2, rfl, ς, rfl, j1, j2, j3, j5, j6, j9⟩ := hk
  have j4 := KPx.same hkp hw9 hw10 (j3.trans i7)
  refine xs_pop hC dL_law_1161 ?_
  refine xs_goto (tgt := 1390) hC dL_law_1162 rfl ?_
  exact hend _ w1 a2 ρ2 _ ⟨(LI.ref i1 i2 j1 (by omega) j4 (hT0.nx (i8.trans hkt.1) (i9.trans hkt.2) (j5.trans i10) (j6.trans i11) (by omega)) i5), GL.fin ((hG2.cls hst).sm j9.2 (j9.1.1 5 (by decide) (by decide)) (j9.1.1 25 (by decide) (by decide)) (j9.1.1 26 (by decide) (by decide)) (j9.1.1 27 (by decide) (by decide))) hlo⟩ (hkz.st (k1 := 0) (k2 := 0) hw13 (by decide) (by decide))
end XP
