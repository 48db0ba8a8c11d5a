theorem q_5_81 : Cond.methodLink RL 148 yX10_reply ∈ gw := gw_5 81 (by decide +kernel) rfl
theorem q_5_82 : Cond.instanceMethod yX10_reply ∈ gw := gw_5 82 (by decide +kernel) rfl
theorem q_5_83 : Cond.selects RX10 yX10_reply yX10_reply ∈ gw := gw_5 83 (by decide +kernel) rfl
theorem q_5_84 : Cond.code yX10_reply cX10_reply 8 (some .int) ∈ gw := gw_5 84 (by decide +kernel) rfl
theorem q_5_85 : Cond.methodLink RL 152 yX10_leader ∈ gw := gw_5 85 (by decide +kernel) rfl
theorem q_5_86 : Cond.instanceMethod yX10_leader ∈ gw := gw_5 86 (by decide +kernel) rfl
theorem q_5_87 : Cond.selects RX10 yX10_leader yX10_leader ∈ gw := gw_5 87 (by decide +kernel) rfl
theorem q_5_88 : Cond.code yX10_leader cX10_leader 5 (some .int) ∈ gw := gw_5 88 (by decide +kernel) rfl
theorem q_5_89 : Cond.methodLink RL 156 yX10_evening ∈ gw := gw_5 89 (by decide +kernel) rfl
theorem q_5_90 : Cond.instanceMethod yX10_evening ∈ gw := gw_5 90 (by decide +kernel) rfl
theorem q_5_91 : Cond.selects RX10 yX10_evening yX10_evening ∈ gw := gw_5 91 (by decide +kernel) rfl
theorem q_5_92 : Cond.code yX10_evening cX10_evening 4 (some .int) ∈ gw := gw_5 92 (by decide +kernel) rfl
theorem q_5_134 : Cond.methodLink RL 160 yX10_heard ∈ gw := gw_5 134 (by decide +kernel) rfl
theorem q_5_135 : Cond.instanceMethod yX10_heard ∈ gw := gw_5 135 (by decide +kernel) rfl
theorem q_5_136 : Cond.selects RX10 yX10_heard yX10_heard ∈ gw := gw_5 136 (by decide +kernel) rfl
theorem q_5_137 : Cond.code yX10_heard cX10_heard 2 (some .int) ∈ gw := gw_5 137 (by decide +kernel) rfl
theorem q_5_138 : Cond.methodLink RL 164 yX10_sentence ∈ gw := gw_5 138 (by decide +kernel) rfl
theorem q_5_139 : Cond.instanceMethod yX10_sentence ∈ gw := gw_5 139 (by decide +kernel) rfl
theorem q_5_140 : Cond.selects RX10 yX10_sentence yX10_sentence ∈ gw := gw_5 140 (by decide +kernel) rfl
theorem q_5_141 : Cond.code yX10_sentence cX10_sentence 2 (some .int) ∈ gw := gw_5 141 (by decide +kernel) rfl
theorem q_5_187 : Cond.methodLink RL 168 yX10_said ∈ gw := gw_5 187 (by decide +kernel) rfl
theorem q_5_188 : Cond.instanceMethod yX10_said ∈ gw := gw_5 188 (by decide +kernel) rfl
theorem q_5_189 : Cond.selects RX10 yX10_said yX10_said ∈ gw := gw_5 189 (by decide +kernel) rfl
theorem q_5_190 : Cond.code yX10_said cX10_said 4 (some .int) ∈ gw := gw_5 190 (by decide +kernel) rfl
theorem q_5_213 : Cond.methodLink RL 172 yX10_image ∈ gw := gw_5 213 (by decide +kernel) rfl
theorem q_5_214 : Cond.instanceMethod yX10_image ∈ gw := gw_5 214 (by decide +kernel) rfl
theorem q_5_215 : Cond.selects RX10 yX10_image yX10_image ∈ gw := gw_5 215 (by decide +kernel) rfl
theorem q_5_216 : Cond.code yX10_image cX10_image 2 (some .boolean) ∈ gw := gw_5 216 (by decide +kernel) rfl
theorem q_5_217 : Cond.methodLink RL 176 yX10_restore ∈ gw := gw_5 217 (by decide +kernel) rfl
theorem q_5_218 : Cond.instanceMethod yX10_restore ∈ gw := gw_5 218 (by decide +kernel) rfl
theorem q_5_219 : Cond.selects RX10 yX10_restore yX10_restore ∈ gw := gw_5 219 (by decide +kernel) rfl
theorem q_5_220 : Cond.code yX10_restore cX10_restore 2 (some .boolean) ∈ gw := gw_5 220 (by decide +kernel) rfl
theorem q_5_221 : Cond.methodLink RL 180 yX10_count ∈ gw := gw_5 221 (by decide +kernel) rfl
theorem q_5_222 : Cond.instanceMethod yX10_count ∈ gw := gw_5 222 (by decide +kernel) rfl
theorem q_5_223 : Cond.selects RX10 yX10_count yX10_count ∈ gw := gw_5 223 (by decide +kernel) rfl
theorem q_5_224 : Cond.code yX10_count cX10_count 2 (some .int) ∈ gw := gw_5 224 (by decide +kernel) rfl
theorem q_8_180 : Cond.methodLink RL 151 yX11_reply ∈ gw := gw_8 180 (by decide +kernel) rfl
theorem q_8_181 : Cond.instanceMethod yX11_reply ∈ gw := gw_8 181 (by decide +kernel) rfl
theorem q_8_182 : Cond.selects RX11 yX11_reply yX11_reply ∈ gw := gw_8 182 (by decide +kernel) rfl
theorem q_8_183 : Cond.code yX11_reply cX11_reply 8 (some .int) ∈ gw := gw_8 183 (by decide +kernel) rfl
theorem q_8_184 : Cond.methodLink RL 155 yX11_leader ∈ gw := gw_8 184 (by decide +kernel) rfl
theorem q_8_185 : Cond.instanceMethod yX11_leader ∈ gw := gw_8 185 (by decide +kernel) rfl
theorem q_8_186 : Cond.selects RX11 yX11_leader yX11_leader ∈ gw := gw_8 186 (by decide +kernel) rfl
theorem q_8_187 : Cond.code yX11_leader cX11_leader 3 (some .int) ∈ gw := gw_8 187 (by decide +kernel) rfl
theorem q_8_188 : Cond.methodLink RL 159 yX11_evening ∈ gw := gw_8 188 (by decide +kernel) rfl
theorem q_8_189 : Cond.instanceMethod yX11_evening ∈ gw := gw_8 189 (by decide +kernel) rfl
theorem q_8_190 : Cond.selects RX11 yX11_evening yX11_evening ∈ gw := gw_8 190 (by decide +kernel) rfl
theorem q_8_191 : Cond.code yX11_evening cX11_evening 6 (some .int) ∈ gw := gw_8 191 (by decide +kernel) rfl
theorem q_8_196 : Cond.methodLink RL 163 yX11_heard ∈ gw := gw_8 196 (by decide +kernel) rfl
theorem q_8_197 : Cond.instanceMethod yX11_heard ∈ gw := gw_8 197 (by decide +kernel) rfl
theorem q_8_198 : Cond.selects RX11 yX11_heard yX11_heard ∈ gw := gw_8 198 (by decide +kernel) rfl
theorem q_8_199 : Cond.code yX11_heard cX11_heard 2 (some .int) ∈ gw := gw_8 199 (by decide +kernel) rfl
theorem q_8_200 : Cond.methodLink RL 167 yX11_sentence ∈ gw := gw_8 200 (by decide +kernel) rfl
theorem q_8_201 : Cond.instanceMethod yX11_sentence ∈ gw := gw_8 201 (by decide +kernel) rfl
theorem q_8_202 : Cond.selects RX11 yX11_sentence yX11_sentence ∈ gw := gw_8 202 (by decide +kernel) rfl
theorem q_8_203 : Cond.code yX11_sentence cX11_sentence 3 (some .int) ∈ gw := gw_8 203 (by decide +kernel) rfl
theorem q_8_228 : Cond.methodLink RL 171 yX11_said ∈ gw := gw_8 228 (by decide +kernel) rfl
theorem q_8_229 : Cond.instanceMethod yX11_said ∈ gw := gw_8 229 (by decide +kernel) rfl
theorem q_8_230 : Cond.selects RX11 yX11_said yX11_said ∈ gw := gw_8 230 (by decide +kernel) rfl
theorem q_8_231 : Cond.code yX11_said cX11_said 4 (some .int) ∈ gw := gw_8 231 (by decide +kernel) rfl
theorem q_9_0 : Cond.methodLink RL 175 yX11_image ∈ gw := gw_9 0 (by decide +kernel) rfl
theorem q_9_1 : Cond.instanceMethod yX11_image ∈ gw := gw_9 1 (by decide +kernel) rfl
theorem q_9_2 : Cond.selects RX11 yX11_image yX11_image ∈ gw := gw_9 2 (by decide +kernel) rfl
theorem q_9_3 : Cond.code yX11_image cX11_image 3 (some .boolean) ∈ gw := gw_9 3 (by decide +kernel) rfl
theorem q_9_4 : Cond.methodLink RL 179 yX11_restore ∈ gw := gw_9 4 (by decide +kernel) rfl
theorem q_9_5 : Cond.instanceMethod yX11_restore ∈ gw := gw_9 5 (by decide +kernel) rfl
theorem q_9_6 : Cond.selects RX11 yX11_restore yX11_restore ∈ gw := gw_9 6 (by decide +kernel) rfl
theorem q_9_7 : Cond.code yX11_restore cX11_restore 3 (some .boolean) ∈ gw := gw_9 7 (by decide +kernel) rfl
theorem q_9_8 : Cond.methodLink RL 183 yX11_count ∈ gw := gw_9 8 (by decide +kernel) rfl
theorem q_9_9 : Cond.instanceMethod yX11_count ∈ gw := gw_9 9 (by decide +kernel) rfl
theorem q_9_10 : Cond.selects RX11 yX11_count yX11_count ∈ gw := gw_9 10 (by decide +kernel) rfl
theorem q_9_11 : Cond.code yX11_count cX11_count 2 (some .int) ∈ gw := gw_9 11 (by decide +kernel) rfl
section XP
variable {p : Program} {l : Launch} {e : Env} {s : State} {m : MethodId} {below : List Frame} {meth : Method} {c : Code}
variable {D : va_G} {yv : Nat → ClassId} {a : Nat → Nat} {ρ : Nat → Nat → Option Nat} {A : Nat → Prop} {kz : Nat × Nat} {Qm : State → Prop} {σ : xS} {w : Nat → Bool} {b Lx n : Nat} {xs : Nat → Int32} {ad : Nat → Nat} {i : Int}
set_option maxHeartbeats 4000000 in
set_option maxRecDepth 100000 in
theorem law_28 (hL : LC p l s m meth c D yv A b Lx xs ad) (hI0 : LIG a ρ w σ b) (hkz : LKz n w kz) (hi : 0 ≤ i ∧ i + 5 < Lx) (hn : n ≤ 512) (hend : ∀ kz w a ρ σ, LIG a ρ w σ b → LKz (n + 1) w kz → XA kz p l e room_1 s m #[Value.ref b] below meth c D yv a ρ 224 (shLw w) A 8 Qm 1390 (lL i) [] σ) : XA kz p l e room_1 s m #[Value.ref b] below meth c D yv a ρ 224 (shLw w) A 8 Qm 1165 (lL i) [] σ := by
  obtain ⟨hC, hYY, hX, hbl, hbA, hstt, hLx⟩ := hL
  obtain ⟨hI, hG⟩ := hI0
  have hr := hkz.r hn
  have hLx2 : (Lx : Int) ≤ 3072 := by omega
  refine xs_aload hC (i := 1) (x := 0) dL_law_1165 rfl ?_
  refine xs_arg hC hX hbl hbA hI.2.2.2.2 rfl rfl ⟨by decide, by decide⟩ hi hLx2 dL_law_1166 dL_law_1167 dL_law_1169 dL_law_1170 dL_law_1171 ?_
  refine xs_arg hC hX hbl hbA hI.2.2.2.2 rfl rfl ⟨by decide, by decide⟩ hi hLx2 dL_law_1172 dL_law_1173 dL_law_1175 dL_law_1176 dL_law_1177 ?_
  refine xs_arg hC hX hbl hbA hI.2.2.2.2 rfl rfl ⟨by decide, by decide⟩ hi hLx2 dL_law_1178 dL_law_1179 dL_law_1181 dL_law_1182 dL_law_1183 ?_
  refine vs_call (shf := shLw) (rest := []) (as' := [xvi (xs (i + 1).toNat).toInt, xvi (xs (i + 2).toNat).toInt, xvi (xs (i + 3).toNat).toInt]) (t := 0) (ci := 10) (n := 3) (K := fun r w' σ' => JW w' σ' ∧ RsK [xvr 0, xvi (xs (i + 1).toNat).toInt, xvi (xs (i + 2).toNat).toInt, xvi (xs (i + 3).toNat).toInt] σ w r w' σ') (mgS 194 σ) (mgA 194 a) (mgR 194 ρ) (mg_ok 194 224 σ a ρ).1 (mg_ok 194 224 σ a ρ).2.1 (mg_ok 194 224 σ a ρ).2.2 hC hYY.1 (mvX10_replyK l D yv) (Nat.le_of_ble_eq_true rfl) vfamL q_5_81 q_5_82 q_5_83 q_1_1 q_5_84 rfl rfl (by decide +kernel) (by decide) (by show kz.1 + 0 ≤ 601024; omega) (by show kz.2 + 0 ≤ 7293034; omega) dL_law_1184 (sh0 _) rfl (by decide) hI.1 (lLp (by rfl)) (lLp (by rfl)) ⟨hI.2.1, ⟨_, _, _, rfl⟩, fun r w' σ' h1 h2 => ⟨h1, h2⟩⟩ (fun r w1 a1 ρ1 σ1 hk hLK1 hag1 => ?_)
  obtain ⟨hJ1, hR1⟩ := hk
  obtain ⟨⟨z, rfl⟩, hl1, hw9, ⟨hw10, hw13, hkt⟩, hst⟩ := hR1
  have hI1 := hI.cls (N := 194) (Or.inl rfl) hLK1 hJ1
  have hG2 := hG.mg (σ1 := σ1) (N := 194) (by omega)
  have hlo : ∀ t, t < 194 → mgS 194 σ σ1 t = σ1 t := fun t ht => if_pos (by omega)
  generalize mgA 194 a a1 = a2, mgR 194 ρ ρ1 = ρ2, mgS 194 σ σ1 = σ2 at hI1 hG2 hlo ⊢
  obtain ⟨i1, i2, i3, i4, i5, i6, i7, i8, i9, i10, i11⟩ := hI1
  obtain ⟨hh, hkp, hT0⟩ := hI.2.2.2.1
  have h01 : 0 ≤ σ 0 1 ∧ σ 0 1 ≤ 940 := hI.2.1.1.1
  refine xs_pop hC dL_law_1187 ?_
  refine xs_aload hC (i := 2) (x := 196) dL_law_1188 rfl ?_
  refine xs_arg hC hX hbl hbA i5 rfl rfl ⟨by decide, by decide⟩ hi hLx2 dL_law_1189 dL_law_1190 dL_law_1192 dL_law_1193 dL_law_1194 ?_
  refine xs_arg hC hX hbl hbA i5 rfl rfl ⟨by decide, by decide⟩ hi hLx2 dL_law_1195 dL_law_1196 dL_law_1198 dL_law_1199 dL_law_1200 ?_
  refine xs_arg hC hX hbl hbA i5 rfl rfl ⟨by decide, by decide⟩ hi hLx2 dL_law_1201 dL_law_1202 dL_law_1204 dL_law_1205 dL_law_1206 ?_
  refine xs_ck (as := [xvr 196, xvi (xs (i + 1).toNat).toInt, xvi (xs (i + 2).toNat).toInt, xvi (xs (i + 3).toNat).toInt]) (rest := []) (K := fun r σ' => ∃ z : Int, r = some (xvi z) ∧ ∃ ς, σ' = xbk tM σ2 ς ∧ RI ς ∧ (ς 0 2 = σ2 196 2) ∧ ς 27 = σ2 223 ∧ ς 1 = σ2 197 ∧ ς 6 = σ2 202 ∧ (Fr [2, 7, 9, 20, 21] [0, 24, 49, 51] (xsel tM σ2) ς ∧ SAMEx (xsel tM σ2) ς)) hC ((xCk_MV (n := 3) (τ := tM) (mX11_reply l D yv) (subM w1) q_8_180 q_8_181 q_8_182 q_1_15 q_8_183 rfl rfl (by decide +kernel) (by decide) (shLw_fin w1)).up (Nat.le_of_ble_eq_true rfl)) (by show kz.1 + (0) ≤ 601024; have : 0 ≤ 15 := (by first | omega | (split <;> omega)); omega) (by show kz.2 + (0) ≤ 7293034; have : 0 ≤ 15690 := (by first | omega | (split <;> omega)); omega) dL_law_1207 (xMVf (ci := 11) rfl rfl (fun Q2 hQ2 => s_replyJ (σ := xsel tM σ2) i3 hG2.1.2.1.1 (fun r2 ς h2 fr h9 => hQ2 _ _ ⟨_, rfl, _, rfl, h2.1, h2.2.1, h2.2.2.1, h2.2.2.2.1, h2.2.2.2.2.1, ⟨fr, h9.elim (fun h => h.2.2) (fun h => h.2.2)⟩⟩))) rfl (Nat.le_of_ble_eq_true rfl) (fun r σ3 hk => ?_)
  obtain ⟨z2, rfl, ς, rfl, j1, j2, j3, j5, j6, j9⟩ := hk
  have j4 := KPx.same hkp hw9 hw10 (j3.trans i7)
  refine xs_pop hC dL_law_1210 ?_
  refine xs_goto (tgt := 1390) hC dL_law_1211 rfl ?_
  exact hend _ w1 a2 ρ2 _ ⟨(LI.ref i1 i2 j1 (by omega) j4 (hT0.nx (i8.trans hkt.1) (i9.trans hkt.2) (j5.trans i10) (j6.trans i11) (by omega)) i5), GL.fin ((hG2.cls hst).sm j9.2 (j9.1.1 5 (by decide) (by decide)) (j9.1.1 25 (by decide) (by decide)) (j9.1.1 26 (by decide) (by decide)) (j9.1.1 27 (by decide) (by decide))) hlo⟩ (hkz.st (k1 := 0) (k2 := 0) hw13 (by decide) (by decide))
set_option maxHeartbeats 4000000 in
set_option maxRecDepth 100000 in
theorem law_29 (hL : LC p l s m meth c D yv A b Lx xs ad) (hI0 : LIG a ρ w σ b) (hkz : LKz n w kz) (hi : 0 ≤ i ∧ i + 5 < Lx) (hn : n ≤ 512) (hend : ∀ kz w a ρ σ, LIG a ρ w σ b → LKz (n + 1) w kz → XA kz p l e room_1 s m #[Value.ref b] below meth c D yv a ρ 224 (shLw w) A 8 Qm 1390 (lL i) [] σ) : XA kz p l e room_1 s m #[Value.ref b] below meth c D yv a ρ 224 (shLw w) A 8 Qm 1214 (lL i) [] σ := by
  obtain ⟨hC, hYY, hX, hbl, hbA, hstt, hLx⟩ := hL
  obtain ⟨hI, hG⟩ := hI0
  have hr := hkz.r hn
  have hLx2 : (Lx : Int) ≤ 3072 := by omega
  refine xs_aload hC (i := 1) (x := 0) dL_law_1214 rfl ?_
  refine vs_call (shf := shLw) (rest := []) (as' := []) (t := 0) (ci := 10) (n := 0) (K := fun r w' σ' => JW w' σ' ∧ RsK [xvr 0] σ w r w' σ') (mgS 194 σ) (mgA 194 a) (mgR 194 ρ) (mg_ok 194 224 σ a ρ).1 (mg_ok 194 224 σ a ρ).2.1 (mg_ok 194 224 σ a ρ).2.2 hC hYY.1 (mvX10_leaderK l D yv) (Nat.le_of_ble_eq_true rfl) vfamL q_5_85 q_5_86 q_5_87 q_1_1 q_5_88 rfl rfl (by decide +kernel) (by decide) (by show kz.1 + 0 ≤ 601024; omega) (by show kz.2 + 0 ≤ 7293034; omega) dL_law_1215 (sh0 _) rfl (by decide) hI.1 (lLp (by rfl)) (lLp (by rfl)) ⟨hI.2.1, rfl, fun r w' σ' h1 h2 => ⟨h1, h2⟩⟩ (fun r w1 a1 ρ1 σ1 hk hLK1 hag1 => ?_)
  obtain ⟨hJ1, hR1⟩ := hk
  obtain ⟨⟨z, rfl⟩, hl1, hw9, ⟨hw10, hw13, hkt⟩, hst⟩ := hR1
  have hI1 := hI.cls (N := 194) (Or.inl rfl) hLK1 hJ1
  have hG2 := hG.mg (σ1 := σ1) (N := 194) (by omega)
  have hlo : ∀ t, t < 194 → mgS 194 σ σ1 t = σ1 t := fun t ht => if_pos (by omega)
  generalize mgA 194 a a1 = a2, mgR 194 ρ ρ1 = ρ2, mgS 194 σ σ1 = σ2 at hI1 hG2 hlo ⊢
  obtain ⟨i1, i2, i3, i4, i5, i6, i7, i8, i9, i10, i11⟩ := hI1
  obtain ⟨hh, hkp, hT0⟩ := hI.2.2.2.1
  have h01 : 0 ≤ σ 0 1 ∧ σ 0 1 ≤ 940 := hI.2.1.1.1
  refine xs_pop hC dL_law_1218 ?_
  refine xs_aload hC (i := 2) (x := 196) dL_law_1219 rfl ?_
  refine xs_ck (as := [xvr 196]) (rest := []) (K := fun r σ' => ∃ z : Int, r = some (xvi z) ∧ ∃ ς, σ' = xbk tM σ2 ς ∧ RI ς ∧ (ς 0 2 = σ2 196 2) ∧ ς 27 = σ2 223 ∧ ς 1 = σ2 197 ∧ ς 6 = σ2 202 ∧ Fr [] [0] (xsel tM σ2) ς) hC ((xCk_MV (n := 0) (τ := tM) (mX11_leader l D yv) (subM w1) q_8_184 q_8_185 q_8_186 q_1_15 q_8_187 rfl rfl (by decide +kernel) (by decide) (shLw_fin w1)).up (Nat.le_of_ble_eq_true rfl)) (by show kz.1 + (0) ≤ 601024; have : 0 ≤ 15 := (by first | omega | (split <;> omega)); omega) (by show kz.2 + (0) ≤ 7293034; have : 0 ≤ 15690 := (by first | omega | (split <;> omega)); omega) dL_law_1220 (xMVf (ci := 11) rfl rfl (fun Q2 hQ2 => s_leaderJ (σ := xsel tM σ2) i3 hG2.1.2.1.1 (fun r2 ς h2 fr h9 => hQ2 _ _ ⟨_, rfl, _, rfl, h2.1, h2.2.1, h2.2.2.1, h2.2.2.2.1, h2.2.2.2.2.1, fr⟩))) rfl (Nat.le_of_ble_eq_true rfl) (fun r σ3 hk => ?_)
  obtain ⟨z2, rfl, ς, rfl, j1, j2, j3, j5, j6, j9⟩ := hk
  have j4 := KPx.same hkp hw9 hw10 (j3.trans i7)
  refine xs_pop hC dL_law_1223 ?_
  refine xs_goto (tgt := 1390) hC dL_law_1224 rfl ?_
  exact hend _ w1 a2 ρ2 _ ⟨(LI.ref i1 i2 j1 (by omega) j4 (hT0.nx (i8.trans hkt.1) (i9.trans hkt.2) (j5.trans i10) (j6.trans i11) (by omega)) i5), GL.fin ((hG2.cls hst).fr j9 (by decide) (by decide)) hlo⟩ (hkz.st (k1 := 0) (k2 := 0) hw13 (by decide) (by decide))
set_option maxHeartbeats 4000000 in
set_option maxRecDepth 100000 in
theorem law_30 (hL : LC p l s m meth c D yv A b Lx xs ad) (hI0 : LIG a ρ w σ b) (hkz : LKz n w kz) (hi : 0 ≤ i ∧ i + 5 < Lx) (hn : n ≤ 512) (hend : ∀ kz w a ρ σ, LIG a ρ w σ b → LKz (n + 1) w kz → XA kz p l e room_1 s m #[Value.ref b] below meth c D yv a ρ 224 (shLw w) A 8 Qm 1390 (lL i) [] σ) : XA kz p l e room_1 s m #[Value.ref b] below meth c D yv a ρ 224 (shLw w) A 8 Qm 1227 (lL i) [] σ := by
  obtain ⟨hC, hYY, hX, hbl, hbA, hstt, hLx⟩ := hL
  obtain ⟨hI, hG⟩ := hI0
  have hr := hkz.r hn
  have hLx2 : (Lx : Int) ≤ 3072 := by omega
  refine xs_aload hC (i := 1) (x := 0) dL_law_1227 rfl ?_
  refine xs_arg hC hX hbl hbA hI.2.2.2.2 rfl rfl ⟨by decide, by decide⟩ hi hLx2 dL_law_1228 dL_law_1229 dL_law_1231 dL_law_1232 dL_law_1233 ?_
  refine vs_call (shf := shLw) (rest := []) (as' := [xvi (xs (i + 1).toNat).toInt]) (t := 0) (ci := 10) (n := 1) (K := fun r w' σ' => JW w' σ' ∧ KT σ σ' ∧ ∃ z : Int, r = some (xvi z) ∧ EVC (σ 201) (σ 198) (xs (i + 1).toNat).toInt w σ z w' σ') (mgS 194 σ) (mgA 194 a) (mgR 194 ρ) (mg_ok 194 224 σ a ρ).1 (mg_ok 194 224 σ a ρ).2.1 (mg_ok 194 224 σ a ρ).2.2 hC hYY.1 (mvX10_eveningF l D yv) (Nat.le_of_ble_eq_true rfl) vfamL q_5_89 q_5_90 q_5_91 q_1_1 q_5_92 rfl rfl (by decide +kernel) (by decide) (by show kz.1 + 13 ≤ 601024; omega) (by show kz.2 + 331 ≤ 7293034; omega) dL_law_1234 (sh0 _) rfl (by decide) hI.1 (lLp (by rfl)) (lLp (by rfl)) ⟨_, σ 201, σ 198, rfl, hI.2.1, hG.1.1, hG.1.2.1.1, hG.1.2.1.2, hI.2.2.2.1.2.2.2.1, hG.1.2.2, fun r w' σ' h1 h2 h3 => ⟨h1, h2, _, rfl, h3⟩⟩ (fun r w1 a1 ρ1 σ1 hk hLK1 hag1 => ?_)
  obtain ⟨hJ1, hkt, z, rfl, hcr⟩ := hk
  obtain ⟨hl1, hw9, hw10, hw13⟩ := hcr.lo
  have hI1 := hI.cls (N := 194) (Or.inl rfl) hLK1 hJ1
  have hG2 := hG.mg (σ1 := σ1) (N := 194) (by omega)
  have hlo : ∀ t, t < 194 → mgS 194 σ σ1 t = σ1 t := fun t ht => if_pos (by omega)
  have hhi : ∀ t, 196 ≤ t → mgS 194 σ σ1 t = σ t := fun t ht => if_neg (by omega)
  generalize mgA 194 a a1 = a2, mgR 194 ρ ρ1 = ρ2, mgS 194 σ σ1 = σ2 at hI1 hG2 hlo hhi ⊢
  obtain ⟨i1, i2, i3, i4, i5, i6, i7, i8, i9, i10, i11⟩ := hI1
  obtain ⟨hh, hkp, hT0⟩ := hI.2.2.2.1
  have hcr9 : EVC (xsel tM σ2 5) (xsel tM σ2 2) (xs (i + 1).toNat).toInt w σ z w1 σ1 := by
    show EVC (σ2 201) (σ2 198) (xs (i + 1).toNat).toInt w σ z w1 σ1
    rw [hhi 201 (by decide), hhi 198 (by decide)]; exact hcr
  have h01 : 0 ≤ σ 0 1 ∧ σ 0 1 ≤ 940 := hI.2.1.1.1
  refine xs_pop hC dL_law_1237 ?_
  refine xs_aload hC (i := 2) (x := 196) dL_law_1238 rfl ?_
  refine xs_arg hC hX hbl hbA i5 rfl rfl ⟨by decide, by decide⟩ hi hLx2 dL_law_1239 dL_law_1240 dL_law_1242 dL_law_1243 dL_law_1244 ?_
  refine xs_ck (as := [xvr 196, xvi (xs (i + 1).toNat).toInt]) (rest := []) (K := fun r σ' => ∃ z : Int, r = some (xvi z) ∧ ∃ ς, σ' = xbk tM σ2 ς ∧ RI ς ∧ (((0 ≤ (xs (i + 1).toNat).toInt ∧ (xs (i + 1).toNat).toInt ≤ 1) → ς 0 2 = 0) ∧ (((xs (i + 1).toNat).toInt < 0 ∨ 1 < (xs (i + 1).toNat).toInt) → ς 0 2 = σ2 196 2)) ∧ ς 27 = σ2 223 ∧ ς 1 = σ2 197 ∧ ς 6 = σ2 202 ∧ (Fr [2, 4, 7, 8, 9, 22] [0, 2, 3, 4, 5, 11, 12, 13, 14, 15, 16, 17, 18, 24, 27, 52, 54] (xsel tM σ2) ς ∧ ((EVR (xsel tM σ2) ς (xs (i + 1).toNat).toInt z)))) hC ((xCk_MV (n := 1) (τ := tM) (mX11_evening l D yv) (subM w1) q_8_188 q_8_189 q_8_190 q_1_15 q_8_191 rfl rfl (by decide +kernel) (by decide) (shLw_fin w1)).up (Nat.le_of_ble_eq_true rfl)) (by show kz.1 + (13) ≤ 601024; have : 13 ≤ 15 := (by first | omega | (split <;> omega)); omega) (by show kz.2 + (331) ≤ 7293034; have : 331 ≤ 15690 := (by first | omega | (split <;> omega)); omega) dL_law_1245 (xMVf (ci := 11) rfl rfl (fun Q2 hQ2 => s_eveningJ (σ := xsel tM σ2) i3 trivial (by show BYx (σ2 197) (σ2 196 2); rw [i10, i4, ← hh]; exact fun i hi => (hT0.1 i hi).2) (by show ∀ j : Nat, j < 19 → σ2 202 j = R8.getD j 0; rw [i11]; exact hT0.2.2) hG2.1.2.1.1 (fun r2 ς h2 fr h9 => hQ2 _ _ ⟨_, rfl, _, rfl, h2.elim (fun h => h.2.1) (fun h => h.2.1), ⟨(fun h => h2.elim (fun h4 => absurd h4.1.1 (by omega)) (fun h4 => h4.2.2.1)), (fun h => h2.elim (fun h4 => h4.2.2.1) (fun h4 => absurd h4.1 (by omega)))⟩, h2.elim (fun h => h.2.2.2.1) (fun h => h.2.2.2.1), h2.elim (fun h => h.2.2.2.2.1) (fun h => h.2.2.2.2.1), h2.elim (fun h => h.2.2.2.2.2.1) (fun h => h.2.2.2.2.2), ⟨fr, h9⟩⟩))) rfl (Nat.le_of_ble_eq_true rfl) (fun r σ3 hk => ?_)
  obtain ⟨z2, rfl, ς, rfl, j1, j2, j3, j5, j6, j9⟩ := hk
  have j4 := KPx.same hkp hw9 hw10 (j3.trans i7)
  refine xs_pop hC dL_law_1248 ?_
  refine xs_goto (tgt := 1390) hC dL_law_1249 rfl ?_
  exact hend _ w1 a2 ρ2 _ ⟨(LI.ref i1 i2 j1 (by omega) j4 (hT0.nx (i8.trans hkt.1) (i9.trans hkt.2) (j5.trans i10) (j6.trans i11) (by omega)) i5), GL.fin ((hG2.evening (show ALx (σ 1) (σ2 197) (σ 0 1) from fun i hi => by rw [i10]; exact (hT0.1 i hi).1) (show σ 0 1 = σ2 196 2 from hh.trans i4.symm) hcr9 j9.1 j9.2).1) hlo⟩ (hkz.st (k1 := 13) (k2 := 331) hw13 (by decide) (by decide))
set_option maxHeartbeats 4000000 in
set_option maxRecDepth 100000 in
theorem law_31 (hL : LC p l s m meth c D yv A b Lx xs ad) (hI0 : LIG a ρ w σ b) (hkz : LKz n w kz) (hi : 0 ≤ i ∧ i + 5 < Lx) (hn : n ≤ 512) (hend : ∀ kz w a ρ σ, LIG a ρ w σ b → LKz (n + 1) w kz → XA kz p l e room_1 s m #[Value.ref b] below meth c D yv a ρ 224 (shLw w) A 8 Qm 1390 (lL i) [] σ) : XA kz p l e room_1 s m #[Value.ref b] below meth c D yv a ρ 224 (shLw w) A 8 Qm 1252 (lL i) [] σ := by
  obtain ⟨hC, hYY, hX, hbl, hbA, hstt, hLx⟩ := hL
  obtain ⟨hI, hG⟩ := hI0
  have hr := hkz.r hn
  have hLx2 : (Lx : Int) ≤ 3072 := by omega
  refine xs_aload hC (i := 1) (x := 0) dL_law_1252 rfl ?_
  refine xs_arg hC hX hbl hbA hI.2.2.2.2 rfl rfl ⟨by decide, by decide⟩ hi hLx2 dL_law_1253 dL_law_1254 dL_law_1256 dL_law_1257 dL_law_1258 ?_
  refine vs_call (shf := shLw) (rest := []) (as' := [xvi (xs (i + 1).toNat).toInt]) (t := 0) (ci := 10) (n := 1) (K := fun r w' σ' => JW w' σ' ∧ RsK [xvr 0, xvi (xs (i + 1).toNat).toInt] σ w r w' σ') (mgS 194 σ) (mgA 194 a) (mgR 194 ρ) (mg_ok 194 224 σ a ρ).1 (mg_ok 194 224 σ a ρ).2.1 (mg_ok 194 224 σ a ρ).2.2 hC hYY.1 (mvX10_heardK l D yv) (Nat.le_of_ble_eq_true rfl) vfamL q_5_134 q_5_135 q_5_136 q_1_1 q_5_137 rfl rfl (by decide +kernel) (by decide) (by show kz.1 + 0 ≤ 601024; omega) (by show kz.2 + 0 ≤ 7293034; omega) dL_law_1259 (sh0 _) rfl (by decide) hI.1 (lLp (by rfl)) (lLp (by rfl)) ⟨hI.2.1, ⟨_, rfl⟩, fun r w' σ' h1 h2 => ⟨h1, h2⟩⟩ (fun r w1 a1 ρ1 σ1 hk hLK1 hag1 => ?_)
  obtain ⟨hJ1, hR1⟩ := hk
  obtain ⟨⟨z, rfl⟩, hl1, hw9, ⟨hw10, hw13, hkt⟩, hst⟩ := hR1
  have hI1 := hI.cls (N := 194) (Or.inl rfl) hLK1 hJ1
  have hG2 := hG.mg (σ1 := σ1) (N := 194) (by omega)
  have hlo : ∀ t, t < 194 → mgS 194 σ σ1 t = σ1 t := fun t ht => if_pos (by omega)
  generalize mgA 194 a a1 = a2, mgR 194 ρ ρ1 = ρ2, mgS 194 σ σ1 = σ2 at hI1 hG2 hlo ⊢
  obtain ⟨i1, i2, i3, i4, i5, i6, i7, i8, i9, i10, i11⟩ := hI1
  obtain ⟨hh, hkp, hT0⟩ := hI.2.2.2.1
  have h01 : 0 ≤ σ 0 1 ∧ σ 0 1 ≤ 940 := hI.2.1.1.1
  refine xs_pop hC dL_law_1262 ?_
  refine xs_aload hC (i := 2) (x := 196) dL_law_1263 rfl ?_
  refine xs_arg hC hX hbl hbA i5 rfl rfl ⟨by decide, by decide⟩ hi hLx2 dL_law_1264 dL_law_1265 dL_law_1267 dL_law_1268 dL_law_1269 ?_
  refine xs_ck (as := [xvr 196, xvi (xs (i + 1).toNat).toInt]) (rest := []) (K := fun r σ' => ∃ z : Int, r = some (xvi z) ∧ ∃ ς, σ' = xbk tM σ2 ς ∧ RI ς ∧ (ς 0 2 = σ2 196 2) ∧ ς 27 = σ2 223 ∧ ς 1 = σ2 197 ∧ ς 6 = σ2 202 ∧ Fr [] [0] (xsel tM σ2) ς) hC ((xCk_MV (n := 1) (τ := tM) (mX11_heard l D yv) (subM w1) q_8_196 q_8_197 q_8_198 q_1_15 q_8_199 rfl rfl (by decide +kernel) (by decide) (shLw_fin w1)).up (Nat.le_of_ble_eq_true rfl)) (by show kz.1 + (0) ≤ 601024; have : 0 ≤ 15 := (by first | omega | (split <;> omega)); omega) (by show kz.2 + (0) ≤ 7293034; have : 0 ≤ 15690 := (by first | omega | (split <;> omega)); omega) dL_law_1270 (xMVf (ci := 11) rfl rfl (fun Q2 hQ2 => s_heardJ (σ := xsel tM σ2) i3 hG2.1.2.1.1 (fun r2 ς h2 fr h9 => hQ2 _ _ ⟨_, rfl, _, rfl, h2.1, h2.2.1, h2.2.2.1, h2.2.2.2.1, h2.2.2.2.2.1, fr⟩))) rfl (Nat.le_of_ble_eq_true rfl) (fun r σ3 hk => ?_)
  obtain ⟨z2, rfl, ς, rfl, j1, j2, j3, j5, j6, j9⟩ := hk
  have j4 := KPx.same hkp hw9 hw10 (j3.trans i7)
  refine xs_pop hC dL_law_1273 ?_
  refine xs_goto (tgt := 1390) hC dL_law_1274 rfl ?_
  exact hend _ w1 a2 ρ2 _ ⟨(LI.ref i1 i2 j1 (by omega) j4 (hT0.nx (i8.trans hkt.1) (i9.trans hkt.2) (j5.trans i10) (j6.trans i11) (by omega)) i5), GL.fin ((hG2.cls hst).fr j9 (by decide) (by decide)) hlo⟩ (hkz.st (k1 := 0) (k2 := 0) hw13 (by decide) (by decide))
set_option maxHeartbeats 4000000 in
set_option maxRecDepth 100000 in
theorem law_32 (hL : LC p l s m meth c D yv A b Lx xs ad) (hI0 : LIG a ρ w σ b) (hkz : LKz n w kz) (hi : 0 ≤ i ∧ i + 5 < Lx) (hn : n ≤ 512) (hend : ∀ kz w a ρ σ, LIG a ρ w σ b → LKz (n + 1) w kz → XA kz p l e room_1 s m #[Value.ref b] below meth c D yv a ρ 224 (shLw w) A 8 Qm 1390 (lL i) [] σ) : XA kz p l e room_1 s m #[Value.ref b] below meth c D yv a ρ 224 (shLw w) A 8 Qm 1277 (lL i) [] σ := by
  obtain ⟨hC, hYY, hX, hbl, hbA, hstt, hLx⟩ := hL
  obtain ⟨hI, hG⟩ := hI0
  have hr := hkz.r hn
  have hLx2 : (Lx : Int) ≤ 3072 := by omega
  refine xs_aload hC (i := 1) (x := 0) dL_law_1277 rfl ?_
  refine vs_call (shf := shLw) (rest := []) (as' := []) (t := 0) (ci := 10) (n := 0) (K := fun r w' σ' => JW w' σ' ∧ RzK [xvr 0] σ w r w' σ') (mgS 194 σ) (mgA 194 a) (mgR 194 ρ) (mg_ok 194 224 σ a ρ).1 (mg_ok 194 224 σ a ρ).2.1 (mg_ok 194 224 σ a ρ).2.2 hC hYY.1 (mvX10_sentenceK l D yv) (Nat.le_of_ble_eq_true rfl) vfamL q_5_138 q_5_139 q_5_140 q_1_1 q_5_141 rfl rfl (by decide +kernel) (by decide) (by show kz.1 + 0 ≤ 601024; omega) (by show kz.2 + 0 ≤ 7293034; omega) dL_law_1278 (sh0 _) rfl (by decide) hI.1 (lLp (by rfl)) (lLp (by rfl)) ⟨hI.2.1, rfl, fun r w' σ' h1 h2 => ⟨h1, h2⟩⟩ (fun r w1 a1 ρ1 σ1 hk hLK1 hag1 => ?_)
  obtain ⟨hJ1, hR1⟩ := hk
  obtain ⟨⟨z, rfl⟩, hl1, hw9, ⟨hw10, hw13, hkt⟩, hst⟩ := hR1
  have hI1 := hI.cls (N := 194) (Or.inl rfl) hLK1 hJ1
  have hG2 := hG.mg (σ1 := σ1) (N := 194) (by omega)
  have hlo : ∀ t, t < 194 → mgS 194 σ σ1 t = σ1 t := fun t ht => if_pos (by omega)
  generalize mgA 194 a a1 = a2, mgR 194 ρ ρ1 = ρ2, mgS 194 σ σ1 = σ2 at hI1 hG2 hlo ⊢
  obtain ⟨i1, i2, i3, i4, i5, i6, i7, i8, i9, i10, i11⟩ := hI1
  obtain ⟨hh, hkp, hT0⟩ := hI.2.2.2.1
  have h01 : 0 ≤ σ 0 1 ∧ σ 0 1 ≤ 940 := hI.2.1.1.1
  refine xs_pop hC dL_law_1281 ?_
  refine xs_aload hC (i := 2) (x := 196) dL_law_1282 rfl ?_
  refine xs_ck (as := [xvr 196]) (rest := []) (K := fun r σ' => ∃ z : Int, r = some (xvi z) ∧ ∃ ς, σ' = xbk tM σ2 ς ∧ RI ς ∧ (ς 0 2 = 0) ∧ ς 27 = σ2 223 ∧ ς 1 = σ2 197 ∧ ς 6 = σ2 202 ∧ RZS (xsel tM σ2) ς) hC ((xCk_MV (n := 0) (τ := tM) (mX11_sentence l D yv) (subM w1) q_8_200 q_8_201 q_8_202 q_1_15 q_8_203 rfl rfl (by decide +kernel) (by decide) (shLw_fin w1)).up (Nat.le_of_ble_eq_true rfl)) (by show kz.1 + (0) ≤ 601024; have : 0 ≤ 15 := (by first | omega | (split <;> omega)); omega) (by show kz.2 + (0) ≤ 7293034; have : 0 ≤ 15690 := (by first | omega | (split <;> omega)); omega) dL_law_1283 (xMVf (ci := 11) rfl rfl (fun Q2 hQ2 => s_sentenceJ (σ := xsel tM σ2) i3 (fun r2 ς h2 h9 => hQ2 _ _ ⟨_, rfl, _, rfl, h2.1, h2.2.1, h2.2.2.1, h2.2.2.2.1, h2.2.2.2.2, h9⟩))) rfl (Nat.le_of_ble_eq_true rfl) (fun r σ3 hk => ?_)
  obtain ⟨z2, rfl, ς, rfl, j1, j2, j3, j5, j6, j9⟩ := hk
  have j4 := KPx.same hkp hw9 hw10 (j3.trans i7)
  refine xs_pop hC dL_law_1286 ?_
  refine xs_goto (tgt := 1390) hC dL_law_1287 rfl ?_
  exact hend _ w1 a2 ρ2 _ ⟨(LI.ref i1 i2 j1 (by omega) j4 (hT0.nx (i8.trans hkt.1) (i9.trans hkt.2) (j5.trans i10) (j6.trans i11) (by omega)) i5), GL.fin ((hG2.cls hst).zs j9) hlo⟩ (hkz.st (k1 := 0) (k2 := 0) hw13 (by decide) (by decide))
set_option maxHeartbeats 4000000 in
set_option maxRecDepth 100000 in
theorem law_33 (hL : LC p l s m meth c D yv A b Lx xs ad) (hI0 : LIG a ρ w σ b) (hkz : LKz n w kz) (hi : 0 ≤ i ∧ i + 5 < Lx) (hn : n ≤ 512) (hend : ∀ kz w a ρ σ, LIG a ρ w σ b → LKz (n + 1) w kz → XA kz p l e room_1 s m #[Value.ref b] below meth c D yv a ρ 224 (shLw w) A 8 Qm 1390 (lL i) [] σ) : XA kz p l e room_1 s m #[Value.ref b] below meth c D yv a ρ 224 (shLw w) A 8 Qm 1290 (lL i) [] σ := by
  obtain ⟨hC, hYY, hX, hbl, hbA, hstt, hLx⟩ := hL
  obtain ⟨hI, hG⟩ := hI0
  have hr := hkz.r hn
  have hLx2 : (Lx : Int) ≤ 3072 := by omega
  refine xs_aload hC (i := 1) (x := 0) dL_law_1290 rfl ?_
  refine xs_arg hC hX hbl hbA hI.2.2.2.2 rfl rfl ⟨by decide, by decide⟩ hi hLx2 dL_law_1291 dL_law_1292 dL_law_1294 dL_law_1295 dL_law_1296 ?_
  refine vs_call (shf := shLw) (rest := []) (as' := [xvi (xs (i + 1).toNat).toInt]) (t := 0) (ci := 10) (n := 1) (K := fun r w' σ' => JW w' σ' ∧ RsK [xvr 0, xvi (xs (i + 1).toNat).toInt] σ w r w' σ') (mgS 194 σ) (mgA 194 a) (mgR 194 ρ) (mg_ok 194 224 σ a ρ).1 (mg_ok 194 224 σ a ρ).2.1 (mg_ok 194 224 σ a ρ).2.2 hC hYY.1 (mvX10_saidK l D yv) (Nat.le_of_ble_eq_true rfl) vfamL q_5_187 q_5_188 q_5_189 q_1_1 q_5_190 rfl rfl (by decide +kernel) (by decide) (by show kz.1 + 0 ≤ 601024; omega) (by show kz.2 + 0 ≤ 7293034; omega) dL_law_1297 (sh0 _) rfl (by decide) hI.1 (lLp (by rfl)) (lLp (by rfl)) ⟨hI.2.1, ⟨_, rfl⟩, fun r w' σ' h1 h2 => ⟨h1, h2⟩⟩ (fun r w1 a1 ρ1 σ1 hk hLK1 hag1 => ?_)
  obtain ⟨hJ1, hR1⟩ := hk
  obtain ⟨⟨z, rfl⟩, hl1, hw9, ⟨hw10, hw13, hkt⟩, hst⟩ := hR1
  have hI1 := hI.cls (N := 194) (Or.inl rfl) hLK1 hJ1
  have hG2 := hG.mg (σ1 := σ1) (N := 194) (by omega)
  have hlo : ∀ t, t < 194 → mgS 194 σ σ1 t = σ1 t := fun t ht => if_pos (by omega)
  generalize mgA 194 a a1 = a2, mgR 194 ρ ρ1 = ρ2, mgS 194 σ σ1 = σ2 at hI1 hG2 hlo ⊢
  obtain ⟨i1, i2, i3, i4, i5, i6, i7, i8, i9, i10, i11⟩ := hI1
  obtain ⟨hh, hkp, hT0⟩ := hI.2.2.2.1
  have h01 : 0 ≤ σ 0 1 ∧ σ 0 1 ≤ 940 := hI.2.1.1.1
  refine xs_pop hC dL_law_1300 ?_
  refine xs_aload hC (i := 2) (x := 196) dL_law_1301 rfl ?_
  refine xs_arg hC hX hbl hbA i5 rfl rfl ⟨by decide, by decide⟩ hi hLx2 dL_law_1302 dL_law_1303 dL_law_1305 dL_law_1306 dL_law_1307 ?_
  refine xs_ck (as := [xvr 196, xvi (xs (i + 1).toNat).toInt]) (rest := []) (K := fun r σ' => ∃ z : Int, r = some (xvi z) ∧ ∃ ς, σ' = xbk tM σ2 ς ∧ RI ς ∧ (ς 0 2 = σ2 196 2) ∧ ς 27 = σ2 223 ∧ ς 1 = σ2 197 ∧ ς 6 = σ2 202 ∧ RKs (xsel tM σ2) ς) hC ((xCk_MV (n := 1) (τ := tM) (mX11_said l D yv) (subM w1) q_8_228 q_8_229 q_8_230 q_1_15 q_8_231 rfl rfl (by decide +kernel) (by decide) (shLw_fin w1)).up (Nat.le_of_ble_eq_true rfl)) (by show kz.1 + (0) ≤ 601024; have : 0 ≤ 15 := (by first | omega | (split <;> omega)); omega) (by show kz.2 + (0) ≤ 7293034; have : 0 ≤ 15690 := (by first | omega | (split <;> omega)); omega) dL_law_1308 (xMVf (ci := 11) rfl rfl (fun Q2 hQ2 => s_saidJ (σ := xsel tM σ2) i3 (fun r2 ς h2 h9 => hQ2 _ _ ⟨_, rfl, _, rfl, h2.1, h2.2.1, h2.2.2.1, h2.2.2.2.1, h2.2.2.2.2.1, h9⟩))) rfl (Nat.le_of_ble_eq_true rfl) (fun r σ3 hk => ?_)
  obtain ⟨z2, rfl, ς, rfl, j1, j2, j3, j5, j6, j9⟩ := hk
  have j4 := KPx.same hkp hw9 hw10 (j3.trans i7)
  refine xs_pop hC dL_law_1311 ?_
  refine xs_goto (tgt := 1390) hC dL_law_1312 rfl ?_
  exact hend _ w1 a2 ρ2 _ ⟨(LI.ref i1 i2 j1 (by omega) j4 (hT0.nx (i8.trans hkt.1) (i9.trans hkt.2) (j5.trans i10) (j6.trans i11) (by omega)) i5), GL.fin ((hG2.cls hst).ks j9) hlo⟩ (hkz.st (k1 := 0) (k2 := 0) hw13 (by decide) (by decide))
set_option maxHeartbeats 4000000 in
set_option maxRecDepth 100000 in
theorem law_34 (hL : LC p l s m meth c D yv A b Lx xs ad) (hI0 : LIG a ρ w σ b) (hkz : LKz n w kz) (hi : 0 ≤ i ∧ i + 5 < Lx) (hn : n ≤ 512) (hend : ∀ kz w a ρ σ, LIG a ρ w σ b → LKz (n + 1) w kz → XA kz p l e room_1 s m #[Value.ref b] below meth c D yv a ρ 224 (shLw w) A 8 Qm 1390 (lL i) [] σ) : XA kz p l e room_1 s m #[Value.ref b] below meth c D yv a ρ 224 (shLw w) A 8 Qm 1315 (lL i) [] σ := by
  obtain ⟨hC, hYY, hX, hbl, hbA, hstt, hLx⟩ := hL
  obtain ⟨hI, hG⟩ := hI0
  have hr := hkz.r hn
  have hLx2 : (Lx : Int) ≤ 3072 := by omega
  refine xs_aload hC (i := 1) (x := 0) dL_law_1315 rfl ?_
  refine xs_arg hC hX hbl hbA hI.2.2.2.2 rfl rfl ⟨by decide, by decide⟩ hi hLx2 dL_law_1316 dL_law_1317 dL_law_1319 dL_law_1320 dL_law_1321 ?_
  refine vs_call (shf := shLw) (rest := []) (as' := [xvi (xs (i + 1).toNat).toInt]) (t := 0) (ci := 10) (n := 1) (K := fun r w' σ' => JW w' σ' ∧ (∃ z : Int, r = some (xvi z) ∧ imgR w (xs (i + 1).toNat).toInt z w') ∧ σ' 0 1 = σ 0 1 ∧ KT σ σ' ∧ imF w σ (xs (i + 1).toNat).toInt w' σ' (σ 198)) (mgS 194 σ) (mgA 194 a) (mgR 194 ρ) (mg_ok 194 224 σ a ρ).1 (mg_ok 194 224 σ a ρ).2.1 (mg_ok 194 224 σ a ρ).2.2 hC hYY.1 (mvX10_imageF l D yv) (Nat.le_of_ble_eq_true rfl) vfamL q_5_213 q_5_214 q_5_215 q_1_1 q_5_216 rfl rfl (by decide +kernel) (by decide) (by show kz.1 + 15 ≤ 601024; omega) (by show kz.2 + 373 ≤ 7293034; omega) dL_law_1322 (sh0 _) rfl (by decide) hI.1 (lLp (by rfl)) (lLp (by rfl)) ⟨_, σ 198, rfl, hI.2.1, hG.1.1, fun r w' σ' h1 h2 h3 h4 => ⟨h1, ⟨_, rfl, h3⟩, by rw [h2.1], h2.2, h4⟩⟩ (fun r w1 a1 ρ1 σ1 hk hLK1 hag1 => ?_)
  obtain ⟨hJ1, hR1⟩ := hk
  obtain ⟨⟨z, rfl, hIm⟩, hl1, hkt, hcr⟩ := hR1
  have hw13 : w 13 = true → w1 13 = true := fun h => img13 hIm h
  have hI1 := hI.cls (N := 194) (Or.inl rfl) hLK1 hJ1
  have hG2 := hG.mg (σ1 := σ1) (N := 194) (by omega)
  have hlo : ∀ t, t < 194 → mgS 194 σ σ1 t = σ1 t := fun t ht => if_pos (by omega)
  have hhi : ∀ t, 196 ≤ t → mgS 194 σ σ1 t = σ t := fun t ht => if_neg (by omega)
  generalize mgA 194 a a1 = a2, mgR 194 ρ ρ1 = ρ2, mgS 194 σ σ1 = σ2 at hI1 hG2 hlo hhi ⊢
  obtain ⟨i1, i2, i3, i4, i5, i6, i7, i8, i9, i10, i11⟩ := hI1
  obtain ⟨hh, hkp, hT0⟩ := hI.2.2.2.1
  have hcr9 : imF w σ (xs (i + 1).toNat).toInt w1 σ1 (xsel tM σ2 2) := by
    show imF w σ (xs (i + 1).toNat).toInt w1 σ1 (σ2 198)
    rw [hhi 198 (by decide)]; exact hcr
  have h01 : 0 ≤ σ 0 1 ∧ σ 0 1 ≤ 940 := hI.2.1.1.1
  refine xs_pop hC dL_law_1325 ?_
  refine xs_aload hC (i := 2) (x := 196) dL_law_1326 rfl ?_
  refine xs_arg hC hX hbl hbA i5 rfl rfl ⟨by decide, by decide⟩ hi hLx2 dL_law_1327 dL_law_1328 dL_law_1330 dL_law_1331 dL_law_1332 ?_
  refine xs_ck (as := [xvr 196, xvi (xs (i + 1).toNat).toInt]) (rest := []) (K := fun r σ' => ∃ z : Int, r = some (xvi z) ∧ ∃ ς, σ' = xbk tM σ2 ς ∧ RI ς ∧ (ς 0 2 = σ2 196 2) ∧ (((0 ≤ (xs (i + 1).toNat).toInt ∧ (xs (i + 1).toNat).toInt ≤ 1) ∧ z = 1 ∧ ς 27 = up (σ2 223) (xs (i + 1).toNat).toInt.toNat 1) ∨ (((xs (i + 1).toNat).toInt < 0 ∨ 1 < (xs (i + 1).toNat).toInt) ∧ z = 0 ∧ ς 27 = σ2 223)) ∧ ς 1 = σ2 197 ∧ ς 6 = σ2 202 ∧ (Fr [25, 26, 27] [0] (xsel tM σ2) ς ∧ ((((0 ≤ (xs (i + 1).toNat).toInt ∧ (xs (i + 1).toNat).toInt ≤ 1) ∧ z = 1 ∧ ((∀ q : Nat, q < 765 → ς 25 (765 * (xs (i + 1).toNat).toInt.toNat + q) = (xsel tM σ2) 2 q) ∧ ∀ q : Nat, (q < 765 * (xs (i + 1).toNat).toInt.toNat ∨ 765 * (xs (i + 1).toNat).toInt.toNat + 765 ≤ q) → ς 25 q = (xsel tM σ2) 25 q) ∧ ((∀ q : Nat, q < 6 → ς 26 (6 * (xs (i + 1).toNat).toInt.toNat + q) = (xsel tM σ2) 5 q) ∧ ∀ q : Nat, (q < 6 * (xs (i + 1).toNat).toInt.toNat ∨ 6 * (xs (i + 1).toNat).toInt.toNat + 6 ≤ q) → ς 26 q = (xsel tM σ2) 26 q) ∧ ς 27 = up ((xsel tM σ2) 27) (xs (i + 1).toNat).toInt.toNat 1) ∨ (¬ (0 ≤ (xs (i + 1).toNat).toInt ∧ (xs (i + 1).toNat).toInt ≤ 1) ∧ z = 0 ∧ ς 25 = (xsel tM σ2) 25 ∧ ς 26 = (xsel tM σ2) 26 ∧ ς 27 = (xsel tM σ2) 27))))) hC ((xCk_MV (n := 1) (τ := tM) (mX11_image l D yv) (subM w1) q_9_0 q_9_1 q_9_2 q_1_15 q_9_3 rfl rfl (by decide +kernel) (by decide) (shLw_fin w1)).up (Nat.le_of_ble_eq_true rfl)) (by show kz.1 + (15) ≤ 601024; have : 15 ≤ 15 := (by first | omega | (split <;> omega)); omega) (by show kz.2 + (373) ≤ 7293034; have : 373 ≤ 15690 := (by first | omega | (split <;> omega)); omega) dL_law_1333 (xMVf (ci := 11) rfl rfl (fun Q2 hQ2 => s_imageJ (σ := xsel tM σ2) i3 (fun r2 ς h2 fr h9 => hQ2 _ _ ⟨_, rfl, _, rfl, h2.elim (fun h => h.2.2.1) (fun h => h.2.2.1), h2.elim (fun h => h.2.2.2.1) (fun h => h.2.2.2.1), h2.elim (fun h => Or.inl ⟨h.1, h.2.1, h.2.2.2.2.1⟩) (fun h => Or.inr ⟨h.1, h.2.1, h.2.2.2.2.1⟩), h2.elim (fun h => h.2.2.2.2.2.1) (fun h => h.2.2.2.2.2.1), h2.elim (fun h => h.2.2.2.2.2.2) (fun h => h.2.2.2.2.2.2.1), ⟨fr, h9⟩⟩))) rfl (Nat.le_of_ble_eq_true rfl) (fun r σ3 hk => ?_)
  obtain ⟨z2, rfl, ς, rfl, j1, j2, j3, j5, j6, j9⟩ := hk
  obtain ⟨j4, hze⟩ := KPx.img (f := ς 27) (z2 := z2) hkp hIm (by rw [← i7]; exact j3)
  refine xs_pop hC dL_law_1336 ?_
  refine xs_goto (tgt := 1390) hC dL_law_1337 rfl ?_
  exact hend _ w1 a2 ρ2 _ ⟨(LI.ref i1 i2 j1 (by omega) j4 (hT0.nx (i8.trans hkt.1) (i9.trans hkt.2) (j5.trans i10) (j6.trans i11) (by omega)) i5), GL.fin (hG2.image hIm hcr9 j9.1 j9.2) hlo⟩ (hkz.st (k1 := 15) (k2 := 373) hw13 (by decide) (by decide))
set_option maxHeartbeats 4000000 in
set_option maxRecDepth 100000 in
theorem law_35 (hL : LC p l s m meth c D yv A b Lx xs ad) (hI0 : LIG a ρ w σ b) (hkz : LKz n w kz) (hi : 0 ≤ i ∧ i + 5 < Lx) (hn : n ≤ 512) (hend : ∀ kz w a ρ σ, LIG a ρ w σ b → LKz (n + 1) w kz → XA kz p l e room_1 s m #[Value.ref b] below meth c D yv a ρ 224 (shLw w) A 8 Qm 1390 (lL i) [] σ) : XA kz p l e room_1 s m #[Value.ref b] below meth c D yv a ρ 224 (shLw w) A 8 Qm 1340 (lL i) [] σ := by
  obtain ⟨hC, hYY, hX, hbl, hbA, hstt, hLx⟩ := hL
  obtain ⟨hI, hG⟩ := hI0
  have hr := hkz.r hn
  have hLx2 : (Lx : Int) ≤ 3072 := by omega
  refine xs_aload hC (i := 1) (x := 0) dL_law_1340 rfl ?_
  refine xs_arg hC hX hbl hbA hI.2.2.2.2 rfl rfl ⟨by decide, by decide⟩ hi hLx2 dL_law_1341 dL_law_1342 dL_law_1344 dL_law_1345 dL_law_1346 ?_
  refine vs_call (shf := shLw) (rest := []) (as' := [xvi (xs (i + 1).toNat).toInt]) (t := 0) (ci := 10) (n := 1) (K := fun r w' σ' => JW w' σ' ∧ (∃ z : Int, r = some (xvi z) ∧ restR w (xs (i + 1).toNat).toInt z) ∧ σ' 0 1 = σ 0 1 ∧ KT σ σ' ∧ reF w σ (xs (i + 1).toNat).toInt σ' (fun q => σ 221 (765 * (xs (i + 1).toNat).toInt.toNat + q)) ∧ w' = w) (mgS 194 σ) (mgA 194 a) (mgR 194 ρ) (mg_ok 194 224 σ a ρ).1 (mg_ok 194 224 σ a ρ).2.1 (mg_ok 194 224 σ a ρ).2.2 hC hYY.1 (mvX10_restoreF l D yv) (Nat.le_of_ble_eq_true rfl) vfamL q_5_217 q_5_218 q_5_219 q_1_1 q_5_220 rfl rfl (by decide +kernel) (by decide) (by show kz.1 + 0 ≤ 601024; omega) (by show kz.2 + 0 ≤ 7293034; omega) dL_law_1347 (sh0 _) rfl (by decide) hI.1 (lLp (by rfl)) (lLp (by rfl)) ⟨_, _, rfl, hI.2.1, (fun hk => hG.res hI.2.2.2.1.2.1 hk), fun r σ' h1 h2 h3 h4 => ⟨h1, ⟨_, rfl, h3⟩, by rw [h2.1], h2.2, h4, rfl⟩⟩ (fun r w1 a1 ρ1 σ1 hk hLK1 hag1 => ?_)
  obtain ⟨hJ1, hR1⟩ := hk
  obtain ⟨⟨z, rfl, hIm⟩, hl1, hkt, hcr, rfl⟩ := hR1
  have hw13 : w1 13 = true → w1 13 = true := fun h => h
  have hI1 := hI.cls (N := 194) (Or.inl rfl) hLK1 hJ1
  have hG2 := hG.mg (σ1 := σ1) (N := 194) (by omega)
  have hlo : ∀ t, t < 194 → mgS 194 σ σ1 t = σ1 t := fun t ht => if_pos (by omega)
  have hhi : ∀ t, 196 ≤ t → mgS 194 σ σ1 t = σ t := fun t ht => if_neg (by omega)
  generalize mgA 194 a a1 = a2, mgR 194 ρ ρ1 = ρ2, mgS 194 σ σ1 = σ2 at hI1 hG2 hlo hhi ⊢
  obtain ⟨i1, i2, i3, i4, i5, i6, i7, i8, i9, i10, i11⟩ := hI1
  obtain ⟨hh, hkp, hT0⟩ := hI.2.2.2.1
  have hcr9 : reF w1 σ (xs (i + 1).toNat).toInt σ1 (fun q => xsel tM σ2 25 (765 * (xs (i + 1).toNat).toInt.toNat + q)) := by
    show reF w1 σ (xs (i + 1).toNat).toInt σ1 (fun q => σ2 221 (765 * (xs (i + 1).toNat).toInt.toNat + q))
    rw [hhi 221 (by decide)]; exact hcr
  have h01 : 0 ≤ σ 0 1 ∧ σ 0 1 ≤ 940 := hI.2.1.1.1
  refine xs_pop hC dL_law_1350 ?_
  refine xs_aload hC (i := 2) (x := 196) dL_law_1351 rfl ?_
  refine xs_arg hC hX hbl hbA i5 rfl rfl ⟨by decide, by decide⟩ hi hLx2 dL_law_1352 dL_law_1353 dL_law_1355 dL_law_1356 dL_law_1357 ?_
  refine xs_ck (as := [xvr 196, xvi (xs (i + 1).toNat).toInt]) (rest := []) (K := fun r σ' => ∃ z : Int, r = some (xvi z) ∧ ∃ ς, σ' = xbk tM σ2 ς ∧ RI ς ∧ (ς 0 2 = σ2 196 2) ∧ (((0 ≤ (xs (i + 1).toNat).toInt ∧ (xs (i + 1).toNat).toInt ≤ 1) ∧ ¬ σ2 223 (xs (i + 1).toNat).toInt.toNat = 0 ∧ z = 1 ∧ ς 27 = σ2 223) ∨ ((((xs (i + 1).toNat).toInt < 0 ∨ 1 < (xs (i + 1).toNat).toInt) ∨ σ2 223 (xs (i + 1).toNat).toInt.toNat = 0) ∧ z = 0 ∧ ς 27 = σ2 223)) ∧ ς 1 = σ2 197 ∧ ς 6 = σ2 202 ∧ (Fr [2, 5] [0, 27] (xsel tM σ2) ς ∧ (((((0 ≤ (xs (i + 1).toNat).toInt ∧ (xs (i + 1).toNat).toInt ≤ 1) ∧ ¬ (xsel tM σ2) 27 (xs (i + 1).toNat).toInt.toNat = 0) ∧ z = 1 ∧ (∀ q : Nat, q < 765 → ς 2 q = (xsel tM σ2) 25 (765 * (xs (i + 1).toNat).toInt.toNat + q)) ∧ (∀ q : Nat, q < 6 → ς 5 q = (xsel tM σ2) 26 (6 * (xs (i + 1).toNat).toInt.toNat + q)) ∧ ς 0 27 = 0) ∨ (¬ ((0 ≤ (xs (i + 1).toNat).toInt ∧ (xs (i + 1).toNat).toInt ≤ 1) ∧ ¬ (xsel tM σ2) 27 (xs (i + 1).toNat).toInt.toNat = 0) ∧ z = 0 ∧ ς 2 = (xsel tM σ2) 2 ∧ ς 5 = (xsel tM σ2) 5 ∧ ς 0 27 = (xsel tM σ2) 0 27))))) hC ((xCk_MV (n := 1) (τ := tM) (mX11_restore l D yv) (subM w1) q_9_4 q_9_5 q_9_6 q_1_15 q_9_7 rfl rfl (by decide +kernel) (by decide) (shLw_fin w1)).up (Nat.le_of_ble_eq_true rfl)) (by show kz.1 + (0) ≤ 601024; have : 0 ≤ 15 := (by first | omega | (split <;> omega)); omega) (by show kz.2 + (0) ≤ 7293034; have : 0 ≤ 15690 := (by first | omega | (split <;> omega)); omega) dL_law_1358 (xMVf (ci := 11) rfl rfl (fun Q2 hQ2 => s_restoreJ (σ := xsel tM σ2) i3 (fun r2 ς h2 fr h9 => hQ2 _ _ ⟨_, rfl, _, rfl, h2.elim (fun h => h.2.2.2.1) (fun h => h.2.2.1), h2.elim (fun h => h.2.2.2.2.1) (fun h => h.2.2.2.1), h2.elim (fun h => Or.inl ⟨h.1, h.2.1, h.2.2.1, h.2.2.2.2.2.1⟩) (fun h => Or.inr ⟨h.1, h.2.1, h.2.2.2.2.1⟩), h2.elim (fun h => h.2.2.2.2.2.2.1) (fun h => h.2.2.2.2.2.1), h2.elim (fun h => h.2.2.2.2.2.2.2) (fun h => h.2.2.2.2.2.2.1), ⟨fr, h9⟩⟩))) rfl (Nat.le_of_ble_eq_true rfl) (fun r σ3 hk => ?_)
  obtain ⟨z2, rfl, ς, rfl, j1, j2, j3, j5, j6, j9⟩ := hk
  obtain ⟨j4, hze⟩ := KPx.rest (f := ς 27) (z2 := z2) hkp hIm (by rw [← i7]; exact j3)
  refine xs_pop hC dL_law_1361 ?_
  refine xs_goto (tgt := 1390) hC dL_law_1362 rfl ?_
  exact hend _ w1 a2 ρ2 _ ⟨(LI.ref i1 i2 j1 (by omega) j4 (hT0.nx (i8.trans hkt.1) (i9.trans hkt.2) (j5.trans i10) (j6.trans i11) (by omega)) i5), GL.fin (hG2.restore (by show ∀ k : Nat, k < 2 → (¬ σ2 223 k = 0 ↔ w1 (9 + k) = true); rw [i7]; exact hI.2.2.2.1.2.1) hcr9 hJ1.p.1 j9.1 j9.2) hlo⟩ (hkz.st (k1 := 0) (k2 := 0) hw13 (by decide) (by decide))
set_option maxHeartbeats 4000000 in
set_option maxRecDepth 100000 in
theorem law_36 (hL : LC p l s m meth c D yv A b Lx xs ad) (hI0 : LIG a ρ w σ b) (hkz : LKz n w kz) (hi : 0 ≤ i ∧ i + 5 < Lx) (hn : n ≤ 512) (hend : ∀ kz w a ρ σ, LIG a ρ w σ b → LKz (n + 1) w kz → XA kz p l e room_1 s m #[Value.ref b] below meth c D yv a ρ 224 (shLw w) A 8 Qm 1390 (lL i) [] σ) : XA kz p l e room_1 s m #[Value.ref b] below meth c D yv a ρ 224 (shLw w) A 8 Qm 1365 (lL i) [] σ := by
  obtain ⟨hC, hYY, hX, hbl, hbA, hstt, hLx⟩ := hL
  obtain ⟨hI, hG⟩ := hI0
  have hr := hkz.r hn
  have hLx2 : (Lx : Int) ≤ 3072 := by omega
  refine xs_aload hC (i := 1) (x := 0) dL_law_1365 rfl ?_
  refine xs_arg hC hX hbl hbA hI.2.2.2.2 rfl rfl ⟨by decide, by decide⟩ hi hLx2 dL_law_1366 dL_law_1367 dL_law_1369 dL_law_1370 dL_law_1371 ?_
  refine vs_call (shf := shLw) (rest := []) (as' := [xvi (xs (i + 1).toNat).toInt]) (t := 0) (ci := 10) (n := 1) (K := fun r w' σ' => JW w' σ' ∧ RsK [xvr 0, xvi (xs (i + 1).toNat).toInt] σ w r w' σ') (mgS 194 σ) (mgA 194 a) (mgR 194 ρ) (mg_ok 194 224 σ a ρ).1 (mg_ok 194 224 σ a ρ).2.1 (mg_ok 194 224 σ a ρ).2.2 hC hYY.1 (mvX10_countK l D yv) (Nat.le_of_ble_eq_true rfl) vfamL q_5_221 q_5_222 q_5_223 q_1_1 q_5_224 rfl rfl (by decide +kernel) (by decide) (by show kz.1 + 0 ≤ 601024; omega) (by show kz.2 + 0 ≤ 7293034; omega) dL_law_1372 (sh0 _) rfl (by decide) hI.1 (lLp (by rfl)) (lLp (by rfl)) ⟨hI.2.1, ⟨_, rfl⟩, fun r w' σ' h1 h2 => ⟨h1, h2⟩⟩ (fun r w1 a1 ρ1 σ1 hk hLK1 hag1 => ?_)
  obtain ⟨hJ1, hR1⟩ := hk
  obtain ⟨⟨z, rfl⟩, hl1, hw9, ⟨hw10, hw13, hkt⟩, hst⟩ := hR1
  have hI1 := hI.cls (N := 194) (Or.inl rfl) hLK1 hJ1
  have hG2 := hG.mg (σ1 := σ1) (N := 194) (by omega)
  have hlo : ∀ t, t < 194 → mgS 194 σ σ1 t = σ1 t := fun t ht => if_pos (by omega)
  generalize mgA 194 a a1 = a2, mgR 194 ρ ρ1 = ρ2, mgS 194 σ σ1 = σ2 at hI1 hG2 hlo ⊢
  obtain ⟨i1, i2, i3, i4, i5, i6, i7, i8, i9, i10, i11⟩ := hI1
  obtain ⟨hh, hkp, hT0⟩ := hI.2.2.2.1
  have h01 : 0 ≤ σ 0 1 ∧ σ 0 1 ≤ 940 := hI.2.1.1.1
  refine xs_pop hC dL_law_1375 ?_
  refine xs_aload hC (i := 2) (x := 196) dL_law_1376 rfl ?_
  refine xs_arg hC hX hbl hbA i5 rfl rfl ⟨by decide, by decide⟩ hi hLx2 dL_law_1377 dL_law_1378 dL_law_1380 dL_law_1381 dL_law_1382 ?_
  refine xs_ck (as := [xvr 196, xvi (xs (i + 1).toNat).toInt]) (rest := []) (K := fun r σ' => ∃ z : Int, r = some (xvi z) ∧ ∃ ς, σ' = xbk tM σ2 ς ∧ RI ς ∧ (ς 0 2 = σ2 196 2) ∧ ς 27 = σ2 223 ∧ ς 1 = σ2 197 ∧ ς 6 = σ2 202 ∧ Fr [] [0] (xsel tM σ2) ς) hC ((xCk_MV (n := 1) (τ := tM) (mX11_count l D yv) (subM w1) q_9_8 q_9_9 q_9_10 q_1_15 q_9_11 rfl rfl (by decide +kernel) (by decide) (shLw_fin w1)).up (Nat.le_of_ble_eq_true rfl)) (by show kz.1 + (0) ≤ 601024; have : 0 ≤ 15 := (by first | omega | (split <;> omega)); omega) (by show kz.2 + (0) ≤ 7293034; have : 0 ≤ 15690 := (by first | omega | (split <;> omega)); omega) dL_law_1383 (xMVf (ci := 11) rfl rfl (fun Q2 hQ2 => s_countJ (σ := xsel tM σ2) i3 hG2.1.2.1.1 (fun r2 ς h2 fr h9 => hQ2 _ _ ⟨_, rfl, _, rfl, h2.1, h2.2.1, h2.2.2.1, h2.2.2.2.1, h2.2.2.2.2.1, fr⟩))) rfl (Nat.le_of_ble_eq_true rfl) (fun r σ3 hk => ?_)
  obtain ⟨z2, rfl, ς, rfl, j1, j2, j3, j5, j6, j9⟩ := hk
  have j4 := KPx.same hkp hw9 hw10 (j3.trans i7)
  refine xs_pop hC dL_law_1386 ?_
  refine xs_goto (tgt := 1390) hC dL_law_1387 rfl ?_
  exact hend _ w1 a2 ρ2 _ ⟨(LI.ref i1 i2 j1 (by omega) j4 (hT0.nx (i8.trans hkt.1) (i9.trans hkt.2) (j5.trans i10) (j6.trans i11) (by omega)) i5), GL.fin ((hG2.cls hst).fr j9 (by decide) (by decide)) hlo⟩ (hkz.st (k1 := 0) (k2 := 0) hw13 (by decide) (by decide))
end XP
