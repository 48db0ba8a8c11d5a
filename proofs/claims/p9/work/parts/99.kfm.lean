theorem q_1_0 : Cond.initialized RL ∈ gw := gw_1 0 (by decide +kernel) rfl
theorem q_2_164 : Cond.methodLink RL 27 yX10_feed ∈ gw := gw_2 164 (by decide +kernel) rfl
theorem q_2_165 : Cond.instanceMethod yX10_feed ∈ gw := gw_2 165 (by decide +kernel) rfl
theorem q_2_166 : Cond.selects RX10 yX10_feed yX10_feed ∈ gw := gw_2 166 (by decide +kernel) rfl
theorem q_2_167 : Cond.code yX10_feed cX10_feed 6 (some .int) ∈ gw := gw_2 167 (by decide +kernel) rfl
theorem q_2_172 : Cond.methodLink RL 32 yX10_end ∈ gw := gw_2 172 (by decide +kernel) rfl
theorem q_2_173 : Cond.instanceMethod yX10_end ∈ gw := gw_2 173 (by decide +kernel) rfl
theorem q_2_174 : Cond.selects RX10 yX10_end yX10_end ∈ gw := gw_2 174 (by decide +kernel) rfl
theorem q_2_175 : Cond.code yX10_end cX10_end 2 (some .boolean) ∈ gw := gw_2 175 (by decide +kernel) rfl
theorem q_2_176 : Cond.methodLink RL 37 yX10_table ∈ gw := gw_2 176 (by decide +kernel) rfl
theorem q_2_177 : Cond.instanceMethod yX10_table ∈ gw := gw_2 177 (by decide +kernel) rfl
theorem q_2_178 : Cond.selects RX10 yX10_table yX10_table ∈ gw := gw_2 178 (by decide +kernel) rfl
theorem q_2_179 : Cond.code yX10_table cX10_table 2 (some .int) ∈ gw := gw_2 179 (by decide +kernel) rfl
theorem q_3_107 : Cond.methodLink RL 42 yX10_fault ∈ gw := gw_3 107 (by decide +kernel) rfl
theorem q_3_108 : Cond.instanceMethod yX10_fault ∈ gw := gw_3 108 (by decide +kernel) rfl
theorem q_3_109 : Cond.selects RX10 yX10_fault yX10_fault ∈ gw := gw_3 109 (by decide +kernel) rfl
theorem q_3_110 : Cond.code yX10_fault cX10_fault 1 (some .int) ∈ gw := gw_3 110 (by decide +kernel) rfl
theorem q_3_111 : Cond.methodLink RL 52 yX10_person ∈ gw := gw_3 111 (by decide +kernel) rfl
theorem q_3_112 : Cond.instanceMethod yX10_person ∈ gw := gw_3 112 (by decide +kernel) rfl
theorem q_3_113 : Cond.selects RX10 yX10_person yX10_person ∈ gw := gw_3 113 (by decide +kernel) rfl
theorem q_3_114 : Cond.code yX10_person cX10_person 3 (some .int) ∈ gw := gw_3 114 (by decide +kernel) rfl
theorem q_3_131 : Cond.methodLink RL 56 yX10_book ∈ gw := gw_3 131 (by decide +kernel) rfl
theorem q_3_132 : Cond.instanceMethod yX10_book ∈ gw := gw_3 132 (by decide +kernel) rfl
theorem q_3_133 : Cond.selects RX10 yX10_book yX10_book ∈ gw := gw_3 133 (by decide +kernel) rfl
theorem q_3_134 : Cond.code yX10_book cX10_book 2 (some .int) ∈ gw := gw_3 134 (by decide +kernel) rfl
theorem q_3_139 : Cond.methodLink RL 61 yX10_heap ∈ gw := gw_3 139 (by decide +kernel) rfl
theorem q_3_140 : Cond.instanceMethod yX10_heap ∈ gw := gw_3 140 (by decide +kernel) rfl
theorem q_3_141 : Cond.selects RX10 yX10_heap yX10_heap ∈ gw := gw_3 141 (by decide +kernel) rfl
theorem q_3_142 : Cond.code yX10_heap cX10_heap 2 (some .int) ∈ gw := gw_3 142 (by decide +kernel) rfl
theorem q_3_147 : Cond.methodLink RL 65 yX10_now ∈ gw := gw_3 147 (by decide +kernel) rfl
theorem q_3_148 : Cond.instanceMethod yX10_now ∈ gw := gw_3 148 (by decide +kernel) rfl
theorem q_3_149 : Cond.selects RX10 yX10_now yX10_now ∈ gw := gw_3 149 (by decide +kernel) rfl
theorem q_3_150 : Cond.code yX10_now cX10_now 2 (some .int) ∈ gw := gw_3 150 (by decide +kernel) rfl
theorem q_3_161 : Cond.methodLink RL 69 yX10_why ∈ gw := gw_3 161 (by decide +kernel) rfl
theorem q_3_162 : Cond.instanceMethod yX10_why ∈ gw := gw_3 162 (by decide +kernel) rfl
theorem q_3_163 : Cond.selects RX10 yX10_why yX10_why ∈ gw := gw_3 163 (by decide +kernel) rfl
theorem q_3_164 : Cond.code yX10_why cX10_why 4 (some .int) ∈ gw := gw_3 164 (by decide +kernel) rfl
theorem q_5_225 : Cond.methodLink RL 46 yL_hand ∈ gw := gw_5 225 (by decide +kernel) rfl
theorem q_5_226 : Cond.static yL_hand ∈ gw := gw_5 226 (by decide +kernel) rfl
theorem q_5_227 : Cond.codeWith yL_hand cL_hand 5 (some .int) [(0, 10, 13, 13)] ∈ gw := gw_5 227 (by decide +kernel) rfl
theorem q_6_84 : Cond.methodLink RL 31 yX11_feed ∈ gw := gw_6 84 (by decide +kernel) rfl
theorem q_6_85 : Cond.instanceMethod yX11_feed ∈ gw := gw_6 85 (by decide +kernel) rfl
theorem q_6_86 : Cond.selects RX11 yX11_feed yX11_feed ∈ gw := gw_6 86 (by decide +kernel) rfl
theorem q_6_87 : Cond.code yX11_feed cX11_feed 6 (some .int) ∈ gw := gw_6 87 (by decide +kernel) rfl
theorem q_6_93 : Cond.methodLink RL 36 yX11_end ∈ gw := gw_6 93 (by decide +kernel) rfl
theorem q_6_94 : Cond.instanceMethod yX11_end ∈ gw := gw_6 94 (by decide +kernel) rfl
theorem q_6_95 : Cond.selects RX11 yX11_end yX11_end ∈ gw := gw_6 95 (by decide +kernel) rfl
theorem q_6_96 : Cond.code yX11_end cX11_end 2 (some .boolean) ∈ gw := gw_6 96 (by decide +kernel) rfl
theorem q_7_79 : Cond.methodLink RL 41 yX11_table ∈ gw := gw_7 79 (by decide +kernel) rfl
theorem q_7_80 : Cond.instanceMethod yX11_table ∈ gw := gw_7 80 (by decide +kernel) rfl
theorem q_7_81 : Cond.selects RX11 yX11_table yX11_table ∈ gw := gw_7 81 (by decide +kernel) rfl
theorem q_7_82 : Cond.code yX11_table cX11_table 2 (some .int) ∈ gw := gw_7 82 (by decide +kernel) rfl
theorem q_7_183 : Cond.methodLink RL 45 yX11_fault ∈ gw := gw_7 183 (by decide +kernel) rfl
theorem q_7_184 : Cond.instanceMethod yX11_fault ∈ gw := gw_7 184 (by decide +kernel) rfl
theorem q_7_185 : Cond.selects RX11 yX11_fault yX11_fault ∈ gw := gw_7 185 (by decide +kernel) rfl
theorem q_7_186 : Cond.code yX11_fault cX11_fault 1 (some .int) ∈ gw := gw_7 186 (by decide +kernel) rfl
theorem q_7_187 : Cond.methodLink RL 51 yX11_hand ∈ gw := gw_7 187 (by decide +kernel) rfl
theorem q_7_188 : Cond.instanceMethod yX11_hand ∈ gw := gw_7 188 (by decide +kernel) rfl
theorem q_7_189 : Cond.selects RX11 yX11_hand yX11_hand ∈ gw := gw_7 189 (by decide +kernel) rfl
theorem q_7_190 : Cond.code yX11_hand cX11_hand 3 (some .int) ∈ gw := gw_7 190 (by decide +kernel) rfl
theorem q_7_203 : Cond.methodLink RL 55 yX11_person ∈ gw := gw_7 203 (by decide +kernel) rfl
theorem q_7_204 : Cond.instanceMethod yX11_person ∈ gw := gw_7 204 (by decide +kernel) rfl
theorem q_7_205 : Cond.selects RX11 yX11_person yX11_person ∈ gw := gw_7 205 (by decide +kernel) rfl
theorem q_7_206 : Cond.code yX11_person cX11_person 5 (some .int) ∈ gw := gw_7 206 (by decide +kernel) rfl
theorem q_7_211 : Cond.methodLink RL 60 yX11_book ∈ gw := gw_7 211 (by decide +kernel) rfl
theorem q_7_212 : Cond.instanceMethod yX11_book ∈ gw := gw_7 212 (by decide +kernel) rfl
theorem q_7_213 : Cond.selects RX11 yX11_book yX11_book ∈ gw := gw_7 213 (by decide +kernel) rfl
theorem q_7_214 : Cond.code yX11_book cX11_book 2 (some .int) ∈ gw := gw_7 214 (by decide +kernel) rfl
theorem q_7_215 : Cond.methodLink RL 64 yX11_heap ∈ gw := gw_7 215 (by decide +kernel) rfl
theorem q_7_216 : Cond.instanceMethod yX11_heap ∈ gw := gw_7 216 (by decide +kernel) rfl
theorem q_7_217 : Cond.selects RX11 yX11_heap yX11_heap ∈ gw := gw_7 217 (by decide +kernel) rfl
theorem q_7_218 : Cond.code yX11_heap cX11_heap 2 (some .int) ∈ gw := gw_7 218 (by decide +kernel) rfl
theorem q_7_219 : Cond.methodLink RL 68 yX11_now ∈ gw := gw_7 219 (by decide +kernel) rfl
theorem q_7_220 : Cond.instanceMethod yX11_now ∈ gw := gw_7 220 (by decide +kernel) rfl
theorem q_7_221 : Cond.selects RX11 yX11_now yX11_now ∈ gw := gw_7 221 (by decide +kernel) rfl
theorem q_7_222 : Cond.code yX11_now cX11_now 4 (some .int) ∈ gw := gw_7 222 (by decide +kernel) rfl
theorem q_7_227 : Cond.methodLink RL 73 yX11_why ∈ gw := gw_7 227 (by decide +kernel) rfl
theorem q_7_228 : Cond.instanceMethod yX11_why ∈ gw := gw_7 228 (by decide +kernel) rfl
theorem q_7_229 : Cond.selects RX11 yX11_why yX11_why ∈ gw := gw_7 229 (by decide +kernel) rfl
theorem q_7_230 : Cond.code yX11_why cX11_why 4 (some .int) ∈ gw := gw_7 230 (by decide +kernel) rfl
theorem LKz.r {n : Nat} {w : Nat → Bool} {kz : Nat × Nat} (h : LKz n w kz) (hn : n ≤ 512) : kz.1 ≤ 20000 ∧ kz.2 ≤ 2000000 := by
  obtain ⟨h1, h2⟩ := h
  have e1 : (if w 13 = true then 8 else 0) ≤ 8 := by split <;> omega
  have e2 : (if w 13 = true then 15684 else 0) ≤ 15684 := by split <;> omega
  exact ⟨by omega, by omega⟩
theorem LKz.st {n k1 k2 : Nat} {w w1 : Nat → Bool} {kz : Nat × Nat} (h : LKz n w kz) (hw : w 13 = true → w1 13 = true) (h1 : k1 ≤ 20) (h2 : k2 ≤ 2600) : LKz (n + 1) w1 (kz.1 + k1, kz.2 + k2) := by
  obtain ⟨h3, h4⟩ := h
  by_cases hb : w 13 = true
  · rw [if_pos hb] at h3 h4
    refine ⟨?_, ?_⟩
    · rw [if_pos (hw hb)]; show kz.1 + k1 ≤ _; omega
    · rw [if_pos (hw hb)]; show kz.2 + k2 ≤ _; omega
  · rw [if_neg hb] at h3 h4
    refine ⟨?_, ?_⟩
    · show kz.1 + k1 ≤ 100 + 20 * (n + 1) + _; omega
    · show kz.2 + k2 ≤ 210000 + 2600 * (n + 1) + _; omega
/-- the onlooker was called for -/
theorem LKz.on {n j : Nat} {w w1 : Nat → Bool} {kz : Nat × Nat} (h : LKz n w kz) (hw : w1 13 = true) (hj : j ≤ 1) : LKz (n + 1) w1 (kz.1 + ((if w 13 = true then 0 else 8) + j), kz.2 + ((if w 13 = true then 0 else 15684) + 6 * j)) := by
  obtain ⟨h3, h4⟩ := h
  by_cases hb : w 13 = true
  · rw [if_pos hb] at h3 h4
    refine ⟨?_, ?_⟩
    · show kz.1 + ((if w 13 = true then 0 else 8) + j) ≤ _; rw [if_pos hw, if_pos hb]; omega
    · show kz.2 + ((if w 13 = true then 0 else 15684) + 6 * j) ≤ _; rw [if_pos hw, if_pos hb]; omega
  · rw [if_neg hb] at h3 h4
    refine ⟨?_, ?_⟩
    · show kz.1 + ((if w 13 = true then 0 else 8) + j) ≤ _; rw [if_pos hw, if_neg hb]; omega
    · show kz.2 + ((if w 13 = true then 0 else 15684) + 6 * j) ≤ _; rw [if_pos hw, if_neg hb]; omega
theorem mcO_t (k : Nat) : mcO true k (fun w => (if w 13 = true then 0 else 8) + k) (fun w => (if w 13 = true then 0 else 15684) + 6 * k) := ⟨fun w => ⟨Nat.le_add_left _ _, Nat.le_add_left _ _⟩, fun _ w => ⟨Nat.le_refl _, Nat.le_refl _⟩⟩
theorem mcO_f (k : Nat) : mcO false k (fun _ => k) (fun _ => 6 * k) := ⟨fun w => ⟨Nat.le_refl _, Nat.le_refl _⟩, fun h => by cases h⟩
theorem RI.len2 {ts : List Nat} {σ σ' : xS} (h : RI σ) (f : Fr ts [0, 2] σ σ') (hts : ∀ t, t ∈ ts → t = 1) (hz : 0 ≤ σ' 0 2 ∧ σ' 0 2 ≤ 940) : RI σ' := by
  have e : ∀ t, 2 ≤ t → σ' t = σ t := fun t ht => f.1 t (by omega) (fun hm => by have := hts t hm; omega)
  unfold RI
  rw [e 2 (by omega), e 8 (by omega), e 25 (by omega), e 27 (by omega), f.2 27 (by decide), f.2 37 (by decide)]
  exact ⟨h.1, h.2.1, hz, h.2.2.2⟩
theorem KPx.same {w w1 : Nat → Bool} {f g : Nat → Int} (h : KPx w g) (h9 : w1 9 = w 9) (h10 : w1 10 = w 10) (hf : f = g) : KPx w1 f := by
  intro k hk
  have h2 := h k hk
  match k, hk, h2 with
  | 0, _, h2 => rw [hf]; show _ ↔ w1 9 = true; rw [h9]; exact h2
  | 1, _, h2 => rw [hf]; show _ ↔ w1 10 = true; rw [h10]; exact h2
theorem KPx.img {w w1 : Nat → Bool} {f g : Nat → Int} {k z z2 : Int} (h : KPx w g) (hi : imgR w k z w1) (hr : ((0 ≤ k ∧ k ≤ 1) ∧ z2 = 1 ∧ f = up g k.toNat 1) ∨ ((k < 0 ∨ 1 < k) ∧ z2 = 0 ∧ f = g)) : KPx w1 f ∧ z = z2 := by
  rcases hi with ⟨hk, hz, hw⟩ | ⟨hk, hz, rfl⟩
  · rcases hr with ⟨hk2, hz2, rfl⟩ | ⟨hk2, hz2, rfl⟩
    · refine ⟨fun j hj => ?_, by omega⟩
      rw [hw]
      by_cases hjk : j = k.toNat
      · rw [if_pos (Or.inl (by omega))]
        unfold up
        rw [if_pos hjk]
        exact ⟨fun _ => rfl, fun _ => by omega⟩
      · rw [if_neg (by omega)]
        unfold up
        rw [if_neg hjk]
        exact h j hj
    · omega
  · rcases hr with ⟨hk2, hz2, rfl⟩ | ⟨hk2, hz2, rfl⟩
    · omega
    · exact ⟨h, by omega⟩
theorem KPx.rest {w : Nat → Bool} {f g : Nat → Int} {k z z2 : Int} (h : KPx w g) (hi : restR w k z) (hr : ((0 ≤ k ∧ k ≤ 1) ∧ ¬ g k.toNat = 0 ∧ z2 = 1 ∧ f = g) ∨ (((k < 0 ∨ 1 < k) ∨ g k.toNat = 0) ∧ z2 = 0 ∧ f = g)) : KPx w f ∧ z = z2 := by
  unfold restR at hi
  rcases hr with ⟨hk2, h0, hz2, rfl⟩ | ⟨hk2, hz2, rfl⟩
  · refine ⟨h, ?_⟩
    rw [if_pos ⟨by omega, (h k.toNat (by omega)).mp h0⟩] at hi
    omega
  · refine ⟨h, ?_⟩
    rw [if_neg (fun h9 => by
      obtain ⟨h8, h7⟩ := h9
      rcases hk2 with hk2 | hk2
      · omega
      · exact (h k.toNat (by omega)).mpr h7 hk2)] at hi
    omega
theorem img13 {w w' : Nat → Bool} {k r : Int} (h : imgR w k r w') (h13 : w 13 = true) : w' 13 = true := by
  rcases h with ⟨hk, -, h⟩ | ⟨-, -, rfl⟩
  · rw [h 13]; split
    · rfl
    · exact h13
  · exact h13
section XP
variable {p : Program} {l : Launch} {e : Env} {s : State} {m : MethodId} {below : List Frame} {meth : Method} {c : Code}
variable {D : va_G} {yv : Nat → ClassId} {a : Nat → Nat} {ρ : Nat → Nat → Option Nat} {A : Nat → Prop} {kz : Nat × Nat} {Qm : State → Prop} {σ : xS} {w : Nat → Bool} {b Lx n : Nat} {xs : Nat → Int32} {ad : Nat → Nat} {i : Int}
set_option maxHeartbeats 4000000 in
set_option maxRecDepth 100000 in
theorem law_0 (hL : LC p l s m meth c D yv A b Lx xs ad) (hI0 : LIG a ρ w σ b) (hkz : LKz n w kz) (hi : 0 ≤ i ∧ i + 5 < Lx) (hn : n ≤ 512) (hend : ∀ kz w a ρ σ, LIG a ρ w σ b → LKz (n + 1) w kz → XA kz p l e room_1 s m #[Value.ref b] below meth c D yv a ρ 224 (shLw w) A 8 Qm 1390 (lL i) [] σ) : XA kz p l e room_1 s m #[Value.ref b] below meth c D yv a ρ 224 (shLw w) A 8 Qm 204 (lL i) [] σ := by
  obtain ⟨hC, hYY, hX, hbl, hbA, hstt, hLx⟩ := hL
  obtain ⟨hI, hG⟩ := hI0
  have hr := hkz.r hn
  have hLx2 : (Lx : Int) ≤ 3072 := by omega
  refine xs_aload hC (i := 1) (x := 0) dL_law_204 rfl ?_
  refine xs_arg hC hX hbl hbA hI.2.2.2.2 rfl rfl ⟨by decide, by decide⟩ hi hLx2 dL_law_205 dL_law_206 dL_law_208 dL_law_209 dL_law_210 ?_
  refine xs_arg hC hX hbl hbA hI.2.2.2.2 rfl rfl ⟨by decide, by decide⟩ hi hLx2 dL_law_211 dL_law_212 dL_law_214 dL_law_215 dL_law_216 ?_
  refine xs_arg hC hX hbl hbA hI.2.2.2.2 rfl rfl ⟨by decide, by decide⟩ hi hLx2 dL_law_217 dL_law_218 dL_law_220 dL_law_221 dL_law_222 ?_
  refine xs_arg hC hX hbl hbA hI.2.2.2.2 rfl rfl ⟨by decide, by decide⟩ hi hLx2 dL_law_223 dL_law_224 dL_law_226 dL_law_227 dL_law_228 ?_
  refine xs_arg hC hX hbl hbA hI.2.2.2.2 rfl rfl ⟨by decide, by decide⟩ hi hLx2 dL_law_229 dL_law_230 dL_law_232 dL_law_233 dL_law_234 ?_
  refine vs_call (shf := shLw) (rest := []) (as' := [xvi (xs (i + 1).toNat).toInt, xvi (xs (i + 2).toNat).toInt, xvi (xs (i + 3).toNat).toInt, xvi (xs (i + 4).toNat).toInt, xvi (xs (i + 5).toNat).toInt]) (t := 0) (ci := 10) (n := 5) (K := fun r w' σ' => JW w' σ' ∧ RfF (xs (i + 1).toNat).toInt (xs (i + 2).toNat).toInt (xs (i + 3).toNat).toInt (xs (i + 4).toNat).toInt (xs (i + 5).toNat).toInt σ w r w' σ' ∧ STW w w' σ σ') (mgS 194 σ) (mgA 194 a) (mgR 194 ρ) (mg_ok 194 224 σ a ρ).1 (mg_ok 194 224 σ a ρ).2.1 (mg_ok 194 224 σ a ρ).2.2 hC hYY.1 (mvX10_feedK l D yv) (Nat.le_of_ble_eq_true rfl) vfamL q_2_164 q_2_165 q_2_166 q_1_1 q_2_167 rfl rfl (by decide +kernel) (by decide) (by show kz.1 + 0 ≤ 601024; omega) (by show kz.2 + 0 ≤ 7293034; omega) dL_law_235 (sh0 _) rfl (by decide) hI.1 (lLp (by rfl)) (lLp (by rfl)) ⟨_, _, _, _, _, rfl, hI.2.1, fun r w' σ' h1 h2 h3 => ⟨h1, h2, h3⟩⟩ (fun r w1 a1 ρ1 σ1 hk hLK1 hag1 => ?_)
  obtain ⟨hJ1, hR1, hst⟩ := hk
  obtain ⟨⟨z, rfl, hl1⟩, hw9, hw10, hw13, hk31⟩ := hR1
  have hI1 := hI.cls (N := 194) (Or.inl rfl) hLK1 hJ1
  have hG2 := hG.mg (σ1 := σ1) (N := 194) (by omega)
  have hlo : ∀ t, t < 194 → mgS 194 σ σ1 t = σ1 t := fun t ht => if_pos (by omega)
  generalize mgA 194 a a1 = a2, mgR 194 ρ ρ1 = ρ2, mgS 194 σ σ1 = σ2 at hI1 hG2 hlo ⊢
  obtain ⟨i1, i2, i3, i4, i5, i6, i7, i8, i9, i10, i11⟩ := hI1
  obtain ⟨hh, hkp, hT0⟩ := hI.2.2.2.1
  have h01 : 0 ≤ σ 0 1 ∧ σ 0 1 ≤ 940 := hI.2.1.1.1
  refine xs_pop hC dL_law_238 ?_
  refine xs_aload hC (i := 2) (x := 196) dL_law_239 rfl ?_
  refine xs_arg hC hX hbl hbA i5 rfl rfl ⟨by decide, by decide⟩ hi hLx2 dL_law_240 dL_law_241 dL_law_243 dL_law_244 dL_law_245 ?_
  refine xs_arg hC hX hbl hbA i5 rfl rfl ⟨by decide, by decide⟩ hi hLx2 dL_law_246 dL_law_247 dL_law_249 dL_law_250 dL_law_251 ?_
  refine xs_arg hC hX hbl hbA i5 rfl rfl ⟨by decide, by decide⟩ hi hLx2 dL_law_252 dL_law_253 dL_law_255 dL_law_256 dL_law_257 ?_
  refine xs_arg hC hX hbl hbA i5 rfl rfl ⟨by decide, by decide⟩ hi hLx2 dL_law_258 dL_law_259 dL_law_261 dL_law_262 dL_law_263 ?_
  refine xs_arg hC hX hbl hbA i5 rfl rfl ⟨by decide, by decide⟩ hi hLx2 dL_law_264 dL_law_265 dL_law_267 dL_law_268 dL_law_269 ?_
  refine xs_ck (as := [xvr 196, xvi (xs (i + 1).toNat).toInt, xvi (xs (i + 2).toNat).toInt, xvi (xs (i + 3).toNat).toInt, xvi (xs (i + 4).toNat).toInt, xvi (xs (i + 5).toNat).toInt]) (rest := []) (K := fun r σ' => ∃ z : Int, r = some (xvi z) ∧ ∃ ς, σ' = xbk tM σ2 ς ∧ RI ς ∧ (((σ2 196 2 ≤ 920 ∧ z = σ2 196 2 + 20 ∧ ς 0 2 = σ2 196 2 + 20) ∨ (920 < σ2 196 2 ∧ z = -1 ∧ ς 0 2 = σ2 196 2))) ∧ ς 27 = σ2 223 ∧ ς 1 = (if σ2 196 2 ≤ 920 then fd (σ2 197) (σ2 196 2) (xs (i + 1).toNat).toInt (xs (i + 2).toNat).toInt (xs (i + 3).toNat).toInt (xs (i + 4).toNat).toInt (xs (i + 5).toNat).toInt else σ2 197) ∧ ς 6 = σ2 202 ∧ Fr [1] [0, 2] (xsel tM σ2) ς) hC ((xCk_MV (n := 5) (τ := tM) (mX11_feed l D yv) (subM w1) q_6_84 q_6_85 q_6_86 q_1_15 q_6_87 rfl rfl (by decide +kernel) (by decide) (shLw_fin w1)).up (Nat.le_of_ble_eq_true rfl)) (by show kz.1 + (0) ≤ 601024; have : 0 ≤ 15 := (by first | omega | (split <;> omega)); omega) (by show kz.2 + (0) ≤ 7293034; have : 0 ≤ 15690 := (by first | omega | (split <;> omega)); omega) dL_law_270 (xMVf (ci := 11) rfl rfl (fun Q2 hQ2 => s_feedF (σ := xsel tM σ2) i3.2.2.1 (fun r2 ς f2 h2 => hQ2 _ _ ⟨_, rfl, _, rfl, i3.len2 f2 (fun t ht => List.mem_singleton.mp ht) (by have h9 : 0 ≤ σ2 196 2 ∧ σ2 196 2 ≤ 940 := i3.2.2.1; have h8 := (show (σ2 196 2 ≤ 920 ∧ r2 = σ2 196 2 + 20 ∧ ς 0 2 = σ2 196 2 + 20) ∨ (920 < σ2 196 2 ∧ r2 = -1 ∧ ς 0 2 = σ2 196 2) from h2.elim (fun h => Or.inl ⟨h.1, h.2.1, h.2.2.1⟩) (fun h => Or.inr ⟨h.1, h.2.1, h.2.2.1⟩)); omega), (show (σ2 196 2 ≤ 920 ∧ r2 = σ2 196 2 + 20 ∧ ς 0 2 = σ2 196 2 + 20) ∨ (920 < σ2 196 2 ∧ r2 = -1 ∧ ς 0 2 = σ2 196 2) from h2.elim (fun h => Or.inl ⟨h.1, h.2.1, h.2.2.1⟩) (fun h => Or.inr ⟨h.1, h.2.1, h.2.2.1⟩)), f2.1 27 (by decide) (by decide), (h2.elim (fun h => h.2.2.2.trans (if_pos h.1).symm) (fun h => h.2.2.2.trans (if_neg (show ¬ σ2 196 2 ≤ 920 from by have h8 : 920 < σ2 196 2 := h.1; omega)).symm)), f2.1 6 (by decide) (by decide), f2⟩))) rfl (Nat.le_of_ble_eq_true rfl) (fun r σ3 hk => ?_)
  obtain ⟨z2, rfl, ς, rfl, j1, j2, j3, j5, j6, j9⟩ := hk
  have j4 := KPx.same hkp hw9 hw10 (j3.trans i7)
  refine xs_pop hC dL_law_273 ?_
  refine xs_goto (tgt := 1390) hC dL_law_274 rfl ?_
  have hTF : TPx (σ2 1) (ς 1) (σ2 0 1) ∧ WDS (σ2 31) ∧ ∀ j : Nat, j < 19 → ς 6 j = R8.getD j 0 := by
    rw [i8, i9, hk31, j5, j6, i10, i11, i6]
    refine ⟨?_, hT0.2⟩
    have h3 : σ2 196 2 = σ 0 1 := i4.trans hh.symm
    rcases hl1 with ⟨q1, q2, q3, q4⟩ | ⟨q1, q2, q3, q4⟩
    · rw [q4, q3, if_neg (by omega)]; exact hT0.1
    · rw [q4, q3, if_pos (by omega), h3]; exact hT0.1.fd h01.1
  exact hend _ w1 a2 ρ2 _ ⟨(LI.ref i1 i2 j1 (by omega) j4 hTF i5), GL.fin ((hG2.cls hst).fr j9 (by decide) (by decide)) hlo⟩ (hkz.st (k1 := 0) (k2 := 0) hw13 (by decide) (by decide))
set_option maxHeartbeats 4000000 in
set_option maxRecDepth 100000 in
theorem law_1 (hL : LC p l s m meth c D yv A b Lx xs ad) (hI0 : LIG a ρ w σ b) (hkz : LKz n w kz) (hi : 0 ≤ i ∧ i + 5 < Lx) (hn : n ≤ 512) (hend : ∀ kz w a ρ σ, LIG a ρ w σ b → LKz (n + 1) w kz → XA kz p l e room_1 s m #[Value.ref b] below meth c D yv a ρ 224 (shLw w) A 8 Qm 1390 (lL i) [] σ) : XA kz p l e room_1 s m #[Value.ref b] below meth c D yv a ρ 224 (shLw w) A 8 Qm 277 (lL i) [] σ := by
  obtain ⟨hC, hYY, hX, hbl, hbA, hstt, hLx⟩ := hL
  obtain ⟨hI, hG⟩ := hI0
  have hr := hkz.r hn
  have hLx2 : (Lx : Int) ≤ 3072 := by omega
  refine xs_aload hC (i := 1) (x := 0) dL_law_277 rfl ?_
  refine xs_arg hC hX hbl hbA hI.2.2.2.2 rfl rfl ⟨by decide, by decide⟩ hi hLx2 dL_law_278 dL_law_279 dL_law_281 dL_law_282 dL_law_283 ?_
  refine vs_call (shf := shLw) (rest := []) (as' := [xvi (xs (i + 1).toNat).toInt]) (t := 0) (ci := 10) (n := 1) (K := fun r w' σ' => JW w' σ' ∧ RendK [xvr 0, xvi (xs (i + 1).toNat).toInt] σ w r w' σ') (mgS 194 σ) (mgA 194 a) (mgR 194 ρ) (mg_ok 194 224 σ a ρ).1 (mg_ok 194 224 σ a ρ).2.1 (mg_ok 194 224 σ a ρ).2.2 hC hYY.1 (mvX10_endK l D yv) (Nat.le_of_ble_eq_true rfl) vfamL q_2_172 q_2_173 q_2_174 q_1_1 q_2_175 rfl rfl (by decide +kernel) (by decide) (by show kz.1 + 0 ≤ 601024; omega) (by show kz.2 + 0 ≤ 7293034; omega) dL_law_284 (sh0 _) rfl (by decide) hI.1 (lLp (by rfl)) (lLp (by rfl)) ⟨hI.2.1, ⟨_, rfl⟩, fun r w' σ' h1 h2 => ⟨h1, h2⟩⟩ (fun r w1 a1 ρ1 σ1 hk hLK1 hag1 => ?_)
  obtain ⟨hJ1, hR1⟩ := hk
  obtain ⟨⟨z, rfl, hl1⟩, hw9, ⟨hw10, hw13, hkt⟩, hst⟩ := hR1
  replace hl1 := hl1 _ rfl
  have hI1 := hI.cls (N := 194) (Or.inl rfl) hLK1 hJ1
  have hG2 := hG.mg (σ1 := σ1) (N := 194) (by omega)
  have hlo : ∀ t, t < 194 → mgS 194 σ σ1 t = σ1 t := fun t ht => if_pos (by omega)
  generalize mgA 194 a a1 = a2, mgR 194 ρ ρ1 = ρ2, mgS 194 σ σ1 = σ2 at hI1 hG2 hlo ⊢
  obtain ⟨i1, i2, i3, i4, i5, i6, i7, i8, i9, i10, i11⟩ := hI1
  obtain ⟨hh, hkp, hT0⟩ := hI.2.2.2.1
  have h01 : 0 ≤ σ 0 1 ∧ σ 0 1 ≤ 940 := hI.2.1.1.1
  refine xs_pop hC dL_law_287 ?_
  refine xs_aload hC (i := 2) (x := 196) dL_law_288 rfl ?_
  refine xs_arg hC hX hbl hbA i5 rfl rfl ⟨by decide, by decide⟩ hi hLx2 dL_law_289 dL_law_290 dL_law_292 dL_law_293 dL_law_294 ?_
  refine xs_ck (as := [xvr 196, xvi (xs (i + 1).toNat).toInt]) (rest := []) (K := fun r σ' => ∃ z : Int, r = some (xvi z) ∧ ∃ ς, σ' = xbk tM σ2 ς ∧ RI ς ∧ (((z = 1 ∧ 0 ≤ (xs (i + 1).toNat).toInt ∧ (xs (i + 1).toNat).toInt ≤ σ2 196 2 ∧ ς 0 2 = (xs (i + 1).toNat).toInt) ∨ (z = 0 ∧ ((xs (i + 1).toNat).toInt < 0 ∨ σ2 196 2 < (xs (i + 1).toNat).toInt) ∧ ς 0 2 = σ2 196 2))) ∧ ς 27 = σ2 223 ∧ ς 1 = σ2 197 ∧ ς 6 = σ2 202 ∧ Fr [] [0, 2] (xsel tM σ2) ς) hC ((xCk_MV (n := 1) (τ := tM) (mX11_end l D yv) (subM w1) q_6_93 q_6_94 q_6_95 q_1_15 q_6_96 rfl rfl (by decide +kernel) (by decide) (shLw_fin w1)).up (Nat.le_of_ble_eq_true rfl)) (by show kz.1 + (0) ≤ 601024; have : 0 ≤ 15 := (by first | omega | (split <;> omega)); omega) (by show kz.2 + (0) ≤ 7293034; have : 0 ≤ 15690 := (by first | omega | (split <;> omega)); omega) dL_law_295 (xMVf (ci := 11) rfl rfl (fun Q2 hQ2 => s_end (σ := xsel tM σ2) i3.2.2.1 (fun r2 ς f2 h2 => hQ2 _ _ ⟨_, rfl, _, rfl, i3.len2 f2 (fun t ht => by cases ht) (by have h9 : 0 ≤ σ2 196 2 ∧ σ2 196 2 ≤ 940 := i3.2.2.1; have h8 : (r2 = 1 ∧ 0 ≤ (xs (i + 1).toNat).toInt ∧ (xs (i + 1).toNat).toInt ≤ σ2 196 2 ∧ ς 0 2 = (xs (i + 1).toNat).toInt) ∨ (r2 = 0 ∧ ((xs (i + 1).toNat).toInt < 0 ∨ σ2 196 2 < (xs (i + 1).toNat).toInt) ∧ ς 0 2 = σ2 196 2) := h2; omega), h2, f2.1 27 (by decide) (by decide), f2.1 1 (by decide) (by decide), f2.1 6 (by decide) (by decide), f2⟩))) rfl (Nat.le_of_ble_eq_true rfl) (fun r σ3 hk => ?_)
  obtain ⟨z2, rfl, ς, rfl, j1, j2, j3, j5, j6, j9⟩ := hk
  have j4 := KPx.same hkp hw9 hw10 (j3.trans i7)
  refine xs_pop hC dL_law_298 ?_
  refine xs_goto (tgt := 1390) hC dL_law_299 rfl ?_
  exact hend _ w1 a2 ρ2 _ ⟨(LI.ref i1 i2 j1 (by omega) j4 (hT0.nx (i8.trans hkt.1) (i9.trans hkt.2) (j5.trans i10) (j6.trans i11) (by omega)) i5), GL.fin ((hG2.cls hst).fr j9 (by decide) (by decide)) hlo⟩ (hkz.st (k1 := 0) (k2 := 0) hw13 (by decide) (by decide))
set_option maxHeartbeats 4000000 in
set_option maxRecDepth 100000 in
theorem law_2 (hL : LC p l s m meth c D yv A b Lx xs ad) (hI0 : LIG a ρ w σ b) (hkz : LKz n w kz) (hi : 0 ≤ i ∧ i + 5 < Lx) (hn : n ≤ 512) (hend : ∀ kz w a ρ σ, LIG a ρ w σ b → LKz (n + 1) w kz → XA kz p l e room_1 s m #[Value.ref b] below meth c D yv a ρ 224 (shLw w) A 8 Qm 1390 (lL i) [] σ) : XA kz p l e room_1 s m #[Value.ref b] below meth c D yv a ρ 224 (shLw w) A 8 Qm 302 (lL i) [] σ := by
  obtain ⟨hC, hYY, hX, hbl, hbA, hstt, hLx⟩ := hL
  obtain ⟨hI, hG⟩ := hI0
  have hr := hkz.r hn
  have hLx2 : (Lx : Int) ≤ 3072 := by omega
  refine xs_aload hC (i := 1) (x := 0) dL_law_302 rfl ?_
  refine vs_call (shf := shLw) (rest := []) (as' := []) (t := 0) (ci := 10) (n := 0) (K := fun r w' σ' => JW w' σ' ∧ (σ' 0 1 = 0 ∧ keptW w w σ σ') ∧ (Fr [30, 32, 33, 2, 3, 4, 5, 6, 7, 8, 9, 10, 11, 12, 13, 14, 15, 16, 17, 18, 19, 20, 21, 22, 23, 24, 25, 26, 27, 28, 39] [1, 2] σ σ' ∧ ∃ z : Int, r = some (xvi z) ∧ ∃ s, TS0 s ∧ TBC s σ σ' z) ∧ w' = w) (mgS 194 σ) (mgA 194 a) (mgR 194 ρ) (mg_ok 194 224 σ a ρ).1 (mg_ok 194 224 σ a ρ).2.1 (mg_ok 194 224 σ a ρ).2.2 hC hYY.1 (mvX10_tableC l D yv) (Nat.le_of_ble_eq_true rfl) vfamL q_2_176 q_2_177 q_2_178 q_1_1 q_2_179 rfl rfl (by decide +kernel) (by decide) (by show kz.1 + 0 ≤ 601024; omega) (by show kz.2 + 0 ≤ 7293034; omega) dL_law_303 (sh0 _) rfl (by decide) hI.1 (lLp (by rfl)) (lLp (by rfl)) ⟨hI.2.1, rfl, hI.2.2.2.1.2.2.2.1, fun r σ' h1 h2 h3 h4 h5 => ⟨h1, ⟨h4, h2⟩, ⟨h3, _, rfl, h5⟩, rfl⟩⟩ (fun r w1 a1 ρ1 σ1 hk hLK1 hag1 => ?_)
  obtain ⟨hJ1, ⟨hl1, _, _, hkt⟩, ⟨hfc, z, rfl, sx, hS0, hcr⟩, rfl⟩ := hk
  have hw9 : w1 9 = w1 9 := rfl
  have hw10 : w1 10 = w1 10 := rfl
  have hw13 : w1 13 = true → w1 13 = true := fun h => h
  have hI1 := hI.cls (N := 194) (Or.inl rfl) hLK1 hJ1
  have hG2 := hG.mg (σ1 := σ1) (N := 194) (by omega)
  have hlo : ∀ t, t < 194 → mgS 194 σ σ1 t = σ1 t := fun t ht => if_pos (by omega)
  generalize mgA 194 a a1 = a2, mgR 194 ρ ρ1 = ρ2, mgS 194 σ σ1 = σ2 at hI1 hG2 hlo ⊢
  obtain ⟨i1, i2, i3, i4, i5, i6, i7, i8, i9, i10, i11⟩ := hI1
  obtain ⟨hh, hkp, hT0⟩ := hI.2.2.2.1
  have h01 : 0 ≤ σ 0 1 ∧ σ 0 1 ≤ 940 := hI.2.1.1.1
  refine xs_pop hC dL_law_306 ?_
  refine xs_aload hC (i := 2) (x := 196) dL_law_307 rfl ?_
  obtain ⟨σ9, h9⟩ : ∃ σ9, σ9 = nrm σ2 198 765 := ⟨_, rfl⟩
  have hne : ∀ t, t ≠ 198 → σ9 t = σ2 t := fun t ht => by rw [h9]; exact nrm_ne ht
  have hlt : ∀ j, j < 765 → σ9 198 j = σ2 198 j := fun j hj => by rw [h9]; exact nrm_lt hj
  have hNZ : ∀ j : Nat, 765 ≤ j → xsel tM σ9 2 j = 0 := fun j hj => by show σ9 198 j = 0; rw [h9]; exact nrm_ge hj
  refine XA.rng (σ' := σ9) (fun t => ?_) ?_
  · by_cases c : t = 198
    · subst c; exact Or.inr ⟨1, 765, [], rfl, hlt⟩
    · exact Or.inl (hne t c)
  replace i2 : JW w1 σ9 := i2.hi (fun t ht => hne t (by omega))
  replace i3 : RI (xsel tM σ9) := i3.row hlt (hne 204 (by decide)) (hne 221 (by decide)) (hne 223 (by decide)) (congrFun (hne 196 (by decide)) 2) (congrFun (hne 196 (by decide)) 27) (congrFun (hne 196 (by decide)) 37)
  replace i4 : σ9 196 2 = σ 196 2 := (congrFun (hne 196 (by decide)) 2).trans i4
  replace i6 : σ9 0 1 = σ1 0 1 := (congrFun (hne 0 (by decide)) 1).trans i6
  replace i7 : σ9 223 = σ 223 := (hne 223 (by decide)).trans i7
  replace i8 : σ9 1 = σ1 1 := (hne 1 (by decide)).trans i8
  replace i9 : σ9 31 = σ1 31 := (hne 31 (by decide)).trans i9
  replace i10 : σ9 197 = σ 197 := (hne 197 (by decide)).trans i10
  replace i11 : σ9 202 = σ 202 := (hne 202 (by decide)).trans i11
  replace hlo : ∀ t, t < 194 → σ9 t = σ1 t := fun t ht => (hne t (by omega)).trans (hlo t ht)
  replace hG2 : GL w1 σ (xsel tM σ9) := hG2.rr (fun i hi => hlt i (by omega)) (fun q _ => congrFun (hne 201 (by decide)) q) (hne 203 (by decide)) (hne 204 (by decide)) (hne 221 (by decide)) (hne 222 (by decide)) (hne 223 (by decide)) (congrFun (hne 196 (by decide)) 24) (congrFun (hne 196 (by decide)) 27)
  refine xs_ck (as := [xvr 196]) (rest := []) (K := fun r σ' => ∃ z : Int, r = some (xvi z) ∧ ∃ ς, σ' = xbk tM σ9 ς ∧ RI ς ∧ (ς 0 2 = 0) ∧ ς 27 = σ9 223 ∧ ς 1 = σ9 197 ∧ ς 6 = σ9 202 ∧ (Fr [2, 3, 5] [0, 2, 3, 4, 5, 11, 12, 13, 14, 15, 16, 17, 18, 19, 20, 21, 22, 27] (xsel tM σ9) ς ∧ (TBR sx (xsel tM σ9) ς z))) hC ((xCk_MV (n := 0) (τ := tM) (mX11_table l D yv) (subM w1) q_7_79 q_7_80 q_7_81 q_1_15 q_7_82 rfl rfl (by decide +kernel) (by decide) (shLw_fin w1)).up (Nat.le_of_ble_eq_true rfl)) (by show kz.1 + (0) ≤ 601024; have : 0 ≤ 15 := (by first | omega | (split <;> omega)); omega) (by show kz.2 + (0) ≤ 7293034; have : 0 ≤ 15690 := (by first | omega | (split <;> omega)); omega) dL_law_308 (xMVf (ci := 11) rfl rfl (fun Q2 hQ2 => s_tableJ (s := sx) (σ := xsel tM σ9) i3 (by show BYx (σ9 197) (σ9 196 2); rw [i10, i4, ← hh]; exact fun i hi => (hT0.1 i hi).2) (by show ∀ j : Nat, j < 19 → σ9 202 j = R8.getD j 0; rw [i11]; exact hT0.2.2) hS0 hNZ (fun r2 ς h2 fr h9 => hQ2 _ _ ⟨_, rfl, _, rfl, h2.1, h2.2.1, h2.2.2.1, h2.2.2.2.1, h2.2.2.2.2, ⟨fr, h9⟩⟩))) rfl (Nat.le_of_ble_eq_true rfl) (fun r σ3 hk => ?_)
  obtain ⟨z2, rfl, ς, rfl, j1, j2, j3, j5, j6, j9⟩ := hk
  have j4 := KPx.same hkp hw9 hw10 (j3.trans i7)
  refine xs_pop hC dL_law_311 ?_
  refine xs_goto (tgt := 1390) hC dL_law_312 rfl ?_
  exact hend _ w1 a2 ρ2 _ ⟨(LI.ref i1 i2 j1 (by omega) j4 (hT0.nx (i8.trans hkt.1) (i9.trans hkt.2) (j5.trans i10) (j6.trans i11) (by omega)) i5), GL.fin ((hG2.table (show ALx (σ 1) (σ9 197) (σ 0 1) from fun i hi => by rw [i10]; exact (hT0.1 i hi).1) (show σ 0 1 = σ9 196 2 from hh.trans i4.symm) hcr hfc hJ1.p.1 j9.1 j9.2).1) hlo⟩ (hkz.st (k1 := 0) (k2 := 0) hw13 (by decide) (by decide))
set_option maxHeartbeats 4000000 in
set_option maxRecDepth 100000 in
theorem law_3 (hL : LC p l s m meth c D yv A b Lx xs ad) (hI0 : LIG a ρ w σ b) (hkz : LKz n w kz) (hi : 0 ≤ i ∧ i + 5 < Lx) (hn : n ≤ 512) (hend : ∀ kz w a ρ σ, LIG a ρ w σ b → LKz (n + 1) w kz → XA kz p l e room_1 s m #[Value.ref b] below meth c D yv a ρ 224 (shLw w) A 8 Qm 1390 (lL i) [] σ) : XA kz p l e room_1 s m #[Value.ref b] below meth c D yv a ρ 224 (shLw w) A 8 Qm 315 (lL i) [] σ := by
  obtain ⟨hC, hYY, hX, hbl, hbA, hstt, hLx⟩ := hL
  obtain ⟨hI, hG⟩ := hI0
  have hr := hkz.r hn
  have hLx2 : (Lx : Int) ≤ 3072 := by omega
  refine xs_aload hC (i := 1) (x := 0) dL_law_315 rfl ?_
  refine vs_call (shf := shLw) (rest := []) (as' := []) (t := 0) (ci := 10) (n := 0) (K := fun r w' σ' => JW w' σ' ∧ RsK [xvr 0] σ w r w' σ') (mgS 194 σ) (mgA 194 a) (mgR 194 ρ) (mg_ok 194 224 σ a ρ).1 (mg_ok 194 224 σ a ρ).2.1 (mg_ok 194 224 σ a ρ).2.2 hC hYY.1 (mvX10_faultK l D yv) (Nat.le_of_ble_eq_true rfl) vfamL q_3_107 q_3_108 q_3_109 q_1_1 q_3_110 rfl rfl (by decide +kernel) (by decide) (by show kz.1 + 0 ≤ 601024; omega) (by show kz.2 + 0 ≤ 7293034; omega) dL_law_316 (sh0 _) rfl (by decide) hI.1 (lLp (by rfl)) (lLp (by rfl)) ⟨hI.2.1, rfl, fun r w' σ' h1 h2 => ⟨h1, h2⟩⟩ (fun r w1 a1 ρ1 σ1 hk hLK1 hag1 => ?_)
  obtain ⟨hJ1, hR1⟩ := hk
  obtain ⟨⟨z, rfl⟩, hl1, hw9, ⟨hw10, hw13, hkt⟩, hst⟩ := hR1
  have hI1 := hI.cls (N := 194) (Or.inl rfl) hLK1 hJ1
  have hG2 := hG.mg (σ1 := σ1) (N := 194) (by omega)
  have hlo : ∀ t, t < 194 → mgS 194 σ σ1 t = σ1 t := fun t ht => if_pos (by omega)
  generalize mgA 194 a a1 = a2, mgR 194 ρ ρ1 = ρ2, mgS 194 σ σ1 = σ2 at hI1 hG2 hlo ⊢
  obtain ⟨i1, i2, i3, i4, i5, i6, i7, i8, i9, i10, i11⟩ := hI1
  obtain ⟨hh, hkp, hT0⟩ := hI.2.2.2.1
  have h01 : 0 ≤ σ 0 1 ∧ σ 0 1 ≤ 940 := hI.2.1.1.1
  refine xs_pop hC dL_law_319 ?_
  refine xs_aload hC (i := 2) (x := 196) dL_law_320 rfl ?_
  refine xs_ck (as := [xvr 196]) (rest := []) (K := fun r σ' => ∃ z : Int, r = some (xvi z) ∧ ∃ ς, σ' = xbk tM σ2 ς ∧ RI ς ∧ (ς 0 2 = σ2 196 2) ∧ ς 27 = σ2 223 ∧ ς 1 = σ2 197 ∧ ς 6 = σ2 202 ∧ Fr [] [0] (xsel tM σ2) ς) hC ((xCk_MV (n := 0) (τ := tM) (mX11_fault l D yv) (subM w1) q_7_183 q_7_184 q_7_185 q_1_15 q_7_186 rfl rfl (by decide +kernel) (by decide) (shLw_fin w1)).up (Nat.le_of_ble_eq_true rfl)) (by show kz.1 + (0) ≤ 601024; have : 0 ≤ 15 := (by first | omega | (split <;> omega)); omega) (by show kz.2 + (0) ≤ 7293034; have : 0 ≤ 15690 := (by first | omega | (split <;> omega)); omega) dL_law_321 (xMVf (ci := 11) rfl rfl (fun Q2 hQ2 => s_faultJ (σ := xsel tM σ2) i3 hG2.1.2.1.1 (fun r2 ς h2 fr h9 => hQ2 _ _ ⟨_, rfl, _, rfl, h2.1, h2.2.1, h2.2.2.1, h2.2.2.2.1, h2.2.2.2.2.1, fr⟩))) rfl (Nat.le_of_ble_eq_true rfl) (fun r σ3 hk => ?_)
  obtain ⟨z2, rfl, ς, rfl, j1, j2, j3, j5, j6, j9⟩ := hk
  have j4 := KPx.same hkp hw9 hw10 (j3.trans i7)
  refine xs_pop hC dL_law_324 ?_
  refine xs_goto (tgt := 1390) hC dL_law_325 rfl ?_
  exact hend _ w1 a2 ρ2 _ ⟨(LI.ref i1 i2 j1 (by omega) j4 (hT0.nx (i8.trans hkt.1) (i9.trans hkt.2) (j5.trans i10) (j6.trans i11) (by omega)) i5), GL.fin ((hG2.cls hst).fr j9 (by decide) (by decide)) hlo⟩ (hkz.st (k1 := 0) (k2 := 0) hw13 (by decide) (by decide))
set_option maxHeartbeats 4000000 in
set_option maxRecDepth 100000 in
theorem law_4 (hL : LC p l s m meth c D yv A b Lx xs ad) (hI0 : LIG a ρ w σ b) (hkz : LKz n w kz) (hi : 0 ≤ i ∧ i + 5 < Lx) (hn : n ≤ 512) (hend : ∀ kz w a ρ σ, LIG a ρ w σ b → LKz (n + 1) w kz → XA kz p l e room_1 s m #[Value.ref b] below meth c D yv a ρ 224 (shLw w) A 8 Qm 1390 (lL i) [] σ) : XA kz p l e room_1 s m #[Value.ref b] below meth c D yv a ρ 224 (shLw w) A 8 Qm 328 (lL i) [] σ := by
  obtain ⟨hC, hYY, hX, hbl, hbA, hstt, hLx⟩ := hL
  obtain ⟨hI, hG⟩ := hI0
  have hr := hkz.r hn
  have hLx2 : (Lx : Int) ≤ 3072 := by omega
  refine xs_aload hC (i := 1) (x := 0) dL_law_328 rfl ?_
  refine xs_arg hC hX hbl hbA hI.2.2.2.2 rfl rfl ⟨by decide, by decide⟩ hi hLx2 dL_law_329 dL_law_330 dL_law_332 dL_law_333 dL_law_334 ?_
  refine xs_arg hC hX hbl hbA hI.2.2.2.2 rfl rfl ⟨by decide, by decide⟩ hi hLx2 dL_law_335 dL_law_336 dL_law_338 dL_law_339 dL_law_340 ?_
  refine xs_aload hC (i := 3) (x := 194) dL_law_341 rfl ?_
  refine gs_callS (as := [xvr 0, xvi (xs (i + 1).toNat).toInt, xvi (xs (i + 2).toNat).toInt, xvr 194]) (rest := []) (n := 4) (K := fun r w' σ' => JW w' σ' ∧ (∃ z : Int, r = some (xvi z)) ∧ RxK σ w w' σ') (mg_ok 195 224 σ a ρ) hC hYY (mL_handK l D yv ad hstt) (Nat.le_of_ble_eq_true rfl) q_5_225 q_5_226 q_1_0 q_5_227 (by decide +kernel) (Nat.le_of_ble_eq_true rfl) (by show kz.1 + (1) ≤ 601024; have : 1 ≤ 9 := (by first | omega | (split <;> omega)); omega) (by show kz.2 + (6) ≤ 7293034; have : 6 ≤ 15690 := (by first | omega | (split <;> omega)); omega) dL_law_342 rfl (by decide) hI.1 (lSp (by rfl)) (lSp (by rfl)) ⟨hI.2.1, ⟨_, _, rfl⟩, fun r w' σ' h1 h2 => ⟨h1, h2.1, h2.2⟩⟩ (fun r w1 a1 ρ1 σ1 hk hLK1 hag1 => ?_)
  obtain ⟨hJ1, ⟨z, rfl⟩, hR1⟩ := hk
  have hl1 : σ1 0 1 = σ 0 1 := hR1.1
  have hw9 : w1 9 = w 9 := hR1.2.1
  have hw10 : w1 10 = w 10 := hR1.2.2.1.1
  have hw13 : w 13 = true → w1 13 = true := hR1.2.2.1.2.1
  have hkt : KT σ σ1 := hR1.2.2.1.2.2
  have hst : STW w w1 σ σ1 := hR1.2.2.2
  have hI1 := hI.cls (N := 195) (Or.inr rfl) hLK1 hJ1
  have hG2 := hG.mg (σ1 := σ1) (N := 195) (by omega)
  have hlo : ∀ t, t < 194 → mgS 195 σ σ1 t = σ1 t := fun t ht => if_pos (by omega)
  generalize mgA 195 a a1 = a2, mgR 195 ρ ρ1 = ρ2, mgS 195 σ σ1 = σ2 at hI1 hG2 hlo ⊢
  obtain ⟨i1, i2, i3, i4, i5, i6, i7, i8, i9, i10, i11⟩ := hI1
  obtain ⟨hh, hkp, hT0⟩ := hI.2.2.2.1
  have h01 : 0 ≤ σ 0 1 ∧ σ 0 1 ≤ 940 := hI.2.1.1.1
  refine xs_istoreL hC dL_law_345 (Nat.le_of_ble_eq_true rfl) ?_
  show XA _ p l e room_1 s m _ below meth c D yv a2 ρ2 224 (shLw w1) A 8 Qm 347 [xvr 195, xvr 0, xvr 196, xvr 194, xvi i, xvi z, xvu, xvu] [] σ2
  refine xs_aload hC (i := 2) (x := 196) dL_law_347 rfl ?_
  refine xs_arg hC hX hbl hbA i5 rfl rfl ⟨by decide, by decide⟩ hi hLx2 dL_law_348 dL_law_349 dL_law_351 dL_law_352 dL_law_353 ?_
  refine xs_arg hC hX hbl hbA i5 rfl rfl ⟨by decide, by decide⟩ hi hLx2 dL_law_354 dL_law_355 dL_law_357 dL_law_358 dL_law_359 ?_
  refine xs_ck (as := [xvr 196, xvi (xs (i + 1).toNat).toInt, xvi (xs (i + 2).toNat).toInt]) (rest := []) (K := fun r σ' => ∃ z : Int, r = some (xvi z) ∧ ∃ ς, σ' = xbk tM σ2 ς ∧ RI ς ∧ (ς 0 2 = σ2 196 2) ∧ ς 27 = σ2 223 ∧ ς 1 = σ2 197 ∧ ς 6 = σ2 202 ∧ Fr [] [0] (xsel tM σ2) ς) hC ((xCk_MV (n := 2) (τ := tM) (mX11_hand l D yv) (subM w1) q_7_187 q_7_188 q_7_189 q_1_15 q_7_190 rfl rfl (by decide +kernel) (by decide) (shLw_fin w1)).up (Nat.le_of_ble_eq_true rfl)) (by show kz.1 + (1) ≤ 601024; have : 1 ≤ 15 := (by first | omega | (split <;> omega)); omega) (by show kz.2 + (6) ≤ 7293034; have : 6 ≤ 15690 := (by first | omega | (split <;> omega)); omega) dL_law_360 (xMVf (ci := 11) rfl rfl (fun Q2 hQ2 => s_handJ (σ := xsel tM σ2) i3 hG2.1.2.1.1 (fun r2 ς h2 fr h9 => hQ2 _ _ ⟨_, rfl, _, rfl, h2.1, h2.2.1, h2.2.2.1, h2.2.2.2.1, h2.2.2.2.2.1, fr⟩))) rfl (Nat.le_of_ble_eq_true rfl) (fun r σ3 hk => ?_)
  obtain ⟨z2, rfl, ς, rfl, j1, j2, j3, j5, j6, j9⟩ := hk
  have j4 := KPx.same hkp hw9 hw10 (j3.trans i7)
  refine xs_istoreL hC dL_law_363 (Nat.le_of_ble_eq_true rfl) ?_
  show XA _ p l e room_1 s m _ below meth c D yv a2 ρ2 224 (shLw w1) A 8 Qm 365 [xvr 195, xvr 0, xvr 196, xvr 194, xvi i, xvi z, xvi z2, xvu] [] (xbk tM σ2 ς)
  refine xs_goto (tgt := 1390) hC dL_law_365 rfl ?_
  refine XA.forget 5 ?_
  refine XA.forget 6 ?_
  exact hend _ w1 a2 ρ2 _ ⟨(LI.ref i1 i2 j1 (by omega) j4 (hT0.nx (i8.trans hkt.1) (i9.trans hkt.2) (j5.trans i10) (j6.trans i11) (by omega)) i5), GL.fin ((hG2.cls hst).fr j9 (by decide) (by decide)) hlo⟩ (hkz.st (k1 := 1) (k2 := 6) hw13 (by decide) (by decide))
set_option maxHeartbeats 4000000 in
set_option maxRecDepth 100000 in
theorem law_5 (hL : LC p l s m meth c D yv A b Lx xs ad) (hI0 : LIG a ρ w σ b) (hkz : LKz n w kz) (hi : 0 ≤ i ∧ i + 5 < Lx) (hn : n ≤ 512) (hend : ∀ kz w a ρ σ, LIG a ρ w σ b → LKz (n + 1) w kz → XA kz p l e room_1 s m #[Value.ref b] below meth c D yv a ρ 224 (shLw w) A 8 Qm 1390 (lL i) [] σ) : XA kz p l e room_1 s m #[Value.ref b] below meth c D yv a ρ 224 (shLw w) A 8 Qm 368 (lL i) [] σ := by
  obtain ⟨hC, hYY, hX, hbl, hbA, hstt, hLx⟩ := hL
  obtain ⟨hI, hG⟩ := hI0
  have hr := hkz.r hn
  have hLx2 : (Lx : Int) ≤ 3072 := by omega
  refine xs_aload hC (i := 1) (x := 0) dL_law_368 rfl ?_
  refine xs_arg hC hX hbl hbA hI.2.2.2.2 rfl rfl ⟨by decide, by decide⟩ hi hLx2 dL_law_369 dL_law_370 dL_law_372 dL_law_373 dL_law_374 ?_
  refine xs_arg hC hX hbl hbA hI.2.2.2.2 rfl rfl ⟨by decide, by decide⟩ hi hLx2 dL_law_375 dL_law_376 dL_law_378 dL_law_379 dL_law_380 ?_
  refine vs_call (shf := shLw) (rest := []) (as' := [xvi (xs (i + 1).toNat).toInt, xvi (xs (i + 2).toNat).toInt]) (t := 0) (ci := 10) (n := 2) (K := fun r w' σ' => JW w' σ' ∧ RsK [xvr 0, xvi (xs (i + 1).toNat).toInt, xvi (xs (i + 2).toNat).toInt] σ w r w' σ') (mgS 194 σ) (mgA 194 a) (mgR 194 ρ) (mg_ok 194 224 σ a ρ).1 (mg_ok 194 224 σ a ρ).2.1 (mg_ok 194 224 σ a ρ).2.2 hC hYY.1 (mvX10_personK l D yv) (Nat.le_of_ble_eq_true rfl) vfamL q_3_111 q_3_112 q_3_113 q_1_1 q_3_114 rfl rfl (by decide +kernel) (by decide) (by show kz.1 + 0 ≤ 601024; omega) (by show kz.2 + 0 ≤ 7293034; omega) dL_law_381 (sh0 _) rfl (by decide) hI.1 (lLp (by rfl)) (lLp (by rfl)) ⟨hI.2.1, ⟨_, _, rfl⟩, fun r w' σ' h1 h2 => ⟨h1, h2⟩⟩ (fun r w1 a1 ρ1 σ1 hk hLK1 hag1 => ?_)
  obtain ⟨hJ1, hR1⟩ := hk
  obtain ⟨⟨z, rfl⟩, hl1, hw9, ⟨hw10, hw13, hkt⟩, hst⟩ := hR1
  have hI1 := hI.cls (N := 194) (Or.inl rfl) hLK1 hJ1
  have hG2 := hG.mg (σ1 := σ1) (N := 194) (by omega)
  have hlo : ∀ t, t < 194 → mgS 194 σ σ1 t = σ1 t := fun t ht => if_pos (by omega)
  generalize mgA 194 a a1 = a2, mgR 194 ρ ρ1 = ρ2, mgS 194 σ σ1 = σ2 at hI1 hG2 hlo ⊢
  obtain ⟨i1, i2, i3, i4, i5, i6, i7, i8, i9, i10, i11⟩ := hI1
  obtain ⟨hh, hkp, hT0⟩ := hI.2.2.2.1
  have h01 : 0 ≤ σ 0 1 ∧ σ 0 1 ≤ 940 := hI.2.1.1.1
  refine xs_pop hC dL_law_384 ?_
  refine xs_aload hC (i := 2) (x := 196) dL_law_385 rfl ?_
  refine xs_arg hC hX hbl hbA i5 rfl rfl ⟨by decide, by decide⟩ hi hLx2 dL_law_386 dL_law_387 dL_law_389 dL_law_390 dL_law_391 ?_
  refine xs_arg hC hX hbl hbA i5 rfl rfl ⟨by decide, by decide⟩ hi hLx2 dL_law_392 dL_law_393 dL_law_395 dL_law_396 dL_law_397 ?_
  refine xs_ck (as := [xvr 196, xvi (xs (i + 1).toNat).toInt, xvi (xs (i + 2).toNat).toInt]) (rest := []) (K := fun r σ' => ∃ z : Int, r = some (xvi z) ∧ ∃ ς, σ' = xbk tM σ2 ς ∧ RI ς ∧ (ς 0 2 = σ2 196 2) ∧ ς 27 = σ2 223 ∧ ς 1 = σ2 197 ∧ ς 6 = σ2 202 ∧ Fr [] [0] (xsel tM σ2) ς) hC ((xCk_MV (n := 2) (τ := tM) (mX11_person l D yv) (subM w1) q_7_203 q_7_204 q_7_205 q_1_15 q_7_206 rfl rfl (by decide +kernel) (by decide) (shLw_fin w1)).up (Nat.le_of_ble_eq_true rfl)) (by show kz.1 + (0) ≤ 601024; have : 0 ≤ 15 := (by first | omega | (split <;> omega)); omega) (by show kz.2 + (0) ≤ 7293034; have : 0 ≤ 15690 := (by first | omega | (split <;> omega)); omega) dL_law_398 (xMVf (ci := 11) rfl rfl (fun Q2 hQ2 => s_personJ (σ := xsel tM σ2) i3 hG2.1.2.1.1 (fun r2 ς h2 fr h9 => hQ2 _ _ ⟨_, rfl, _, rfl, h2.1, h2.2.1, h2.2.2.1, h2.2.2.2.1, h2.2.2.2.2.1, fr⟩))) rfl (Nat.le_of_ble_eq_true rfl) (fun r σ3 hk => ?_)
  obtain ⟨z2, rfl, ς, rfl, j1, j2, j3, j5, j6, j9⟩ := hk
  have j4 := KPx.same hkp hw9 hw10 (j3.trans i7)
  refine xs_pop hC dL_law_401 ?_
  refine xs_goto (tgt := 1390) hC dL_law_402 rfl ?_
  exact hend _ w1 a2 ρ2 _ ⟨(LI.ref i1 i2 j1 (by omega) j4 (hT0.nx (i8.trans hkt.1) (i9.trans hkt.2) (j5.trans i10) (j6.trans i11) (by omega)) i5), GL.fin ((hG2.cls hst).fr j9 (by decide) (by decide)) hlo⟩ (hkz.st (k1 := 0) (k2 := 0) hw13 (by decide) (by decide))
set_option maxHeartbeats 4000000 in
set_option maxRecDepth 100000 in
theorem law_6 (hL : LC p l s m meth c D yv A b Lx xs ad) (hI0 : LIG a ρ w σ b) (hkz : LKz n w kz) (hi : 0 ≤ i ∧ i + 5 < Lx) (hn : n ≤ 512) (hend : ∀ kz w a ρ σ, LIG a ρ w σ b → LKz (n + 1) w kz → XA kz p l e room_1 s m #[Value.ref b] below meth c D yv a ρ 224 (shLw w) A 8 Qm 1390 (lL i) [] σ) : XA kz p l e room_1 s m #[Value.ref b] below meth c D yv a ρ 224 (shLw w) A 8 Qm 405 (lL i) [] σ := by
  obtain ⟨hC, hYY, hX, hbl, hbA, hstt, hLx⟩ := hL
  obtain ⟨hI, hG⟩ := hI0
  have hr := hkz.r hn
  have hLx2 : (Lx : Int) ≤ 3072 := by omega
  refine xs_aload hC (i := 1) (x := 0) dL_law_405 rfl ?_
  refine xs_arg hC hX hbl hbA hI.2.2.2.2 rfl rfl ⟨by decide, by decide⟩ hi hLx2 dL_law_406 dL_law_407 dL_law_409 dL_law_410 dL_law_411 ?_
  refine vs_call (shf := shLw) (rest := []) (as' := [xvi (xs (i + 1).toNat).toInt]) (t := 0) (ci := 10) (n := 1) (K := fun r w' σ' => JW w' σ' ∧ RsK [xvr 0, xvi (xs (i + 1).toNat).toInt] σ w r w' σ') (mgS 194 σ) (mgA 194 a) (mgR 194 ρ) (mg_ok 194 224 σ a ρ).1 (mg_ok 194 224 σ a ρ).2.1 (mg_ok 194 224 σ a ρ).2.2 hC hYY.1 (mvX10_bookK l D yv) (Nat.le_of_ble_eq_true rfl) vfamL q_3_131 q_3_132 q_3_133 q_1_1 q_3_134 rfl rfl (by decide +kernel) (by decide) (by show kz.1 + 0 ≤ 601024; omega) (by show kz.2 + 0 ≤ 7293034; omega) dL_law_412 (sh0 _) rfl (by decide) hI.1 (lLp (by rfl)) (lLp (by rfl)) ⟨hI.2.1, ⟨_, rfl⟩, fun r w' σ' h1 h2 => ⟨h1, h2⟩⟩ (fun r w1 a1 ρ1 σ1 hk hLK1 hag1 => ?_)
  obtain ⟨hJ1, hR1⟩ := hk
  obtain ⟨⟨z, rfl⟩, hl1, hw9, ⟨hw10, hw13, hkt⟩, hst⟩ := hR1
  have hI1 := hI.cls (N := 194) (Or.inl rfl) hLK1 hJ1
  have hG2 := hG.mg (σ1 := σ1) (N := 194) (by omega)
  have hlo : ∀ t, t < 194 → mgS 194 σ σ1 t = σ1 t := fun t ht => if_pos (by omega)
  generalize mgA 194 a a1 = a2, mgR 194 ρ ρ1 = ρ2, mgS 194 σ σ1 = σ2 at hI1 hG2 hlo ⊢
  obtain ⟨i1, i2, i3, i4, i5, i6, i7, i8, i9, i10, i11⟩ := hI1
  obtain ⟨hh, hkp, hT0⟩ := hI.2.2.2.1
  have h01 : 0 ≤ σ 0 1 ∧ σ 0 1 ≤ 940 := hI.2.1.1.1
  refine xs_pop hC dL_law_415 ?_
  refine xs_aload hC (i := 2) (x := 196) dL_law_416 rfl ?_
  refine xs_arg hC hX hbl hbA i5 rfl rfl ⟨by decide, by decide⟩ hi hLx2 dL_law_417 dL_law_418 dL_law_420 dL_law_421 dL_law_422 ?_
  refine xs_ck (as := [xvr 196, xvi (xs (i + 1).toNat).toInt]) (rest := []) (K := fun r σ' => ∃ z : Int, r = some (xvi z) ∧ ∃ ς, σ' = xbk tM σ2 ς ∧ RI ς ∧ (ς 0 2 = σ2 196 2) ∧ ς 27 = σ2 223 ∧ ς 1 = σ2 197 ∧ ς 6 = σ2 202 ∧ Fr [] [0] (xsel tM σ2) ς) hC ((xCk_MV (n := 1) (τ := tM) (mX11_book l D yv) (subM w1) q_7_211 q_7_212 q_7_213 q_1_15 q_7_214 rfl rfl (by decide +kernel) (by decide) (shLw_fin w1)).up (Nat.le_of_ble_eq_true rfl)) (by show kz.1 + (0) ≤ 601024; have : 0 ≤ 15 := (by first | omega | (split <;> omega)); omega) (by show kz.2 + (0) ≤ 7293034; have : 0 ≤ 15690 := (by first | omega | (split <;> omega)); omega) dL_law_423 (xMVf (ci := 11) rfl rfl (fun Q2 hQ2 => s_bookJ (σ := xsel tM σ2) i3 hG2.1.2.1.1 (fun r2 ς h2 fr h9 => hQ2 _ _ ⟨_, rfl, _, rfl, h2.1, h2.2.1, h2.2.2.1, h2.2.2.2.1, h2.2.2.2.2.1, fr⟩))) rfl (Nat.le_of_ble_eq_true rfl) (fun r σ3 hk => ?_)
  obtain ⟨z2, rfl, ς, rfl, j1, j2, j3, j5, j6, j9⟩ := hk
  have j4 := KPx.same hkp hw9 hw10 (j3.trans i7)
  refine xs_pop hC dL_law_426 ?_
  refine xs_goto (tgt := 1390) hC dL_law_427 rfl ?_
  exact hend _ w1 a2 ρ2 _ ⟨(LI.ref i1 i2 j1 (by omega) j4 (hT0.nx (i8.trans hkt.1) (i9.trans hkt.2) (j5.trans i10) (j6.trans i11) (by omega)) i5), GL.fin ((hG2.cls hst).fr j9 (by decide) (by decide)) hlo⟩ (hkz.st (k1 := 0) (k2 := 0) hw13 (by decide) (by decide))
set_option maxHeartbeats 4000000 in
set_option maxRecDepth 100000 in
theorem law_7 (hL : LC p l s m meth c D yv A b Lx xs ad) (hI0 : LIG a ρ w σ b) (hkz : LKz n w kz) (hi : 0 ≤ i ∧ i + 5 < Lx) (hn : n ≤ 512) (hend : ∀ kz w a ρ σ, LIG a ρ w σ b → LKz (n + 1) w kz → XA kz p l e room_1 s m #[Value.ref b] below meth c D yv a ρ 224 (shLw w) A 8 Qm 1390 (lL i) [] σ) : XA kz p l e room_1 s m #[Value.ref b] below meth c D yv a ρ 224 (shLw w) A 8 Qm 430 (lL i) [] σ := by
  obtain ⟨hC, hYY, hX, hbl, hbA, hstt, hLx⟩ := hL
  obtain ⟨hI, hG⟩ := hI0
  have hr := hkz.r hn
  have hLx2 : (Lx : Int) ≤ 3072 := by omega
  refine xs_aload hC (i := 1) (x := 0) dL_law_430 rfl ?_
  refine xs_arg hC hX hbl hbA hI.2.2.2.2 rfl rfl ⟨by decide, by decide⟩ hi hLx2 dL_law_431 dL_law_432 dL_law_434 dL_law_435 dL_law_436 ?_
  refine vs_call (shf := shLw) (rest := []) (as' := [xvi (xs (i + 1).toNat).toInt]) (t := 0) (ci := 10) (n := 1) (K := fun r w' σ' => JW w' σ' ∧ (σ' 0 1 = σ 0 1 ∧ w' 9 = w 9 ∧ keptK w w' σ σ') ∧ ∃ z : Int, r = some (xvi z) ∧ ansN (0 ≤ (xs (i + 1).toNat).toInt ∧ (xs (i + 1).toNat).toInt < σ 198 7) z (σ 198 (8 + (xs (i + 1).toNat).toInt.toNat))) (mgS 194 σ) (mgA 194 a) (mgR 194 ρ) (mg_ok 194 224 σ a ρ).1 (mg_ok 194 224 σ a ρ).2.1 (mg_ok 194 224 σ a ρ).2.2 hC hYY.1 (mvX10_heapF l D yv) (Nat.le_of_ble_eq_true rfl) vfamL q_3_139 q_3_140 q_3_141 q_1_1 q_3_142 rfl rfl (by decide +kernel) (by decide) (by show kz.1 + 0 ≤ 601024; omega) (by show kz.2 + 0 ≤ 7293034; omega) dL_law_437 (sh0 _) rfl (by decide) hI.1 (lLp (by rfl)) (lLp (by rfl)) ⟨_, σ 198, rfl, hI.2.1, hG.1.1, hG.1.2.1.1.1, fun r h1 h2 => ⟨h1, ⟨rfl, rfl, kk_rfl⟩, _, rfl, h2⟩⟩ (fun r w1 a1 ρ1 σ1 hk hLK1 hag1 => ?_)
  obtain ⟨hJ1, ⟨hl1, hw9, ⟨hw10, hw13, hkt⟩, hst⟩, z, rfl, hz1⟩ := hk
  have hI1 := hI.cls (N := 194) (Or.inl rfl) hLK1 hJ1
  have hG2 := hG.mg (σ1 := σ1) (N := 194) (by omega)
  have hlo : ∀ t, t < 194 → mgS 194 σ σ1 t = σ1 t := fun t ht => if_pos (by omega)
  have h198 : mgS 194 σ σ1 198 = σ 198 := if_neg (by omega)
  generalize mgA 194 a a1 = a2, mgR 194 ρ ρ1 = ρ2, mgS 194 σ σ1 = σ2 at hI1 hG2 hlo h198 ⊢
  obtain ⟨i1, i2, i3, i4, i5, i6, i7, i8, i9, i10, i11⟩ := hI1
  obtain ⟨hh, hkp, hT0⟩ := hI.2.2.2.1
  have h01 : 0 ≤ σ 0 1 ∧ σ 0 1 ≤ 940 := hI.2.1.1.1
  refine xs_aload hC (i := 2) (x := 196) dL_law_440 rfl ?_
  refine xs_arg hC hX hbl hbA i5 rfl rfl ⟨by decide, by decide⟩ hi hLx2 dL_law_441 dL_law_442 dL_law_444 dL_law_445 dL_law_446 ?_
  refine xs_ck (as := [xvr 196, xvi (xs (i + 1).toNat).toInt]) (rest := [xvi z]) (K := fun r σ' => ∃ z : Int, r = some (xvi z) ∧ ∃ ς, σ' = xbk tM σ2 ς ∧ RI ς ∧ (ς 0 2 = σ2 196 2) ∧ ς 27 = σ2 223 ∧ ς 1 = σ2 197 ∧ ς 6 = σ2 202 ∧ Fr [] [0] (xsel tM σ2) ς ∧ ansN (0 ≤ (xs (i + 1).toNat).toInt ∧ (xs (i + 1).toNat).toInt < σ2 198 7) z (σ2 198 (8 + (xs (i + 1).toNat).toInt.toNat))) hC ((xCk_MV (n := 1) (τ := tM) (mX11_heap l D yv) (subM w1) q_7_215 q_7_216 q_7_217 q_1_15 q_7_218 rfl rfl (by decide +kernel) (by decide) (shLw_fin w1)).up (Nat.le_of_ble_eq_true rfl)) (by show kz.1 + (0) ≤ 601024; have : 0 ≤ 15 := (by first | omega | (split <;> omega)); omega) (by show kz.2 + (0) ≤ 7293034; have : 0 ≤ 15690 := (by first | omega | (split <;> omega)); omega) dL_law_447 (xMVf (ci := 11) rfl rfl (fun Q2 hQ2 => s_heapJ (σ := xsel tM σ2) i3 hG2.1.2.1.1 (fun r2 ς h2 fr h9 => hQ2 _ _ ⟨_, rfl, _, rfl, h2.1, h2.2.1, h2.2.2.1, h2.2.2.2.1, h2.2.2.2.2.1, fr, h9⟩))) rfl (Nat.le_of_ble_eq_true rfl) (fun r σ3 hk => ?_)
  obtain ⟨z2, rfl, ς, rfl, j1, j2, j3, j5, j6, j9, hz2⟩ := hk
  have j4 := KPx.same hkp hw9 hw10 (j3.trans i7)
  have e198 : σ2 198 = σ 198 := h198
  rw [e198] at hz2
  have hz : z = z2 := hz1.u hz2
  refine xs_icmpeq (tgt := 1390) hC hz dL_law_450 rfl ?_
  exact hend _ w1 a2 ρ2 _ ⟨(LI.ref i1 i2 j1 (by omega) j4 (hT0.nx (i8.trans hkt.1) (i9.trans hkt.2) (j5.trans i10) (j6.trans i11) (by omega)) i5), GL.fin ((hG2.cls hst).fr j9 (by decide) (by decide)) hlo⟩ (hkz.st (k1 := 0) (k2 := 0) hw13 (by decide) (by decide))
set_option maxHeartbeats 4000000 in
set_option maxRecDepth 100000 in
theorem law_8 (hL : LC p l s m meth c D yv A b Lx xs ad) (hI0 : LIG a ρ w σ b) (hkz : LKz n w kz) (hi : 0 ≤ i ∧ i + 5 < Lx) (hn : n ≤ 512) (hend : ∀ kz w a ρ σ, LIG a ρ w σ b → LKz (n + 1) w kz → XA kz p l e room_1 s m #[Value.ref b] below meth c D yv a ρ 224 (shLw w) A 8 Qm 1390 (lL i) [] σ) : XA kz p l e room_1 s m #[Value.ref b] below meth c D yv a ρ 224 (shLw w) A 8 Qm 455 (lL i) [] σ := by
  obtain ⟨hC, hYY, hX, hbl, hbA, hstt, hLx⟩ := hL
  obtain ⟨hI, hG⟩ := hI0
  have hr := hkz.r hn
  have hLx2 : (Lx : Int) ≤ 3072 := by omega
  refine xs_aload hC (i := 1) (x := 0) dL_law_455 rfl ?_
  refine xs_arg hC hX hbl hbA hI.2.2.2.2 rfl rfl ⟨by decide, by decide⟩ hi hLx2 dL_law_456 dL_law_457 dL_law_459 dL_law_460 dL_law_461 ?_
  refine vs_call (shf := shLw) (rest := []) (as' := [xvi (xs (i + 1).toNat).toInt]) (t := 0) (ci := 10) (n := 1) (K := fun r w' σ' => JW w' σ' ∧ RsK [xvr 0, xvi (xs (i + 1).toNat).toInt] σ w r w' σ') (mgS 194 σ) (mgA 194 a) (mgR 194 ρ) (mg_ok 194 224 σ a ρ).1 (mg_ok 194 224 σ a ρ).2.1 (mg_ok 194 224 σ a ρ).2.2 hC hYY.1 (mvX10_nowK l D yv) (Nat.le_of_ble_eq_true rfl) vfamL q_3_147 q_3_148 q_3_149 q_1_1 q_3_150 rfl rfl (by decide +kernel) (by decide) (by show kz.1 + 0 ≤ 601024; omega) (by show kz.2 + 0 ≤ 7293034; omega) dL_law_462 (sh0 _) rfl (by decide) hI.1 (lLp (by rfl)) (lLp (by rfl)) ⟨hI.2.1, ⟨_, rfl⟩, fun r w' σ' h1 h2 => ⟨h1, h2⟩⟩ (fun r w1 a1 ρ1 σ1 hk hLK1 hag1 => ?_)
  obtain ⟨hJ1, hR1⟩ := hk
  obtain ⟨⟨z, rfl⟩, hl1, hw9, ⟨hw10, hw13, hkt⟩, hst⟩ := hR1
  have hI1 := hI.cls (N := 194) (Or.inl rfl) hLK1 hJ1
  have hG2 := hG.mg (σ1 := σ1) (N := 194) (by omega)
  have hlo : ∀ t, t < 194 → mgS 194 σ σ1 t = σ1 t := fun t ht => if_pos (by omega)
  generalize mgA 194 a a1 = a2, mgR 194 ρ ρ1 = ρ2, mgS 194 σ σ1 = σ2 at hI1 hG2 hlo ⊢
  obtain ⟨i1, i2, i3, i4, i5, i6, i7, i8, i9, i10, i11⟩ := hI1
  obtain ⟨hh, hkp, hT0⟩ := hI.2.2.2.1
  have h01 : 0 ≤ σ 0 1 ∧ σ 0 1 ≤ 940 := hI.2.1.1.1
  refine xs_pop hC dL_law_465 ?_
  refine xs_aload hC (i := 2) (x := 196) dL_law_466 rfl ?_
  refine xs_arg hC hX hbl hbA i5 rfl rfl ⟨by decide, by decide⟩ hi hLx2 dL_law_467 dL_law_468 dL_law_470 dL_law_471 dL_law_472 ?_
  refine xs_ck (as := [xvr 196, xvi (xs (i + 1).toNat).toInt]) (rest := []) (K := fun r σ' => ∃ z : Int, r = some (xvi z) ∧ ∃ ς, σ' = xbk tM σ2 ς ∧ RI ς ∧ (ς 0 2 = σ2 196 2) ∧ ς 27 = σ2 223 ∧ ς 1 = σ2 197 ∧ ς 6 = σ2 202 ∧ Fr [] [0] (xsel tM σ2) ς) hC ((xCk_MV (n := 1) (τ := tM) (mX11_now l D yv) (subM w1) q_7_219 q_7_220 q_7_221 q_1_15 q_7_222 rfl rfl (by decide +kernel) (by decide) (shLw_fin w1)).up (Nat.le_of_ble_eq_true rfl)) (by show kz.1 + (0) ≤ 601024; have : 0 ≤ 15 := (by first | omega | (split <;> omega)); omega) (by show kz.2 + (0) ≤ 7293034; have : 0 ≤ 15690 := (by first | omega | (split <;> omega)); omega) dL_law_473 (xMVf (ci := 11) rfl rfl (fun Q2 hQ2 => s_nowJ (σ := xsel tM σ2) i3 hG2.1.2.1.1 (fun r2 ς h2 fr h9 => hQ2 _ _ ⟨_, rfl, _, rfl, h2.1, h2.2.1, h2.2.2.1, h2.2.2.2.1, h2.2.2.2.2.1, fr⟩))) rfl (Nat.le_of_ble_eq_true rfl) (fun r σ3 hk => ?_)
  obtain ⟨z2, rfl, ς, rfl, j1, j2, j3, j5, j6, j9⟩ := hk
  have j4 := KPx.same hkp hw9 hw10 (j3.trans i7)
  refine xs_pop hC dL_law_476 ?_
  refine xs_goto (tgt := 1390) hC dL_law_477 rfl ?_
  exact hend _ w1 a2 ρ2 _ ⟨(LI.ref i1 i2 j1 (by omega) j4 (hT0.nx (i8.trans hkt.1) (i9.trans hkt.2) (j5.trans i10) (j6.trans i11) (by omega)) i5), GL.fin ((hG2.cls hst).fr j9 (by decide) (by decide)) hlo⟩ (hkz.st (k1 := 0) (k2 := 0) hw13 (by decide) (by decide))
set_option maxHeartbeats 4000000 in
set_option maxRecDepth 100000 in
theorem law_9 (hL : LC p l s m meth c D yv A b Lx xs ad) (hI0 : LIG a ρ w σ b) (hkz : LKz n w kz) (hi : 0 ≤ i ∧ i + 5 < Lx) (hn : n ≤ 512) (hend : ∀ kz w a ρ σ, LIG a ρ w σ b → LKz (n + 1) w kz → XA kz p l e room_1 s m #[Value.ref b] below meth c D yv a ρ 224 (shLw w) A 8 Qm 1390 (lL i) [] σ) : XA kz p l e room_1 s m #[Value.ref b] below meth c D yv a ρ 224 (shLw w) A 8 Qm 480 (lL i) [] σ := by
  obtain ⟨hC, hYY, hX, hbl, hbA, hstt, hLx⟩ := hL
  obtain ⟨hI, hG⟩ := hI0
  have hr := hkz.r hn
  have hLx2 : (Lx : Int) ≤ 3072 := by omega
  refine xs_aload hC (i := 1) (x := 0) dL_law_480 rfl ?_
  refine xs_arg hC hX hbl hbA hI.2.2.2.2 rfl rfl ⟨by decide, by decide⟩ hi hLx2 dL_law_481 dL_law_482 dL_law_484 dL_law_485 dL_law_486 ?_
  refine xs_arg hC hX hbl hbA hI.2.2.2.2 rfl rfl ⟨by decide, by decide⟩ hi hLx2 dL_law_487 dL_law_488 dL_law_490 dL_law_491 dL_law_492 ?_
  refine xs_arg hC hX hbl hbA hI.2.2.2.2 rfl rfl ⟨by decide, by decide⟩ hi hLx2 dL_law_493 dL_law_494 dL_law_496 dL_law_497 dL_law_498 ?_
  refine vs_call (shf := shLw) (rest := []) (as' := [xvi (xs (i + 1).toNat).toInt, xvi (xs (i + 2).toNat).toInt, xvi (xs (i + 3).toNat).toInt]) (t := 0) (ci := 10) (n := 3) (K := fun r w' σ' => JW w' σ' ∧ RsK [xvr 0, xvi (xs (i + 1).toNat).toInt, xvi (xs (i + 2).toNat).toInt, xvi (xs (i + 3).toNat).toInt] σ w r w' σ') (mgS 194 σ) (mgA 194 a) (mgR 194 ρ) (mg_ok 194 224 σ a ρ).1 (mg_ok 194 224 σ a ρ).2.1 (mg_ok 194 224 σ a ρ).2.2 hC hYY.1 (mvX10_whyK l D yv) (Nat.le_of_ble_eq_true rfl) vfamL q_3_161 q_3_162 q_3_163 q_1_1 q_3_164 rfl rfl (by decide +kernel) (by decide) (by show kz.1 + 0 ≤ 601024; omega) (by show kz.2 + 0 ≤ 7293034; omega) dL_law_499 (sh0 _) rfl (by decide) hI.1 (lLp (by rfl)) (lLp (by rfl)) ⟨hI.2.1, ⟨_, _, _, rfl⟩, fun r w' σ' h1 h2 => ⟨h1, h2⟩⟩ (fun r w1 a1 ρ1 σ1 hk hLK1 hag1 => ?_)
  obtain ⟨hJ1, hR1⟩ := hk
  obtain ⟨⟨z, rfl⟩, hl1, hw9, ⟨hw10, hw13, hkt⟩, hst⟩ := hR1
  have hI1 := hI.cls (N := 194) (Or.inl rfl) hLK1 hJ1
  have hG2 := hG.mg (σ1 := σ1) (N := 194) (by omega)
  have hlo : ∀ t, t < 194 → mgS 194 σ σ1 t = σ1 t := fun t ht => if_pos (by omega)
  generalize mgA 194 a a1 = a2, mgR 194 ρ ρ1 = ρ2, mgS 194 σ σ1 = σ2 at hI1 hG2 hlo ⊢
  obtain ⟨i1, i2, i3, i4, i5, i6, i7, i8, i9, i10, i11⟩ := hI1
  obtain ⟨hh, hkp, hT0⟩ := hI.2.2.2.1
  have h01 : 0 ≤ σ 0 1 ∧ σ 0 1 ≤ 940 := hI.2.1.1.1
  refine xs_pop hC dL_law_502 ?_
  refine xs_aload hC (i := 2) (x := 196) dL_law_503 rfl ?_
  refine xs_arg hC hX hbl hbA i5 rfl rfl ⟨by decide, by decide⟩ hi hLx2 dL_law_504 dL_law_505 dL_law_507 dL_law_508 dL_law_509 ?_
  refine xs_arg hC hX hbl hbA i5 rfl rfl ⟨by decide, by decide⟩ hi hLx2 dL_law_510 dL_law_511 dL_law_513 dL_law_514 dL_law_515 ?_
  refine xs_arg hC hX hbl hbA i5 rfl rfl ⟨by decide, by decide⟩ hi hLx2 dL_law_516 dL_law_517 dL_law_519 dL_law_520 dL_law_521 ?_
  refine xs_ck (as := [xvr 196, xvi (xs (i + 1).toNat).toInt, xvi (xs (i + 2).toNat).toInt, xvi (xs (i + 3).toNat).toInt]) (rest := []) (K := fun r σ' => ∃ z : Int, r = some (xvi z) ∧ ∃ ς, σ' = xbk tM σ2 ς ∧ RI ς ∧ (ς 0 2 = σ2 196 2) ∧ ς 27 = σ2 223 ∧ ς 1 = σ2 197 ∧ ς 6 = σ2 202 ∧ Fr [] [0] (xsel tM σ2) ς) hC ((xCk_MV (n := 3) (τ := tM) (mX11_why l D yv) (subM w1) q_7_227 q_7_228 q_7_229 q_1_15 q_7_230 rfl rfl (by decide +kernel) (by decide) (shLw_fin w1)).up (Nat.le_of_ble_eq_true rfl)) (by show kz.1 + (0) ≤ 601024; have : 0 ≤ 15 := (by first | omega | (split <;> omega)); omega) (by show kz.2 + (0) ≤ 7293034; have : 0 ≤ 15690 := (by first | omega | (split <;> omega)); omega) dL_law_522 (xMVf (ci := 11) rfl rfl (fun Q2 hQ2 => s_whyJ (σ := xsel tM σ2) i3 hG2.1.2.1.1.1 (fun r2 ς h2 fr h9 => hQ2 _ _ ⟨_, rfl, _, rfl, h2.1, h2.2.1, h2.2.2.1, h2.2.2.2.1, h2.2.2.2.2.1, fr⟩))) rfl (Nat.le_of_ble_eq_true rfl) (fun r σ3 hk => ?_)
  obtain ⟨z2, rfl, ς, rfl, j1, j2, j3, j5, j6, j9⟩ := hk
  have j4 := KPx.same hkp hw9 hw10 (j3.trans i7)
  refine xs_pop hC dL_law_525 ?_
  refine xs_goto (tgt := 1390) hC dL_law_526 rfl ?_
  exact hend _ w1 a2 ρ2 _ ⟨(LI.ref i1 i2 j1 (by omega) j4 (hT0.nx (i8.trans hkt.1) (i9.trans hkt.2) (j5.trans i10) (j6.trans i11) (by omega)) i5), GL.fin ((hG2.cls hst).fr j9 (by decide) (by decide)) hlo⟩ (hkz.st (k1 := 0) (k2 := 0) hw13 (by decide) (by decide))
end XP
