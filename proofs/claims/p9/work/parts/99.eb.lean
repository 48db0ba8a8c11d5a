/-! the words that the rows use, each by its place in the tables; printed by wip/p2/genx.py -/
theorem q_2_180 : Cond.methodLink RX10 116 yX9_read ∈ gw := gw_2 180 (by decide +kernel) rfl
theorem q_2_181 : Cond.instanceMethod yX9_read ∈ gw := gw_2 181 (by decide +kernel) rfl
theorem q_2_182 : Cond.selects RX9 yX9_read yX9_read ∈ gw := gw_2 182 (by decide +kernel) rfl
theorem q_2_183 : Cond.code yX9_read cX9_read 4 (some .boolean) ∈ gw := gw_2 183 (by decide +kernel) rfl
theorem q_5_142 : Cond.methodLink RX10 344 yX8_read ∈ gw := gw_5 142 (by decide +kernel) rfl
theorem q_5_143 : Cond.instanceMethod yX8_read ∈ gw := gw_5 143 (by decide +kernel) rfl
theorem q_5_144 : Cond.selects RX8 yX8_read yX8_read ∈ gw := gw_5 144 (by decide +kernel) rfl
theorem q_5_145 : Cond.code yX8_read cX8_read 4 (some .boolean) ∈ gw := gw_5 145 (by decide +kernel) rfl
def TABLEQ (σ : xS) (Q : Option xV → xS → Prop) : Prop := ∀ (r : Int) (σ' : xS), Fr [30, 32, 33, 2, 3, 4, 5, 6, 7, 8, 9, 10, 11, 12, 13, 14, 15, 16, 17, 18, 19, 20, 21, 22, 23, 24, 25, 26, 27, 28, 39] [1, 2] σ σ' → (JG (xsel [2, 3, 4, 5, 6, 7, 8, 9, 10, 11, 12, 13, 14] σ') ∧ σ' 0 1 = 0 ∧ (0 ≤ σ' 28 1 ∧ σ' 28 1 ≤ 40) ∧ (0 ≤ σ' 39 2 ∧ σ' 39 2 ≤ 8) ∧ (0 ≤ σ' 39 1 ∧ σ' 39 1 ≤ 7)) → Q (some (xvi r)) σ'
def TABLEE : xE := fun as σ Q => as = [xvr 0] ∧ (0 ≤ σ 0 1 ∧ σ 0 1 ≤ 940) ∧ (JG (xsel [2, 3, 4, 5, 6, 7, 8, 9, 10, 11, 12, 13, 14] σ)) ∧ (0 ≤ σ 28 1 ∧ σ 28 1 ≤ 40) ∧ ((0 ≤ σ 39 2 ∧ σ 39 2 ≤ 8) ∧ (0 ≤ σ 39 1 ∧ σ 39 1 ≤ 7)) ∧ TABLEQ σ Q
theorem TABLEE_i {σ : xS} {Q : Option xV → xS → Prop} (h1 : 0 ≤ σ 0 1 ∧ σ 0 1 ≤ 940) (h2 : JG (xsel [2, 3, 4, 5, 6, 7, 8, 9, 10, 11, 12, 13, 14] σ)) (h3 : 0 ≤ σ 28 1 ∧ σ 28 1 ≤ 40) (h4 : (0 ≤ σ 39 2 ∧ σ 39 2 ≤ 8) ∧ (0 ≤ σ 39 1 ∧ σ 39 1 ≤ 7)) (hQ : ∀ (r : Int) (σ' : xS), Fr [30, 32, 33, 2, 3, 4, 5, 6, 7, 8, 9, 10, 11, 12, 13, 14, 15, 16, 17, 18, 19, 20, 21, 22, 23, 24, 25, 26, 27, 28, 39] [1, 2] σ σ' → (JG (xsel [2, 3, 4, 5, 6, 7, 8, 9, 10, 11, 12, 13, 14] σ') ∧ σ' 0 1 = 0 ∧ (0 ≤ σ' 28 1 ∧ σ' 28 1 ≤ 40) ∧ (0 ≤ σ' 39 2 ∧ σ' 39 2 ≤ 8) ∧ (0 ≤ σ' 39 1 ∧ σ' 39 1 ≤ 7)) → Q (some (xvi r)) σ') : TABLEE [xvr 0] σ Q := ⟨rfl, h1, h2, h3, h4, hQ⟩
set_option maxRecDepth 100000 in
set_option maxHeartbeats 4000000 in
theorem mX10_table (l : Launch) (D : va_G) (yv : Nat → ClassId) : xMt2 l D yv yX10_table cX10_table 2 (some .int) 7 47 shB0 shB1 TABLEE := by
  intro a ρ sz as σ Q hE hσ has
  obtain ⟨rfl, h1, h2, h3, h4, hQ⟩ := hE
  refine xEnter (d := 7) (mc := 0) (ms := 0) (by decide +kernel) (by simp [xargs]) hσ has ?_
  intro p e s m below meth c hsz hC
  show XA _ _ _ _ _ _ _ _ _ _ _ _ _ _ _ _ _ _ _ _ 0 [xvr 0, xvu] [] σ
  refine xs_aload hC (i := 0) (x := 0) (by decide +kernel) rfl ?_
  refine xs_get hC fiB0 (i := 49) (t := 0) (v := xvr 32) (foX10 49 10 7 rfl) rfl rfl rfl (fun _ => trivial) (by decide +kernel) ?_
  refine xs_aload hC (i := 0) (x := 0) (by decide +kernel) rfl ?_
  refine xs_get hC fiB0 (i := 9) (t := 0) (v := xvr 1) (foX10 9 10 0 rfl) rfl rfl rfl (fun _ => trivial) (by decide +kernel) ?_
  refine xs_aload hC (i := 0) (x := 0) (by decide +kernel) rfl ?_
  refine xs_get hC fiB0 (i := 13) (t := 0) (v := xvi (σ 0 1)) (foX10 13 10 1 rfl) rfl rfl rfl (fun h => (h.1 0 10 _ rfl 1 0 rfl).1 (Or.inl rfl)) (by decide +kernel) ?_
  refine xs_aload hC (i := 0) (x := 0) (by decide +kernel) rfl ?_
  refine xs_get hC fiB0 (i := 27) (t := 0) (v := xvr 15) (foX10 27 10 4 rfl) rfl rfl rfl (fun _ => trivial) (by decide +kernel) ?_
  refine xs_call2 (y := yX9_read) (τ := [32, 33, 30, 31, 1, 15, 16, 17, 18, 19, 20, 21, 22, 23, 24, 25, 26, 27]) (N' := 18) (sh' := shT0) (sh'2 := shT) (sh2 := shB1) (t := 32) (as' := [xvr 1, xvi (σ 0 1), xvr 15]) (rest := []) (n := 3) (ci := 9) (E := TRE) (K := fun r σ2 => ∃ z : Int, r = some (xvi z) ∧ (z = 0 ∨ z = 1) ∧ Fr [30, 32, 33, 15, 16, 17, 18, 19] [] σ σ2 ∧ TG (xsel [32, 33, 30, 31, 1, 15, 16, 17, 18, 19, 20, 21, 22, 23, 24, 25, 26, 27] σ2)) hC (mX9_read l D yv) (by decide) (xsubB_ok (l' := wlT0) (l := wlB0) (by decide +kernel)) (xsubB_ok (l' := wlT) (l := wlB1) (by decide +kernel)) (hout_of (l := wlB0) (l2 := wlB1) 30 (by decide +kernel) (by decide)) q_2_180 q_2_181 q_2_182 q_1_11 q_2_183 rfl rfl (by decide +kernel) (by decide) fiB0 (Nat.zero_le _) (Nat.zero_le _) (by decide +kernel) rfl rfl rfl (by decide) ?_ ?_
  · exact TRE_i h1 (fun r σ' f p => ⟨r, rfl, p.2, f.bk (by decide) (by decide), p.1⟩)
  rintro r σ2 ⟨z, rfl, hz, f2, hT2⟩
  refine xs_istore hC (i := 1) (x := z) (by decide +kernel) (by decide) ?_
  show XA _ _ _ _ _ _ _ _ _ _ _ _ _ _ _ _ _ _ _ _ 20 [xvr 0, xvi z] [] σ2
  have e28 : σ2 28 = σ 28 := f2.1 28 (by decide) (by decide)
  have e39 : σ2 39 = σ 39 := f2.1 39 (by decide) (by decide)
  exact xTE_s (C := kX10_table_b) (c0 := 20) (L0 := [xvr 0, xvi z]) (Z := fun _ _ _ => False) hC zX10_table_b (fun v i n E he => (hX10_table_b l D yv v i n E he).up (by decide)) (Nat.zero_le _) (Nat.zero_le _) (fun r σ t h1 h2 h3 h4 h5 h6 => ⟨⟨r, σ, rfl, h1, h2, h3, h4, h5⟩, h6⟩) (pX10_table (h2.fr2 f2 (by decide)) hT2 (by rw [e28]; exact h3) (by rw [e39]; exact h4) (fun r σ3 f3 p3 => hQ r σ3 ((Fr.rf.tr f2 (by decide) (by decide)).tr f3 (by decide) (by decide)) p3)) (fun _ _ _ h => h.elim)
def SENTENCEQ (σ : xS) (Q : Option xV → xS → Prop) : Prop := ∀ (r : Int) (σ' : xS), Fr [30, 36, 37, 38, 28, 29] [1, 2] σ σ' → (σ' 0 1 = 0 ∧ (0 ≤ σ' 28 1 ∧ σ' 28 1 ≤ 40)) → Q (some (xvi r)) σ'
def SENTENCEE : xE := fun as σ Q => as = [xvr 0] ∧ (0 ≤ σ 0 1 ∧ σ 0 1 ≤ 940) ∧ (JG (xsel [2, 3, 4, 5, 6, 7, 8, 9, 10, 11, 12, 13, 14] σ)) ∧ (0 ≤ σ 28 1 ∧ σ 28 1 ≤ 40) ∧ SENTENCEQ σ Q
theorem SENTENCEE_i {σ : xS} {Q : Option xV → xS → Prop} (h1 : 0 ≤ σ 0 1 ∧ σ 0 1 ≤ 940) (h2 : JG (xsel [2, 3, 4, 5, 6, 7, 8, 9, 10, 11, 12, 13, 14] σ)) (h3 : 0 ≤ σ 28 1 ∧ σ 28 1 ≤ 40) (hQ : ∀ (r : Int) (σ' : xS), Fr [30, 36, 37, 38, 28, 29] [1, 2] σ σ' → (σ' 0 1 = 0 ∧ (0 ≤ σ' 28 1 ∧ σ' 28 1 ≤ 40)) → Q (some (xvi r)) σ') : SENTENCEE [xvr 0] σ Q := ⟨rfl, h1, h2, h3, hQ⟩
set_option maxRecDepth 100000 in
set_option maxHeartbeats 4000000 in
theorem mX10_sentence (l : Launch) (D : va_G) (yv : Nat → ClassId) : xMt2 l D yv yX10_sentence cX10_sentence 2 (some .int) 34 47 shB0 shB1 SENTENCEE := by
  intro a ρ sz as σ Q hE hσ has
  obtain ⟨rfl, h1, h2, h3, hQ⟩ := hE
  refine xEnter (d := 34) (mc := 0) (ms := 0) (by decide +kernel) (by simp [xargs]) hσ has ?_
  intro p e s m below meth c hsz hC
  show XA _ _ _ _ _ _ _ _ _ _ _ _ _ _ _ _ _ _ _ _ 0 [xvr 0, xvu] [] σ
  refine xs_aload hC (i := 0) (x := 0) (by decide +kernel) rfl ?_
  refine xs_get hC fiB0 (i := 63) (t := 0) (v := xvr 36) (foX10 63 10 9 rfl) rfl rfl rfl (fun _ => trivial) (by decide +kernel) ?_
  refine xs_aload hC (i := 0) (x := 0) (by decide +kernel) rfl ?_
  refine xs_get hC fiB0 (i := 9) (t := 0) (v := xvr 1) (foX10 9 10 0 rfl) rfl rfl rfl (fun _ => trivial) (by decide +kernel) ?_
  refine xs_aload hC (i := 0) (x := 0) (by decide +kernel) rfl ?_
  refine xs_get hC fiB0 (i := 13) (t := 0) (v := xvi (σ 0 1)) (foX10 13 10 1 rfl) rfl rfl rfl (fun h => (h.1 0 10 _ rfl 1 0 rfl).1 (Or.inl rfl)) (by decide +kernel) ?_
  refine xs_aload hC (i := 0) (x := 0) (by decide +kernel) rfl ?_
  refine xs_get hC fiB0 (i := 23) (t := 0) (v := xvr 2) (foX10 23 10 3 rfl) rfl rfl rfl (fun _ => trivial) (by decide +kernel) ?_
  refine xs_call2 (y := yX8_read) (τ := [36, 37, 38, 30, 31, 1, 2, 3, 4, 5, 6, 7, 8, 9, 10, 11, 12, 13, 14]) (N' := 19) (sh' := shS0) (sh'2 := shS) (sh2 := shB1) (t := 36) (as' := [xvr 1, xvi (σ 0 1), xvr 2]) (rest := []) (n := 3) (ci := 8) (E := SRE) (K := fun r σ2 => ∃ z : Int, r = some (xvi z) ∧ (z = 0 ∨ z = 1) ∧ Fr [30, 36, 37, 38] [] σ σ2 ∧ (0 ≤ σ2 37 1 ∧ σ2 37 1 ≤ 40)) hC (mX8_read l D yv) (by decide) (xsubB_ok (l' := wlS0) (l := wlB0) (by decide +kernel)) (xsubB_ok (l' := wlS) (l := wlB1) (by decide +kernel)) (hout_of (l := wlB0) (l2 := wlB1) 30 (by decide +kernel) (by decide)) q_5_142 q_5_143 q_5_144 q_1_13 q_5_145 rfl rfl (by decide +kernel) (by decide) fiB0 (Nat.zero_le _) (Nat.zero_le _) (by decide +kernel) rfl rfl rfl (by decide) ?_ ?_
  · exact SRE_i h1 h2.1.1.2.1 (fun r σ' f p => ⟨r, rfl, p.2, f.bk (by decide) (by decide), p.1⟩)
  rintro r σ2 ⟨z, rfl, hz, f2, hm2⟩
  refine xs_istore hC (i := 1) (x := z) (by decide +kernel) (by decide) ?_
  show XA _ _ _ _ _ _ _ _ _ _ _ _ _ _ _ _ _ _ _ _ 20 [xvr 0, xvi z] [] σ2
  have e28 : σ2 28 = σ 28 := f2.1 28 (by decide) (by decide)
  exact xTE_s (C := kX10_sentence_b) (c0 := 20) (L0 := [xvr 0, xvi z]) (Z := fun _ _ _ => False) hC zX10_sentence_b (fun v i n E he => (hX10_sentence_b l D yv v i n E he).up (by decide)) (Nat.zero_le _) (Nat.zero_le _) (fun r σ t h1 h2 h3 h4 h5 h6 => ⟨⟨r, σ, rfl, h1, h2, h3, h4, h5⟩, h6⟩) (pX10_sentence hm2 (by rw [e28]; exact h3) (fun r σ3 f3 p3 => hQ r σ3 ((Fr.rf.tr f2 (by decide) (by decide)).tr f3 (by decide) (by decide)) p3)) (fun _ _ _ h => h.elim)
