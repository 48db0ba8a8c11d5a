set_option maxHeartbeats 4000000 in
set_option maxRecDepth 100000 in
theorem mX10_tableC (l : Launch) (D : va_G) (yv : Nat → ClassId) : xMt2 l D yv yX10_table cX10_table 2 (some .int) 7 47 shB0 shB1 TABCE := by
  intro a ρ sz as σ Q hE hσ has
  obtain ⟨rfl, h1, h2, h3, h4, h5, hQ⟩ := hE
  refine xEnter (d := 7) (mc := 0) (ms := 0) (by decide +kernel) (by simp [xargs]) hσ has ?_
  intro p e s m below meth c hsz hC
  show XA _ _ _ _ _ _ _ _ _ _ _ _ _ _ _ _ _ _ _ _ 0 [xvr 0, xvu] [] σ
  refine xs_aload hC (i := 0) (x := 0) (by decide +kernel) rfl ?_
  refine xs_get hC fiB0 (i := 49) (t := 0) (v := xvr 32) (foX10 49 10 7 rfl) rfl rfl rfl (fun _ => trivial) (by decide +kernel) ?_
  refine xs_aload hC (i := 0) (x := 0) (by decide +kernel) rfl ?_
  refine xs_get hC fiB0 (i := 9) (t := 0) (v := xvr 1) (foX10 9 10 0 rfl) rfl rfl rfl (fun _ => trivial) (by decide +kernel) ?_
  refine xs_aload hC (i := 0) (x := 0) (by decide +kernel) rfl ?_
  refine xs_get hC fiB0 (i := 13) (t := 0) (v := xvi (σ 0 1)) (foX10 13 10 1 rfl) rfl rfl rfl (fun h => (h.1 0 10 _ rfl 1 0 rfl).1 (Or.inl rfl)) (by decide +kernel) ?_
  refine xs_aload hC (i := 0) (x := 0) (by decide +kernel) rfl ?_
  refine xs_get hC fiB0 (i := 27) (t := 0) (v := xvr 15) (foX10 27 10 4 rfl) rfl rfl rfl (fun _ => trivial) (by decide +kernel) ?_
  refine xs_call2 (y := yX9_read) (τ := [32, 33, 30, 31, 1, 15, 16, 17, 18, 19, 20, 21, 22, 23, 24, 25, 26, 27]) (N' := 18) (sh' := shT0) (sh'2 := shT) (sh2 := shB1) (t := 32) (as' := [xvr 1, xvi (σ 0 1), xvr 15]) (rest := []) (n := 3) (ci := 9) (E := TRCE) (K := fun r σ2 => ∃ z : Int, r = some (xvi z) ∧ (z = 0 ∨ z = 1) ∧ Fr [30, 32, 33, 15, 16, 17, 18, 19] [] σ σ2 ∧ TG (xsel [32, 33, 30, 31, 1, 15, 16, 17, 18, 19, 20, 21, 22, 23, 24, 25, 26, 27] σ2) ∧ CRD (xsel [32, 33, 30, 31, 1, 15, 16, 17, 18, 19, 20, 21, 22, 23, 24, 25, 26, 27] σ2) ∧ (∃ s, TS0 s ∧ TRX (xsel [32, 33, 30, 31, 1, 15, 16, 17, 18, 19, 20, 21, 22, 23, 24, 25, 26, 27] σ2) (σ 1) (σ 0 1) 900 s z)) hC (mX9_readC l D yv) (by decide) (xsubB_ok (l' := wlT0) (l := wlB0) (by decide +kernel)) (xsubB_ok (l' := wlT) (l := wlB1) (by decide +kernel)) (hout_of (l := wlB0) (l2 := wlB1) 30 (by decide +kernel) (by decide)) q_2_180 q_2_181 q_2_182 q_1_11 q_2_183 rfl rfl (by decide +kernel) (by decide) fiB0 (Nat.zero_le _) (Nat.zero_le _) (by decide +kernel) rfl rfl rfl (by decide) ?_ ?_
  · exact TRCE_i h1 (by exact h5) (fun r σ' f p => ⟨r, rfl, by
      obtain ⟨_, _, s, _, hX⟩ := p
      rcases hX with h | h
      · exact Or.inr h.1
      · exact Or.inl h.1, f.bk (by decide) (by decide), p.1, p.2.1, p.2.2⟩)
  rintro r σ2 ⟨z, rfl, hz, f2, hT2, hCD, sx, hS0, hX⟩
  obtain ⟨t, ht⟩ : ∃ t : TSx, ¬ z = 0 → ∃ i : Nat, TRN (σ 1) (σ 0 1) 900 i sx t ∧ tkc (σ 1) (σ 0 1) 900 t.p = 302 ∧ RTC (xsel [32, 33, 30, 31, 1, 15, 16, 17, 18, 19, 20, 21, 22, 23, 24, 25, 26, 27] σ2) (σ 1) (σ 0 1) 900 t ∧ σ2 32 3 = i := by
    rcases hX with ⟨q1, i, t, q2⟩ | ⟨q1, _⟩
    · exact ⟨t, fun _ => ⟨i, q2⟩⟩
    · exact ⟨sx, fun h => absurd q1 h⟩
  refine xs_istore hC (i := 1) (x := z) (by decide +kernel) (by decide) ?_
  show XA _ _ _ _ _ _ _ _ _ _ _ _ _ _ _ _ _ _ _ _ 20 [xvr 0, xvi z] [] σ2
  have e28 : σ2 28 = σ 28 := f2.1 28 (by decide) (by decide)
  have e39 : σ2 39 = σ 39 := f2.1 39 (by decide) (by decide)
  exact xTE_s (C := kX10_table_b) (c0 := 20) (L0 := [xvr 0, xvi z]) (Z := fun _ _ _ => False) hC zX10_table_b (fun v i n E he => (hX10_table_b l D yv v i n E he).up (by decide)) (Nat.zero_le _) (Nat.zero_le _) (fun r σ t h1 h2 h3 h4 h5 h6 => ⟨⟨r, σ, rfl, h1, h2, h3, h4, h5⟩, h6⟩) (pX10_tableC (f0 := rowT t) (h2.fr2 f2 (by decide)) hT2 (by rw [e28]; exact h3) (by rw [e39]; exact h4) (fun hz0 => by
    obtain ⟨i, q1, q2, q3, q4⟩ := ht hz0
    exact (TRX.g0 q3 hT2 hCD).loc (fun t ht => by
      have e : t = 0 ∨ t = 1 ∨ t = 2 ∨ t = 3 ∨ t = 4 ∨ t = 5 ∨ t = 6 ∨ t = 7 ∨ t = 8 ∨ t = 9 ∨ t = 10 ∨ t = 11 ∨ t = 12 := by omega
      rcases e with rfl | rfl | rfl | rfl | rfl | rfl | rfl | rfl | rfl | rfl | rfl | rfl | rfl <;> rfl)) (fun r σ3 f3 p3 => hQ r σ3 ((Fr.rf.tr f2 (by decide) (by decide)).tr f3 (by decide) (by decide)) p3.1 ⟨sx, hS0, by
    rcases p3.2.1 with ⟨w1, w2, w3⟩ | ⟨w1, w2, w3, w4, w5, w6⟩
    · rcases hX with ⟨q1, _⟩ | ⟨q1, i, t, q2, q3, q4⟩
      · exact absurd q1 (by omega)
      · exact ⟨_, ⟨i, t, q2, Or.inr ⟨q3, _, q4, rfl⟩⟩, Or.inl ⟨_, rfl, w2, p3.2.2, (Fr.rf.tr f2 (by decide) (by decide)).tr w3 (by decide) (by decide)⟩⟩
    · obtain ⟨i, q1, q2, q3, q4⟩ := ht w1
      have hp6 : t.ps ≤ 6 := by
        have z : xsel [32, 33, 30, 31, 1, 15, 16, 17, 18, 19, 20, 21, 22, 23, 24, 25, 26, 27] σ2 5 1 ≤ 6 := hT2.1.1.2.1.2
        rw [q3.2.1.2.1] at z
        exact z
      exact ⟨_, ⟨i, t, q1, Or.inl ⟨q2, rfl⟩⟩, Or.inr ⟨i, t, rfl, w2.trans q4, p3.2.2.trans q3.1.2.2, w3, fun q hq => by rw [w4 q (by omega)]; exact q3.2.2.1 q hq, w5, w6⟩⟩⟩)) (fun _ _ _ h => h.elim)
theorem selB {σ : xS} {t : Nat} (h : t < 47) : xsel tB σ t = σ t := by
  show σ ((tB : List Nat).getD t 0) = σ t
  rw [(by decide : ∀ t, t < 47 → (tB : List Nat).getD t 0 = t) t h]
theorem bkB {σ ς : xS} {t : Nat} (h : t < 47) : xbk tB σ ς t = ς t := by
  unfold xbk
  rw [(by decide : ∀ t, t < 47 → xix tB t = some t) t h]
theorem TBC.lift {s : TSx} {σ ς : xS} {r : Int} (h : TBC s (xsel tB σ) ς r) : TBC s σ (xbk tB σ ς) r := by
  obtain ⟨x, h1, h2⟩ := h
  refine ⟨x, h1, ?_⟩
  rcases h2 with ⟨y, a, b, c, d⟩ | ⟨i, t, a, b, c, d, e, f, g⟩
  · exact Or.inl ⟨y, a, b, c, d.bk0 (by decide) (by decide) (by decide)⟩
  · exact Or.inr ⟨i, t, a, b, c, fun hv => (d hv).eq (fun t _ _ => bkB (by omega)), by rw [bkB (by decide)]; exact e, f, g⟩
/-- table, with the game it leaves -/
def pubTC : vE := fun w as σ Q => JW w σ ∧ as = [xvr 0] ∧ WDS (σ 31) ∧ ∀ (r : Int) σ', JW w σ' → keptW w w σ σ' → Fr [30, 32, 33, 2, 3, 4, 5, 6, 7, 8, 9, 10, 11, 12, 13, 14, 15, 16, 17, 18, 19, 20, 21, 22, 23, 24, 25, 26, 27, 28, 39] [1, 2] σ σ' → σ' 0 1 = 0 → (∃ s, TS0 s ∧ TBC s σ σ' r) → Q (some (xvi r)) w σ'
set_option maxHeartbeats 4000000 in
set_option maxRecDepth 100000 in
theorem mvX10_tableC (l : Launch) (D : va_G) (yv : Nat → ClassId) : vMt l D yv yX10_table cX10_table 2 (some .int) 7 (fun _ => 0) (fun _ => 0) pubTC := by
  refine (vOf2 (mX10_tableC l D yv) subB0 subB1 (by decide) (by decide)).mono (fun w as σ Q h => ?_)
  obtain ⟨hJ, rfl, hw9, hQ⟩ := h
  refine ⟨by rfl, ?_⟩
  exact TABCE_i (σ := xsel tB σ) (by exact hJ.1.1) (by exact hJ.g) (by exact hJ.1.2.2.1) (by exact ⟨hJ.p.2.1, hJ.p.1⟩) (by exact hw9) (fun r ς f h hB => hQ r _ (JW.fr hJ (fun t h1 _ => xbk_hi (by omega)) (by show 0 ≤ ς 0 1 ∧ ς 0 1 ≤ 940; have h8 : ς 0 1 = 0 := h.2.1; omega) (by exact h.1) (by exact h.2.2.1) (by rw [(f.bk0 (τ := tB) (ts2 := tB) (js2 := [1, 2]) (by decide) (by decide) (by decide)).2 17 (by decide)]; exact hJ.1.2.2.2.1) (by exact ⟨h.2.2.2.2, h.2.2.2.1⟩)) (kw_fr (f.bk0 (τ := tB) (ts2 := [30, 32, 33, 2, 3, 4, 5, 6, 7, 8, 9, 10, 11, 12, 13, 14, 15, 16, 17, 18, 19, 20, 21, 22, 23, 24, 25, 26, 27, 28, 39]) (js2 := [1, 2]) (by decide) (by decide) (by decide))) (f.bk0 (τ := tB) (ts2 := [30, 32, 33, 2, 3, 4, 5, 6, 7, 8, 9, 10, 11, 12, 13, 14, 15, 16, 17, 18, 19, 20, 21, 22, 23, 24, 25, 26, 27, 28, 39]) (js2 := [1, 2]) (by decide) (by decide) (by decide)) (by exact h.2.1) ⟨hB.choose, hB.choose_spec.1, hB.choose_spec.2.lift⟩)



