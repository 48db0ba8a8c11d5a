theorem mvX10_sweepK (l : Launch) (D : va_G) (yv : Nat → ClassId) : vMt l D yv yX10_sweep cX10_sweep 3 (some .int) 2 (fun _ => 0) (fun _ => 0) (pubE ar1 RsK) := by
  refine (vOf1 (mX10_sweep l D yv) subB0 (by decide)).mono (fun w as σ Q h => ?_)
  obtain ⟨hJ, ⟨x1, rfl⟩, hQ⟩ := h
  refine ⟨by rfl, ?_⟩
  exact sX10_sweep (σ := xsel tB σ) (by exact hJ.g) (by exact hJ.1.2.2.2.1) (fun r ς f h => hQ _ w _ (hJ.sm (ts := [46]) (js := [17]) (f.bk0 (by decide) (by decide) (by decide)) (by decide) (by rw [(f.bk0 (τ := tB) (ts2 := [46]) (js2 := [17]) (by decide) (by decide) (by decide)).2 1 (by decide)]; exact hJ.1.1) (by exact h)) ⟨⟨_, rfl⟩, (f.bk0 (τ := tB) (ts2 := [46]) (js2 := [17]) (by decide) (by decide) (by decide)).2 1 (by decide), rfl, kk_fr (f.bk0 (τ := tB) (ts2 := [46]) (js2 := [17]) (by decide) (by decide) (by decide))⟩)
theorem mvX10_endK (l : Launch) (D : va_G) (yv : Nat → ClassId) : vMt l D yv yX10_end cX10_end 2 (some .boolean) 0 (fun _ => 0) (fun _ => 0) (pubE ar1 RendK) := by
  refine (vOf1 (mX10_end l D yv) subB0 (by decide)).mono (fun w as σ Q h => ?_)
  obtain ⟨hJ, ⟨x1, rfl⟩, hQ⟩ := h
  refine ⟨by rfl, ?_⟩
  exact sX10_end (σ := xsel tB σ) (by exact hJ.1.1) (fun r ς f h => hQ _ w _ (hJ.sm (ts := []) (js := [1]) (f.bk0 (by decide) (by decide) (by decide)) (by decide) (by have h9 := hJ.1.1; have h8 : ((x1 < 0 ∨ σ 0 1 < x1) ∧ r = 0 ∧ ς 0 1 = σ 0 1) ∨ (0 ≤ x1 ∧ x1 ≤ σ 0 1 ∧ r = 1 ∧ ς 0 1 = x1) := h; show 0 ≤ ς 0 1 ∧ ς 0 1 ≤ 940; omega) (by rw [(f.bk0 (τ := tB) (ts2 := []) (js2 := [1]) (by decide) (by decide) (by decide)).2 17 (by decide)]; exact hJ.1.2.2.2.1)) ⟨⟨r, rfl, fun n hn => by cases hn; exact h⟩, rfl, kk_fr (f.bk0 (τ := tB) (ts2 := []) (js2 := [1]) (by decide) (by decide) (by decide))⟩)
theorem mvX10_sentenceK (l : Launch) (D : va_G) (yv : Nat → ClassId) : vMt l D yv yX10_sentence cX10_sentence 2 (some .int) 34 (fun _ => 0) (fun _ => 0) (pubE ar0 RzK) := by
  refine (vOf2 (mX10_sentence l D yv) subB0 subB1 (by decide) (by decide)).mono (fun w as σ Q h => ?_)
  obtain ⟨hJ, rfl, hQ⟩ := h
  refine ⟨by rfl, ?_⟩
  exact SENTENCEE_i (σ := xsel tB σ) (by exact hJ.1.1) (by exact hJ.g) (by exact hJ.1.2.2.1) (fun r ς f h => by
    have f2 := f.bk0 (τ := tB) (ts2 := [30, 36, 37, 38, 28, 29]) (js2 := [1, 2]) (by decide) (by decide) (by decide)
    have hu : ∀ t, t ≠ 0 → (t = 39 ∨ (2 ≤ t ∧ t ≤ 14)) → xbk tB σ ς t = σ t := fun t h0 ht => f2.1 t h0 (by simp only [List.mem_cons, List.not_mem_nil, or_false]; omega)
    exact hQ _ w _ (JW.fr hJ (fun t h1 _ => xbk_hi (by omega)) (by show 0 ≤ ς 0 1 ∧ ς 0 1 ≤ 940; have h8 : ς 0 1 = 0 := h.1; omega) (jg_sel hJ.g (fun k hk => hu _ (by omega) (by omega))) (by exact h.2) (by rw [f2.2 17 (by decide)]; exact hJ.1.2.2.2.1) (by rw [hu 39 (by omega) (by omega)]; exact ⟨hJ.p.1, hJ.p.2.1⟩)) ⟨⟨_, rfl⟩, h.1, rfl, kk_fr f2⟩)
theorem mvX10_feedK (l : Launch) (D : va_G) (yv : Nat → ClassId) : vMt l D yv yX10_feed cX10_feed 6 (some .int) 1 (fun _ => 0) (fun _ => 0) feedEK := by
  refine (vOf1 (mX10_feed l D yv) subB0 (by decide)).mono (fun w as σ Q h => ?_)
  obtain ⟨x1, x2, x3, x4, x5, rfl, hJ, hQ⟩ := h
  refine ⟨by rfl, ?_⟩
  refine sX10_feedF (σ := xsel tB σ) (by exact hJ.1.1) (fun r ς f h => ?_)
  have f2 := f.bk0 (τ := tB) (ts2 := [1]) (js2 := [1]) (by decide) (by decide) (by decide)
  refine hQ _ w _ (hJ.sm (ts := [1]) (js := [1]) f2 (by decide) (by have h9 := hJ.1.1; have h8 : (940 < σ 0 1 + 20 ∧ ς 0 1 = σ 0 1) ∨ (σ 0 1 + 20 ≤ 940 ∧ ς 0 1 = σ 0 1 + 20) := h.elim (fun h => Or.inl ⟨h.1, h.2.2.1⟩) (fun h => Or.inr ⟨h.1, h.2.2.1⟩); show 0 ≤ ς 0 1 ∧ ς 0 1 ≤ 940; omega) (by rw [f2.2 17 (by decide)]; exact hJ.1.2.2.2.1)) ⟨⟨r, rfl, h⟩, rfl, rfl, fun h => h, f2.1 31 (by decide) (by decide)⟩ ⟨stc_fr f2 (by decide), fun _ _ _ => rfl⟩
set_option maxHeartbeats 4000000 in
set_option maxRecDepth 100000 in
theorem mvX10_openK (l : Launch) (D : va_G) (yv : Nat → ClassId) : vMt l D yv yX10_open cX10_open 1 (some .int) 47 (fun _ => 5) (fun _ => 2526) (pubE ar0 RsK) := by
  intro a ρ w sz as σ Q hE hLK hσ has
  obtain ⟨hJ, rfl, hQ⟩ := hE
  refine vEnter (N := 194) (sh := vsh w) (by decide +kernel) (Nat.le_of_ble_eq_true rfl) hσ has (fun p e s m below meth c hsz hXX hC => ?_)
  generalize va_A (xws a yv ρ 194 (vsh w) σ) sz = A at hC ⊢
  show XA (0, 0) p l e (vroom 47 ((fun _ => 5) w) ((fun _ => 2526) w)) s m _ below meth c D yv a ρ 194 (vsh w) A 1 _ 0 [xvr 0] [] σ
  refine vTE (C := kX10_open_a w) (w := w) (w0 := w) (a0 := a) (mc := 5) (ms := 2526) (Z := fun c L σ1 => σ 2 0 ≤ 3 ∧ c = 7 ∧ L = [xvr 0] ∧ σ = σ1) ⟨(Nat.le_of_ble_eq_true rfl), (Nat.le_of_ble_eq_true rfl)⟩ hC (zX10_open_a w) (fun v i n E he => (hX10_open_a w l D yv v i n E he).up (Nat.le_of_ble_eq_true rfl)) (Nat.le_of_ble_eq_true rfl) (Nat.le_of_ble_eq_true rfl) rfl hLK (fun _ _ => rfl) (pX10_open_a hJ.g (fun r σ1 f => ⟨(fun _ h => by cases h), hQ _ w σ1 (frJW hJ f) ⟨⟨_, rfl⟩, f.2 1 (by simp), rfl, kk_fr f⟩⟩) (fun h1 => ⟨h1, rfl, rfl, rfl⟩)) ?_
  rintro _ _ _ ⟨h1, rfl, rfl, rfl⟩
  refine xs_aload hC (i := 0) (x := 0) dX10_open_7 rfl ?_
  refine vs_callV (rest := []) (as' := []) (t := 0) (ci := 10) (n := 0) (K := fun r w' σ' => r = some (xvr 189) ∧ w' = wOn w 14 ∧ ∀ t, blkV t ≠ 14 → σ' t = σ t) hC hXX (mvX10_takeDuel l D yv) (Nat.le_of_ble_eq_true rfl) q_4_137 q_4_139 q_p_28 q_1_1 q_4_140 rfl rfl (by decide +kernel) (by decide) (Nat.le_of_ble_eq_true rfl) (Nat.le_of_ble_eq_true rfl) dX10_open_8 (sh0 _) rfl (by decide) hLK (vLp (by rfl)) (fun u hu => by cases hu) ⟨rfl, fun σ' h => ⟨rfl, rfl, h⟩⟩ (fun r w1 a1 ρ1 σ1 hk hLK1 hag1 => ?_)
  obtain ⟨rfl, rfl, h0⟩ := hk
  have hJ1 : JW (wOn w 14) σ1 := (hJ.hi (fun t ht => h0 t (by unfold blkV; split <;> (try split) <;> (try split) <;> (try split) <;> omega))).w (fun c hc => if_neg (by omega))
  refine vTS (C := kX10_open_b (wOn w 14)) (w := (wOn w 14)) (w0 := w) (a0 := a) (mc := 5) (ms := 2526) (Z := fun _ _ _ => False) ⟨(Nat.le_of_ble_eq_true rfl), (Nat.le_of_ble_eq_true rfl)⟩ hC (zX10_open_b (wOn w 14)) (fun v i n E he => (hX10_open_b (wOn w 14) (if_pos rfl) l D yv v i n E he).up (Nat.le_of_ble_eq_true rfl)) (Nat.le_of_ble_eq_true rfl) (Nat.le_of_ble_eq_true rfl) rfl hLK1 hag1 (pX10_open_b hJ1.g (by rw [h0 2 (by decide)]; exact h1) (fun r σ2 f => ⟨(fun _ h => by cases h), hQ _ (wOn w 14) σ2 (hJ1.hi (fun t ht => fr0 f (fun hm => by simp only [List.mem_cons, List.not_mem_nil, or_false] at hm; omega))) ⟨⟨_, rfl⟩, (f.2 1 (by simp)).trans (congrFun (h0 0 (by decide)) 1), rfl, kk_on (by first | exact Or.inl rfl | exact Or.inr rfl) h0 f⟩⟩)) (fun _ _ _ h => h.elim)
set_option maxHeartbeats 4000000 in
set_option maxRecDepth 100000 in
theorem mvX10_firstK (l : Launch) (D : va_G) (yv : Nat → ClassId) : vMt l D yv yX10_first cX10_first 1 (some .int) 47 (fun _ => 5) (fun _ => 2526) (pubE ar0 RsK) := by
  intro a ρ w sz as σ Q hE hLK hσ has
  obtain ⟨hJ, rfl, hQ⟩ := hE
  refine vEnter (N := 194) (sh := vsh w) (by decide +kernel) (Nat.le_of_ble_eq_true rfl) hσ has (fun p e s m below meth c hsz hXX hC => ?_)
  generalize va_A (xws a yv ρ 194 (vsh w) σ) sz = A at hC ⊢
  show XA (0, 0) p l e (vroom 47 ((fun _ => 5) w) ((fun _ => 2526) w)) s m _ below meth c D yv a ρ 194 (vsh w) A 1 _ 0 [xvr 0] [] σ
  refine vTE (C := kX10_first_a w) (w := w) (w0 := w) (a0 := a) (mc := 5) (ms := 2526) (Z := fun c L σ1 => σ 2 0 ≤ 3 ∧ c = 7 ∧ L = [xvr 0] ∧ σ = σ1) ⟨(Nat.le_of_ble_eq_true rfl), (Nat.le_of_ble_eq_true rfl)⟩ hC (zX10_first_a w) (fun v i n E he => (hX10_first_a w l D yv v i n E he).up (Nat.le_of_ble_eq_true rfl)) (Nat.le_of_ble_eq_true rfl) (Nat.le_of_ble_eq_true rfl) rfl hLK (fun _ _ => rfl) (pX10_first_a hJ.g (fun r σ1 f => ⟨(fun _ h => by cases h), hQ _ w σ1 (frJW hJ f) ⟨⟨_, rfl⟩, f.2 1 (by simp), rfl, kk_fr f⟩⟩) (fun h1 => ⟨h1, rfl, rfl, rfl⟩)) ?_
  rintro _ _ _ ⟨h1, rfl, rfl, rfl⟩
  refine xs_aload hC (i := 0) (x := 0) dX10_first_7 rfl ?_
  refine vs_callV (rest := []) (as' := []) (t := 0) (ci := 10) (n := 0) (K := fun r w' σ' => r = some (xvr 189) ∧ w' = wOn w 14 ∧ ∀ t, blkV t ≠ 14 → σ' t = σ t) hC hXX (mvX10_takeDuel l D yv) (Nat.le_of_ble_eq_true rfl) q_4_137 q_4_139 q_p_28 q_1_1 q_4_140 rfl rfl (by decide +kernel) (by decide) (Nat.le_of_ble_eq_true rfl) (Nat.le_of_ble_eq_true rfl) dX10_first_8 (sh0 _) rfl (by decide) hLK (vLp (by rfl)) (fun u hu => by cases hu) ⟨rfl, fun σ' h => ⟨rfl, rfl, h⟩⟩ (fun r w1 a1 ρ1 σ1 hk hLK1 hag1 => ?_)
  obtain ⟨rfl, rfl, h0⟩ := hk
  have hJ1 : JW (wOn w 14) σ1 := (hJ.hi (fun t ht => h0 t (by unfold blkV; split <;> (try split) <;> (try split) <;> (try split) <;> omega))).w (fun c hc => if_neg (by omega))
  refine vTS (C := kX10_first_b (wOn w 14)) (w := (wOn w 14)) (w0 := w) (a0 := a) (mc := 5) (ms := 2526) (Z := fun _ _ _ => False) ⟨(Nat.le_of_ble_eq_true rfl), (Nat.le_of_ble_eq_true rfl)⟩ hC (zX10_first_b (wOn w 14)) (fun v i n E he => (hX10_first_b (wOn w 14) (if_pos rfl) l D yv v i n E he).up (Nat.le_of_ble_eq_true rfl)) (Nat.le_of_ble_eq_true rfl) (Nat.le_of_ble_eq_true rfl) rfl hLK1 hag1 (pX10_first_b hJ1.g (by rw [h0 2 (by decide)]; exact h1) (fun r σ2 f => ⟨(fun _ h => by cases h), hQ _ (wOn w 14) σ2 (hJ1.hi (fun t ht => fr0 f (fun hm => by simp only [List.mem_cons, List.not_mem_nil, or_false] at hm; omega))) ⟨⟨_, rfl⟩, (f.2 1 (by simp)).trans (congrFun (h0 0 (by decide)) 1), rfl, kk_on (by first | exact Or.inl rfl | exact Or.inr rfl) h0 f⟩⟩)) (fun _ _ _ h => h.elim)

