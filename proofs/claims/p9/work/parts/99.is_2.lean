set_option maxHeartbeats 4000000 in
set_option maxRecDepth 100000 in
theorem pX10_deal_bF {f : Nat → Int} {w : Nat → Bool} {σ : xS} {n seed : Int} {Q : Option xV → xS → Prop} {Z : Nat → List xV → xS → Prop} (hp0 : JG (xsel [2, 3, 4, 5, 6, 7, 8, 9, 10, 11, 12, 13, 14] σ)) (hp1 : gmC 2 σ f) (hp2 : TV f) (hp3 : DLc2 f n) (hQ : ∀ r : Int, ∀ σ' : xS, Fr [2, 4, 5, 6, 7, 8, 9, 10, 11, 12, 13, 14] [] σ σ' → (r = 1 ∧ JG (xsel [2, 3, 4, 5, 6, 7, 8, 9, 10, 11, 12, 13, 14] σ') ∧ gmC 2 σ' (dealF f n seed)) → Q (some (xvi r)) σ') : xTE (kX10_deal_b w) Q Z 35 [xvr 0, xvi n, xvi seed] σ := by
  intro X hX hZZ
  have hF : Fr [2, 4, 5, 6, 7, 8, 9, 10, 11, 12, 13, 14] [] σ σ := Fr.rf
  refine hX 400 35 _ _ ?_
  have hb0 : 0 ≤ σ 2 0 ∧ σ 2 0 ≤ 13 := hp0.1.1.1
  have hb1 : 0 ≤ σ 2 1 ∧ σ 2 1 ≤ 6 := hp0.1.1.2.1
  have hb8 : 0 ≤ σ 2 8 ∧ σ 2 8 ≤ σ 2 9 ∧ σ 2 9 ≤ 52 := hp0.1.1.2.2.1
  have hb9 : 0 ≤ σ 11 2 ∧ σ 11 2 ≤ 52 := hp0.1.2.2.2
  have hf := hp1
  have hT := hp2
  have n0 : σ 2 0 = f 0 := hf.1.n0 (i := 0) (by decide)
  have n1 : σ 2 1 = f 1 := hf.1.n0 (i := 1) (by decide)
  have m0 := hT.1.1.1.1
  have m1 := hT.1.1.1.2.1
  have m3 := hT.1.1.1.2.2.1
  have hC := hp0.1
  obtain ⟨hA1, hA2, hA3, hA4⟩ := id hp3
  have hvs := (dlF_vs (f := f) (n := n) (seed := seed) (by omega) (by omega) (by omega) hA1).1
  have hdv := dealF_v (f := f) (n := n) (seed := seed) (by omega) (by omega) (by omega) hA1 hT.2.1
  refine xMVf (sh := (shW wlVF0 w)) (ci := 2) (τ := [2, 3, 4, 5, 6, 7, 8, 9, 10, 11, 12, 13, 14]) (E := xT kX2_dealOut) (t := 2) (r := [xvi n, xvi seed]) (σ := σ) rfl rfl (fun Q1 hQ1 => sX2_dealOutJ (σ := xsel [2, 3, 4, 5, 6, 7, 8, 9, 10, 11, 12, 13, 14] σ) (n := n) (seed := seed) (show 0 ≤ (σ 2 0) ∧ (σ 2 0) ≤ 13 from by omega) (show 0 ≤ (σ 2 1) ∧ (σ 2 1) ≤ 6 from by omega) (show ∀ i, i < 4 → σ 2 i = f i from fun i hi => hf.1.n0 hi) (show 1 ≤ f 0 ∧ f 0 ≤ 13 from by omega) (show 1 ≤ f 1 ∧ f 1 ≤ 6 from by omega) (show 0 ≤ f 3 ∧ f 3 ≤ 9 from by omega) (show 1 ≤ n ∧ n ≤ 9 from by omega) (show n * f 1 ≤ 4 * f 0 from by omega) (fun ς1 f1 p1 => hQ1 _ _ ?_))
  have kq1_0 : (xbk [2, 3, 4, 5, 6, 7, 8, 9, 10, 11, 12, 13, 14] σ ς1) 2 0 = σ 2 0 := f1.2 0 (by decide)
  have kq1_1 : (xbk [2, 3, 4, 5, 6, 7, 8, 9, 10, 11, 12, 13, 14] σ ς1) 2 1 = σ 2 1 := f1.2 1 (by decide)
  have kq1_2 : (xbk [2, 3, 4, 5, 6, 7, 8, 9, 10, 11, 12, 13, 14] σ ς1) 2 2 = σ 2 2 := f1.2 2 (by decide)
  replace f1 : Fr [2, 4, 5, 6] [] σ (xbk [2, 3, 4, 5, 6, 7, 8, 9, 10, 11, 12, 13, 14] σ ς1) := f1.bk (by decide) (by decide)
  replace p1 : (C0x (xsel [2, 3, 4, 5, 6, 7, 8, 9, 10, 11, 12, 13, 14] (xbk [2, 3, 4, 5, 6, 7, 8, 9, 10, 11, 12, 13, 14] σ ς1)) ∧ ∀ i : Nat, (i : Int) < (xbk [2, 3, 4, 5, 6, 7, 8, 9, 10, 11, 12, 13, 14] σ ς1) 2 9 → (xbk [2, 3, 4, 5, 6, 7, 8, 9, 10, 11, 12, 13, 14] σ ς1) 6 i < (xbk [2, 3, 4, 5, 6, 7, 8, 9, 10, 11, 12, 13, 14] σ ς1) 2 0) ∧ G0 (xsel [2, 3, 4, 5, 6, 7, 8, 9, 10, 11, 12, 13, 14] (xbk [2, 3, 4, 5, 6, 7, 8, 9, 10, 11, 12, 13, 14] σ ς1)) (dlF f n seed) := p1
  generalize xbk [2, 3, 4, 5, 6, 7, 8, 9, 10, 11, 12, 13, 14] σ ς1 = σ1 at f1 kq1_0 kq1_1 kq1_2 p1 ⊢
  have hF := hF.tr f1 (by decide) (by decide)
  have hag : σ1 2 2 = 0 ∨ σ1 2 2 = 1 := by rw [kq1_2]; exact hp0.2.1
  have hck := p1.1.2
  have hG0 : G0 (xsel [2, 3, 4, 5, 6, 7, 8, 9, 10, 11, 12, 13, 14] σ1) (dlF f n seed) := p1.2
  refine xMVf (sh := (shW wlVF0 w)) (ci := 2) (τ := [2, 3, 4, 5, 6, 7, 8, 9, 10, 11, 12, 13, 14]) (E := xT kX2_start) (t := 2) (r := []) (σ := σ1) rfl rfl (fun Q2 hQ2 => sX2_startG (σ := xsel [2, 3, 4, 5, 6, 7, 8, 9, 10, 11, 12, 13, 14] σ1)  (show G0 (xsel [2, 3, 4, 5, 6, 7, 8, 9, 10, 11, 12, 13, 14] σ1) (dlF f n seed) from hG0) (show VS 0 (dlF f n seed) from hvs) (fun ς2 f2 p2 => hQ2 _ _ ?_))
  have kq2_0 : (xbk [2, 3, 4, 5, 6, 7, 8, 9, 10, 11, 12, 13, 14] σ1 ς2) 2 0 = σ1 2 0 := f2.2 0 (by decide)
  have kq2_1 : (xbk [2, 3, 4, 5, 6, 7, 8, 9, 10, 11, 12, 13, 14] σ1 ς2) 2 1 = σ1 2 1 := f2.2 1 (by decide)
  have kq2_2 : (xbk [2, 3, 4, 5, 6, 7, 8, 9, 10, 11, 12, 13, 14] σ1 ς2) 2 2 = σ1 2 2 := f2.2 2 (by decide)
  have kq2_9 : (xbk [2, 3, 4, 5, 6, 7, 8, 9, 10, 11, 12, 13, 14] σ1 ς2) 2 9 = σ1 2 9 := f2.2 9 (by decide)
  replace f2 : Fr [2, 4, 5, 7, 8, 9, 10, 11, 12, 13, 14] [] σ1 (xbk [2, 3, 4, 5, 6, 7, 8, 9, 10, 11, 12, 13, 14] σ1 ς2) := f2.bk (by decide) (by decide)
  replace p2 : gmC 2 (xbk [2, 3, 4, 5, 6, 7, 8, 9, 10, 11, 12, 13, 14] σ1 ς2) (dealF f n seed) := gm_bk p2.1 p2.2 (by decide)
  generalize xbk [2, 3, 4, 5, 6, 7, 8, 9, 10, 11, 12, 13, 14] σ1 ς2 = σ2 at f2 kq2_0 kq2_1 kq2_2 kq2_9 p2 ⊢
  have hF := hF.tr f2 (by decide) (by decide)
  have hJ : JG (xsel [2, 3, 4, 5, 6, 7, 8, 9, 10, 11, 12, 13, 14] σ2) := by
    refine ⟨GR.cg p2.1 hdv.1.1.1, ?_, fun i hi => ?_⟩
    · show σ2 2 2 = 0 ∨ σ2 2 2 = 1
      rw [kq2_2]; exact hag
    · have hi : (i : Int) < σ2 2 9 := hi
      show σ2 6 i < σ2 2 0
      rw [kq2_9] at hi
      rw [kq2_0, f2.1 6 (by decide) (by decide)]; exact hck i hi
  refine And.intro rfl ?_
  refine And.intro (by omega) ?_
  exact hQ _ _ hF ⟨rfl, hJ, p2⟩
set_option maxHeartbeats 4000000 in
set_option maxRecDepth 100000 in
theorem pX10_undo_bF {w : Nat → Bool} {σ : xS} {b : Int} {Q : Option xV → xS → Prop} {Z : Nat → List xV → xS → Prop} (hQ : ∀ r : Int, ∀ σ' : xS, Fr [] [] σ σ' → ((b = 0 ∧ r = -1) ∨ (¬ b = 0 ∧ r = σ 39 2)) → Q (some (xvi r)) σ') : xTS (kX10_undo_b w) Q Z 11 [xvr 0] [xvi b] σ := by
  intro X hX hZZ
  have hF : Fr [] [] σ σ := Fr.rf
  refine ⟨400, ?_⟩
  show xw _ _ _ _ _ _ _ _ _ _ [xvr 0] [xvi b] _
  refine And.intro (fun c1 => ?_) (fun c1 => ?_)
  · refine And.intro rfl ?_
    exact hQ _ _ hF (show (b = 0 ∧ (-1) = -1) ∨ (¬ b = 0 ∧ (-1) = σ 39 2) from by first | trivial | omega)
  · intro v2 e2 l2 h2
    have e2 : v2 = σ 39 2 := e2
    refine And.intro rfl ?_
    exact hQ _ _ hF (show (b = 0 ∧ v2 = -1) ∨ (¬ b = 0 ∧ v2 = σ 39 2) from by first | trivial | omega)
set_option maxHeartbeats 4000000 in
set_option maxRecDepth 100000 in
theorem mvX10_askF (l : Launch) (D : va_G) (yv : Nat → ClassId) : vMt l D yv yX10_ask cX10_ask 6 (some .int) 6 (fun _ => 13) (fun _ => 331) askEF := by
  intro a ρ w sz as σ Q hE hLK hσ has
  obtain ⟨f, p0, q0, k0, l0, rfl, hJ, hf, hT, hQ⟩ := hE
  refine vEnter (N := 194) (sh := vsh w) (by decide +kernel) (Nat.le_of_ble_eq_true rfl) hσ has (fun p e s m below meth c hsz hXX hC => ?_)
  generalize va_A (xws a yv ρ 194 (vsh w) σ) sz = A at hC ⊢
  show XA (0, 0) p l e (vroom 6 ((fun _ => 13) w) ((fun _ => 331) w)) s m _ below meth c D yv a ρ 194 (vsh w) A 6 _ 0 [xvr 0, xvi p0, xvi q0, xvi k0, xvi l0, xvu] [] σ
  refine vTE (C := kX10_ask_a w) (w := w) (w0 := w) (a0 := a) (mc := 13) (ms := 331) (Z := fun c L σ1 => ∃ wn : Int, ((ASK f p0 q0 k0 ∧ (0 ≤ l0 ∧ l0 ≤ 1)) ∧ whyF f p0 q0 k0.toNat = 0) ∧ (0 ≤ p0 ∧ p0 ≤ 5) ∧ (0 ≤ q0 ∧ q0 ≤ 5) ∧ (0 ≤ k0 ∧ k0 ≤ 12) ∧ (0 ≤ l0 ∧ l0 ≤ 1) ∧ c = 46 ∧ L = [xvr 0, xvi p0, xvi q0, xvi k0, xvi l0, xvi wn] ∧ σ = σ1) ⟨(Nat.le_of_ble_eq_true rfl), (Nat.le_of_ble_eq_true rfl)⟩ hC (zX10_ask_a w) (fun v i n E he => (hX10_ask_a w l D yv v i n E he).up (Nat.le_of_ble_eq_true rfl)) (Nat.le_of_ble_eq_true rfl) (Nat.le_of_ble_eq_true rfl) rfl hLK (fun _ _ => rfl) (pX10_ask_aF hJ.g hf hT (fun r σ1 f9 h9 => ⟨(fun _ h => by cases h), hQ _ w σ1 (frJW hJ f9) (kt_fr f9) (by rcases h9 with ⟨a, b⟩ | ⟨a, b, c9⟩; exact Or.inl ⟨a, b, rfl, fun t => fr0 f9 (by simp)⟩; exact Or.inr (Or.inl ⟨a, b, c9, rfl, fun t => fr0 f9 (by simp)⟩))⟩) (fun wn hA h1 h2 h3 h4 => ⟨wn, hA, h1, h2, h3, h4, rfl, rfl, rfl⟩)) ?_
  rintro _ _ _ ⟨wn, hA, h1, h2, h3, h4, rfl, rfl, rfl⟩
  refine xs_aload hC (i := 0) (x := 0) dX10_ask_46 rfl ?_
  refine xs_get hC (vfi w) (foX10 70 10 10 rfl) (cd := 43) (v := xvr 39) (sh0 w) rfl rfl (fun _ => trivial) dX10_ask_47 ?_
  refine xs_aload hC (i := 0) (x := 0) dX10_ask_50 rfl ?_
  refine xs_get hC (vfi w) (foX10 23 10 3 rfl) (cd := 6) (v := xvr 2) (sh0 w) rfl rfl (fun _ => trivial) dX10_ask_51 ?_
  refine vs_callV (rest := []) (as' := [xvr 2]) (t := 39) (ci := 5) (n := 1) (codes := [44, 0, 0]) (K := fun r w' σ' => r = none ∧ keepR w σ w' σ' ∧ kpF w σ w' σ' 2 f) hC hXX (mvX5_keepF l D yv) (Nat.le_of_ble_eq_true rfl) q_3_177 q_3_178 q_3_179 q_1_14 q_3_180 rfl rfl (by decide +kernel) (by decide) (Nat.le_of_ble_eq_true rfl) (Nat.le_of_ble_eq_true rfl) dX10_ask_54 (sh39 _) rfl (by decide) hLK (vLp (by rfl)) (fun u hu => by cases hu) ⟨2, f, rfl, Or.inl rfl, hJ.p, hJ.g, hf, fun w' σ' h h9 => ⟨rfl, h, h9⟩⟩ (fun r w1 a1 ρ1 σ1 hk hLK1 hag1 => ?_)
  obtain ⟨rfl, hR, hkp⟩ := hk
  have hf1 : gmC 2 σ1 f := hf.eq (fun t h5 h6 => hkp.lo (by omega) (by omega))
  refine vTE (C := kX10_ask_b w1) (w := w1) (w0 := w) (a0 := a) (mc := 13) (ms := 331) (Z := fun _ _ _ => False) ⟨(Nat.le_of_ble_eq_true rfl), (Nat.le_of_ble_eq_true rfl)⟩ hC (zX10_ask_b w1) (fun v i n E he => (hX10_ask_b w1 l D yv v i n E he).up (Nat.le_of_ble_eq_true rfl)) (Nat.le_of_ble_eq_true rfl) (Nat.le_of_ble_eq_true rfl) rfl hLK1 hag1 (pX10_ask_bF (hJ.keep hR).g hf1 hT h1 h2 h3 hA.1 hA.2 (fun r σ2 f9 hg => ⟨(fun _ h => by cases h), hQ _ w1 σ2 ((hJ.keep hR).ga f9 (by decide) hg.1) (KT.tr ⟨hkp.lo (t := 1) (by decide) (by decide), hkp.lo (t := 31) (by decide) (by decide)⟩ (kt_fr f9)) (Or.inr (Or.inr ⟨hA.1, hA.2, hkp.g (fun _ _ => rfl) (fun t ht => fr0 f9 (fun hm => by simp only [List.mem_cons, List.not_mem_nil, or_false] at hm; omega)) (fr0 f9 (by decide)), hg.2.1, hg.2.2.1, hg.2.2.2, fun t h5 h6 h7 h8 => (fr0 f9 (fun hm => by simp only [List.mem_cons, List.not_mem_nil, or_false] at hm; omega)).trans (hkp.lo h5 h6)⟩))⟩)) (fun _ _ _ h => h.elim)
set_option maxHeartbeats 4000000 in
set_option maxRecDepth 100000 in
theorem mvX10_dealF (l : Launch) (D : va_G) (yv : Nat → ClassId) : vMt l D yv yX10_deal cX10_deal 3 (some .boolean) 6 (fun _ => 13) (fun _ => 331) dealEF := by
  intro a ρ w sz as σ Q hE hLK hσ has
  obtain ⟨f, n0, s0, rfl, hJ, hf, hT, hQ⟩ := hE
  refine vEnter (N := 194) (sh := vsh w) (by decide +kernel) (Nat.le_of_ble_eq_true rfl) hσ has (fun p e s m below meth c hsz hXX hC => ?_)
  generalize va_A (xws a yv ρ 194 (vsh w) σ) sz = A at hC ⊢
  show XA (0, 0) p l e (vroom 6 ((fun _ => 13) w) ((fun _ => 331) w)) s m _ below meth c D yv a ρ 194 (vsh w) A 3 _ 0 [xvr 0, xvi n0, xvi s0] [] σ
  refine vTE (C := kX10_deal_a w) (w := w) (w0 := w) (a0 := a) (mc := 13) (ms := 331) (Z := fun c L σ1 => DLc2 f n0 ∧ c = 24 ∧ L = [xvr 0, xvi n0, xvi s0] ∧ σ = σ1) ⟨(Nat.le_of_ble_eq_true rfl), (Nat.le_of_ble_eq_true rfl)⟩ hC (zX10_deal_a w) (fun v i n E he => (hX10_deal_a w l D yv v i n E he).up (Nat.le_of_ble_eq_true rfl)) (Nat.le_of_ble_eq_true rfl) (Nat.le_of_ble_eq_true rfl) rfl hLK (fun _ _ => rfl) (pX10_deal_aF hJ.g hf hT (fun r σ1 f9 h9 => ⟨(fun _ h => by cases h), hQ _ w σ1 (frJW hJ f9) (kt_fr f9) (Or.inl ⟨h9.2, h9.1, rfl, fun t => fr0 f9 (by simp)⟩)⟩) (fun hA => ⟨hA, rfl, rfl, rfl⟩)) ?_
  rintro _ _ _ ⟨hA, rfl, rfl, rfl⟩
  refine xs_aload hC (i := 0) (x := 0) dX10_deal_24 rfl ?_
  refine xs_get hC (vfi w) (foX10 70 10 10 rfl) (cd := 43) (v := xvr 39) (sh0 w) rfl rfl (fun _ => trivial) dX10_deal_25 ?_
  refine xs_aload hC (i := 0) (x := 0) dX10_deal_28 rfl ?_
  refine xs_get hC (vfi w) (foX10 23 10 3 rfl) (cd := 6) (v := xvr 2) (sh0 w) rfl rfl (fun _ => trivial) dX10_deal_29 ?_
  refine vs_callV (rest := []) (as' := [xvr 2]) (t := 39) (ci := 5) (n := 1) (codes := [44, 0, 0]) (K := fun r w' σ' => r = none ∧ keepR w σ w' σ' ∧ kpF w σ w' σ' 2 f) hC hXX (mvX5_keepF l D yv) (Nat.le_of_ble_eq_true rfl) q_3_177 q_3_178 q_3_179 q_1_14 q_3_180 rfl rfl (by decide +kernel) (by decide) (Nat.le_of_ble_eq_true rfl) (Nat.le_of_ble_eq_true rfl) dX10_deal_32 (sh39 _) rfl (by decide) hLK (vLp (by rfl)) (fun u hu => by cases hu) ⟨2, f, rfl, Or.inl rfl, hJ.p, hJ.g, hf, fun w' σ' h h9 => ⟨rfl, h, h9⟩⟩ (fun r w1 a1 ρ1 σ1 hk hLK1 hag1 => ?_)
  obtain ⟨rfl, hR, hkp⟩ := hk
  have hf1 : gmC 2 σ1 f := hf.eq (fun t h5 h6 => hkp.lo (by omega) (by omega))
  refine vTE (C := kX10_deal_b w1) (w := w1) (w0 := w) (a0 := a) (mc := 13) (ms := 331) (Z := fun _ _ _ => False) ⟨(Nat.le_of_ble_eq_true rfl), (Nat.le_of_ble_eq_true rfl)⟩ hC (zX10_deal_b w1) (fun v i n E he => (hX10_deal_b w1 l D yv v i n E he).up (Nat.le_of_ble_eq_true rfl)) (Nat.le_of_ble_eq_true rfl) (Nat.le_of_ble_eq_true rfl) rfl hLK1 hag1 (pX10_deal_bF (hJ.keep hR).g hf1 hT hA (fun r σ2 f9 hg => ⟨(fun _ h => by cases h), hQ _ w1 σ2 ((hJ.keep hR).ga f9 (by decide) hg.2.1) (KT.tr ⟨hkp.lo (t := 1) (by decide) (by decide), hkp.lo (t := 31) (by decide) (by decide)⟩ (kt_fr f9)) (Or.inr ⟨hA, hg.1, hkp.g (fun _ _ => rfl) (fun t ht => fr0 f9 (fun hm => by simp only [List.mem_cons, List.not_mem_nil, or_false] at hm; omega)) (fr0 f9 (by decide)), hg.2.2, fun t h5 h6 h8 => (fr0 f9 (fun hm => by simp only [List.mem_cons, List.not_mem_nil, or_false] at hm; omega)).trans (hkp.lo h5 h6)⟩)⟩)) (fun _ _ _ h => h.elim)
