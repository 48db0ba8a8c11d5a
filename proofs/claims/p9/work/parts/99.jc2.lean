/-- how an EVENING's lines end: the class -/
def ENX (σ : xS) (nm : Nat → Int) (ps kd : Int) (b : Nat → Int) (n m : Int) (r : Int) : Prop := (r = 1 ∧ ∃ (i : Nat) (t : EVx), EVN nm ps kd b n m i es0 t ∧ tkc b n m t.p = 302 ∧ σ 0 2 = t.l ∧ σ 2 9 = 0 ∧ ∀ j : Nat, (j : Int) < 4 * t.l → σ 1 j = t.rd j) ∨ (r = 0 ∧ ∃ (i : Nat) (t : EVx), EVN nm ps kd b n m i es0 t ∧ ¬ tkc b n m t.p = 302 ∧ est nm ps kd b n m t = .inl (σ 2 9, σ 2 10))
set_option maxHeartbeats 4000000 in
set_option maxRecDepth 100000 in
theorem pX1_read_bF {b nm : Nat → Int} {n m ps kd : Int} {σ : xS} {size : Int} {Q : Option xV → xS → Prop} {Z : Nat → List xV → xS → Prop} (hp0 : (0 ≤ σ 5 0 ∧ σ 5 0 ≤ 13) ∧ σ 5 0 = kd) (hp1 : (0 ≤ ps ∧ ps ≤ 6) ∧ σ 5 1 = ps) (hp2 : RDv σ b n m 0) (hp3 : σ 0 2 = 0) (hp4 : NMR (σ 6) nm ps) (hQ : ∀ r : Int, ∀ σ' : xS, Fr [1, 2] [2] σ σ' → (ENX σ' nm ps kd b n m r) → Q (some (xvi r)) σ') : xTE kX1_read_b Q Z 17 [xvr 0, xvr 4, xvi size, xvr 5] σ := by
  intro X hX hZZ
  have hF : Fr [1, 2] [2] σ σ := Fr.rf
  have lp_17 : ∀ (m17 : Nat) (s1 : xS), ((31 - s1 0 2).toNat) = m17 → (Fr [1, 2] [2] σ s1 ∧ ∃ (i : Nat) (t : EVx), EVN nm ps kd b n m i es0 t ∧ RDv s1 b n m t.p ∧ (∀ j : Nat, (j : Int) < 4 * t.l → s1 1 j = t.rd j) ∧ s1 0 2 = t.l ∧ (0 ≤ t.l ∧ t.l ≤ 30)) → X 17 [xvr 0, xvr 4, xvi size, xvr 5] s1 := by
    intro m17
    induction m17 using Nat.strongRecOn with
    | _ m17 ih_17 =>
    intro s1 hm_17 hv_17
    obtain ⟨hF, nn, t, hN, hR, hrd, hl, hl30⟩ := hv_17
    have k50 : s1 5 0 = σ 5 0 := congrFun (hF.1 5 (by decide) (by decide)) 0
    have k51 : s1 5 1 = σ 5 1 := congrFun (hF.1 5 (by decide) (by decide)) 1
    have k6 : s1 6 = σ 6 := hF.1 6 (by decide) (by decide)
    refine hX 400 17 _ _ ?_
    -- a line
    intro v2 e2 l2 h2
    have e2 : v2 = s1 0 2 := e2
    refine And.intro (fun c3 => ?_) (fun c3 => ?_)
    · refine hX 400 74 _ _ ?_
      refine And.intro rfl ?_
      refine And.intro (by omega) ?_
      exact hQ _ _ hF (Or.inl ⟨rfl, nn, t, hN, by omega, hl, hR.1.2.2, hrd⟩)
    · have hR : RDv s1 b n m t.p := hR
      refine eIsAt (σ := s1) hR (fun c4 => ?_) (fun c4 => ?_)
      · have _ := c4
        refine And.intro (fun _ => ?_) (fun c5 => absurd c5 (by decide))
        refine hX 400 74 _ _ ?_
        refine And.intro rfl ?_
        refine And.intro (by omega) ?_
        exact hQ _ _ hF (Or.inl ⟨rfl, nn, t, hN, by omega, hl, hR.1.2.2, hrd⟩)
      · have _ := c4
        refine And.intro (fun c6 => absurd (by decide) c6) (fun _ => ?_)
        have hne : ¬ tkc b n m t.p = 302 := by omega
        refine sX1_readLineF (σ := s1) (b := b) (nm := nm) (n := n) (m := m) (ps := ps) (kd := kd) (s := t) (by omega) (by rw [k50]; exact hp0) (by rw [k51]; exact hp1) hR hrd hl (by rw [k6]; exact hp4) (fun r7 σ7 f7 p7 => ?_)
        have hF := hF.tr f7 (by decide) (by decide)
        have kl : σ7 0 2 = t.l := (f7.2 2 (by decide)).trans hl
        refine And.intro (fun c8 => ?_) (fun c8 => ?_)
        · refine hX 400 59 _ _ ?_
          refine And.intro rfl ?_
          refine And.intro (by omega) ?_
          rcases p7 with q | q
          · exact absurd q.1 (by omega)
          · exact hQ _ _ hF (Or.inr ⟨rfl, nn, t, hN, hne, est_l q.2⟩)
        · obtain ⟨u, hu, hR, hru⟩ : ∃ u, evl nm ps kd b n m t = .inr u ∧ RDv σ7 b n m u.p ∧ ∀ j : Nat, (j : Int) < 4 * t.l + 4 → σ7 1 j = u.rd j := by
            rcases p7 with q | q
            · exact q.2
            · exact absurd q.1 (by omega)
          have hul := (evl_r hu).2.1
          have hu30 := (evl_r hu).1
          have hR : RDv σ7 b n m u.p := hR
          refine ePass (σ := σ7) hR (fun c9 σ9 f9 hR => ?_) (fun c9 σ9 f9 hE => ?_)
          · have hF := hF.tr f9 (by decide) (by decide)
            have klp : σ9 0 2 = t.l := (f9.2 2 (by decide)).trans kl
            refine And.intro (fun _ => ?_) (fun c10 => absurd c10 (by decide))
            intro v11 e11 l11 h11
            have e11 : v11 = σ9 0 2 := e11
            intro z12 t12 e12 l12 h12
            try have w12 : t12 = 0 := by omega
            have hF := hF.p (j := 2) (v := z12) (by decide)
            exact ih_17 _ (show (31 - (z12)).toNat < m17 from by omega) (xput σ9 0 2 z12) rfl ⟨hF, nn + 1, evx (tkp b n m u.p) (u.l + 1) u.rd, ⟨t, hN, hne, est_1 hu (by omega)⟩, (show RDv (xput σ9 0 2 z12) b n m (tkp b n m u.p) from hR), (fun j hj => by
                        have hj : (j : Int) < 4 * (u.l + 1) := hj
                        show σ9 1 j = u.rd j
                        rw [show σ9 1 = σ7 1 from f9.1 1 (by decide) (by decide)]
                        exact hru j (by omega)), (show z12 = u.l + 1 from by omega), (show 0 ≤ u.l + 1 ∧ u.l + 1 ≤ 30 from by omega)⟩
          · have hF := hF.tr f9 (by decide) (by decide)
            have klp : σ9 0 2 = t.l := (f9.2 2 (by decide)).trans kl
            refine And.intro (fun c14 => absurd (by decide) c14) (fun _ => ?_)
            refine hX 400 59 _ _ ?_
            refine And.intro rfl ?_
            refine And.intro (by omega) ?_
            exact hQ _ _ hF (Or.inr ⟨rfl, nn, t, hN, hne, by
              rw [hE.1, hE.2]; exact est_0 hu (by omega)⟩)
  exact lp_17 _ σ rfl ⟨hF, 0, es0, rfl, hp2, (fun j hj => absurd hj (by show ¬ (j : Int) < 4 * 0; omega)), hp3, (by show (0 : Int) ≤ 0 ∧ (0 : Int) ≤ 30; omega)⟩
def ERFQ (size : Int) (nm : Nat → Int) (ps kd : Int) (σ : xS) (Q : Option xV → xS → Prop) : Prop := ∀ (r : Int) (σ' : xS), Fr [1, 2] [2] σ σ' → ENX σ' nm ps kd (σ 4) size 500 r → Q (some (xvi r)) σ'
def EREF : xE := fun as σ Q => ∃ (size : Int) (nm : Nat → Int) (ps kd : Int), as = [xvr 0, xvr 4, xvi size, xvr 5] ∧ (0 ≤ size ∧ size ≤ 940) ∧ WDS (σ 3) ∧ ((0 ≤ σ 5 0 ∧ σ 5 0 ≤ 13) ∧ σ 5 0 = kd) ∧ ((0 ≤ ps ∧ ps ≤ 6) ∧ σ 5 1 = ps) ∧ NMR (σ 6) nm ps ∧ ERFQ size nm ps kd σ Q
theorem EREF_i {size : Int} {nm : Nat → Int} {ps kd : Int} {σ : xS} {Q : Option xV → xS → Prop} (h0 : 0 ≤ size ∧ size ≤ 940) (hw : WDS (σ 3)) (h1 : (0 ≤ σ 5 0 ∧ σ 5 0 ≤ 13) ∧ σ 5 0 = kd) (h2 : (0 ≤ ps ∧ ps ≤ 6) ∧ σ 5 1 = ps) (hN : NMR (σ 6) nm ps) (hQ : ∀ (r : Int) (σ' : xS), Fr [1, 2] [2] σ σ' → ENX σ' nm ps kd (σ 4) size 500 r → Q (some (xvi r)) σ') : EREF [xvr 0, xvr 4, xvi size, xvr 5] σ Q := ⟨size, nm, ps, kd, rfl, h0, hw, h1, h2, hN, hQ⟩
set_option maxRecDepth 100000 in
set_option maxHeartbeats 4000000 in
theorem mX1_readF (l : Launch) (D : va_G) (yv : Nat → ClassId) : xMt2 l D yv yX1_read cX1_read 4 (some .boolean) 5 18 shE0 shE EREF := by
  intro a ρ sz as σ Q hE hσ has
  obtain ⟨size, nm, ps, kd, rfl, h0, hw0, h1, h2, hN0, hQ⟩ := hE
  refine xEnter (d := 5) (mc := 0) (ms := 0) (by decide +kernel) (by simp [xargs]) hσ has ?_
  intro p e s m below meth c hsz hC
  refine xTE_s (C := kX1_read_a) (c0 := 0) (L0 := [xvr 0, xvr 4, xvi size, xvr 5]) (Q := fun _ _ => False) (Z := fun c L σ1 => c = 5 ∧ L = [xvr 0, xvr 4, xvi size, xvr 5] ∧ Fr [1, 2] [2] σ σ1 ∧ σ1 0 2 = 0) hC zX1_read_a (fun v i n E he => (hX1_read_a l D yv v i n E he).up (by decide)) (Nat.zero_le _) (Nat.zero_le _) (fun _ _ _ h => h.elim) (pX1_read_a (fun σ' f h1 => ⟨rfl, rfl, f, h1⟩)) ?_
  rintro c0 L1 σ1 ⟨rfl, rfl, hF, hl0⟩
  refine xs_aload hC (i := 0) (x := 0) (by decide +kernel) rfl ?_
  refine xs_get hC fiE0 (i := 19) (t := 0) (v := xvr 2) (foX1 19 1 0 rfl) rfl rfl rfl (fun _ => trivial) (by decide +kernel) ?_
  refine xs_aload hC (i := 1) (x := 4) (by decide +kernel) rfl ?_
  refine xs_iload hC (i := 2) (x := size) (by decide +kernel) rfl ?_
  refine xs_sipush hC (z := 500) (by decide) (by decide) (by decide +kernel) ?_
  refine xs_call2 (y := yX6_begin) (τ := [2, 3, 4]) (N' := 3) (sh' := shR0) (sh'2 := shR) (sh2 := shE) (t := 2) (as' := [xvr 4, xvi size, xvi 500]) (rest := []) (n := 3) (ci := 6) (E := EBF) (K := fun r σ2 => r = none ∧ Fr [2] [] σ1 σ2 ∧ (0 ≤ σ2 2 4 ∧ σ2 2 4 ≤ σ2 2 2 ∧ σ2 2 2 ≤ 940) ∧ (σ2 2 2 = size ∧ σ2 2 3 = 500 ∧ σ2 2 9 = 0 ∧ RCs (xsel [2, 3, 4] σ2) (σ1 4) size 500 0)) hC (mX6_beginF l D yv) (by decide) (xsubB_ok (l' := wlR0) (l := wlE0) (by decide +kernel)) (xsubB_ok (l' := wlR) (l := wlE) (by decide +kernel)) (hout_of (l := wlE0) (l2 := wlE) 2 (by decide) (by decide)) q_5_97 q_2_194 q_2_195 q_1_6 q_2_196 rfl rfl (by decide +kernel) (by decide) fiE0 (Nat.zero_le _) (Nat.zero_le _) (by decide +kernel) rfl rfl rfl (by decide) ?_ ?_
  · exact EBF_i h0 (by have e3 : σ1 3 = σ 3 := hF.1 3 (by decide) (by decide); show WDS (σ1 3); rw [e3]; exact hw0) (fun σ' f p => ⟨rfl, f.bk (by decide) (by decide), p.1, p.2⟩)
  rintro r σ2 ⟨rfl, f2, hr2, hn2, hm2, h92, hC2⟩
  have g3 : σ2 3 = σ 3 := (f2.1 3 (by decide) (by decide)).trans (hF.1 3 (by decide) (by decide))
  have g4 : σ2 4 = σ 4 := (f2.1 4 (by decide) (by decide)).trans (hF.1 4 (by decide) (by decide))
  have e4 : σ1 4 = σ 4 := hF.1 4 (by decide) (by decide)
  have hRD : RDv σ2 (σ 4) size 500 0 := ⟨⟨⟨g4, hn2, hm2, by rw [g3]; exact hw0⟩, by rw [e4] at hC2; exact hC2, h92⟩, by rw [hn2] at hr2; exact hr2⟩
  have hF2 := hF.tr f2 (by decide) (by decide)
  have hl2 : σ2 0 2 = 0 := by rw [f2.2 2 (by decide), hl0]
  have e0 : σ2 5 = σ 5 := hF2.1 5 (by decide) (by decide)
  have e6 : σ2 6 = σ 6 := hF2.1 6 (by decide) (by decide)
  exact xTE_s (C := kX1_read_b) (c0 := 17) (L0 := [xvr 0, xvr 4, xvi size, xvr 5]) (Z := fun _ _ _ => False) hC zX1_read_b (fun v i n E he => (hX1_read_b l D yv v i n E he).up (by decide)) (Nat.zero_le _) (Nat.zero_le _) (fun r σ t h1 h2 h3 h4 h5 h6 => ⟨⟨r, σ, rfl, h1, h2, h3, h4, h5⟩, h6⟩) (pX1_read_bF (by rw [e0]; exact h1) (by rw [e0]; exact h2) hRD hl2 (by rw [e6]; exact hN0) (fun r σ3 f3 p3 => hQ r σ3 (hF2.tr f3 (by decide) (by decide)) p3)) (fun _ _ _ h => h.elim)

