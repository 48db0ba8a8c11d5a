set_option maxHeartbeats 4000000 in
set_option maxRecDepth 100000 in
theorem sX6_passF {b : Nat → Int} {n m p : Int} {σ : xS} {wanted : Int} {Q : Option xV → xS → Prop} (hp0 : 0 ≤ σ 0 4 ∧ σ 0 4 ≤ σ 0 2 ∧ σ 0 2 ≤ 940) (hp1 : σ 2 = b ∧ σ 0 2 = n ∧ σ 0 3 = m) (hp2 : WDS (σ 1)) (hp3 : RCs σ b n m p) (hp4 : σ 0 9 = 0) (hQ : ∀ r : Int, ∀ σ' : xS, Fr [] [4, 5, 6, 7, 8, 9, 10] σ σ' → ((r = 1 ∧ tkc b n m p = wanted ∧ (0 ≤ σ' 0 4 ∧ σ' 0 4 ≤ n) ∧ σ' 0 9 = 0 ∧ RCs σ' b n m (tkp b n m p)) ∨ (r = 0 ∧ ¬ tkc b n m p = wanted ∧ (0 ≤ σ' 0 4 ∧ σ' 0 4 ≤ n) ∧ σ' 0 9 = 1 ∧ σ' 0 10 = tka b n m p)) → Q (some (xvi r)) σ') : xT kX6_pass [xvr 0, xvi wanted] σ Q := by
  refine ⟨Nat.le_of_ble_eq_true rfl, fun X hX => ?_⟩
  show X 0 [xvr 0, xvi wanted] σ
  have hF : Fr [] [4, 5, 6, 7, 8, 9, 10] σ σ := Fr.rf
  refine hX 400 0 _ _ ?_
  obtain ⟨hb, hs, hm⟩ := hp1
  have hw := hp2
  have tk5 : σ 0 5 = tkc b n m p := hp3.1
  have tk6 : σ 0 6 = tka b n m p := hp3.2.2.2.1
  have tk4 : σ 0 4 = tkp b n m p := hp3.2.2.2.2
  refine sX6_isAt (σ := σ) (wanted := wanted)  (fun r1 p1 => ?_)
  have p1 : (r1 = 1 ∧ (σ 0 5) = wanted) ∨ (r1 = 0 ∧ ¬ (σ 0 5) = wanted) := p1
  refine And.intro (fun c2 => ?_) (fun c2 => ?_)
  · replace p1 : (σ 0 5) = wanted := by
      rcases p1 with q | q
      · exact q.2
      · exact absurd q.1 (by omega)
    refine sX6_adv (σ := σ) (b := b) (n := n) (m := m) (p := tkp b n m p) (show 0 ≤ σ 0 4 ∧ σ 0 4 ≤ σ 0 2 ∧ σ 0 2 ≤ 940 from by omega) hb hs hm (show σ 0 4 = tkp b n m p from by omega) hw (fun σ3 f3 p3 => ?_)
    have q9_3 : σ3 0 9 = σ 0 9 := f3.2 9 (by decide)
    have hF := hF.tr f3 (by decide) (by decide)
    refine And.intro rfl ?_
    refine And.intro (by omega) ?_
    exact hQ _ _ hF (Or.inl ⟨rfl, by omega, p3.1, by omega, p3.2⟩)
  · replace p1 : ¬ (σ 0 5) = wanted := by
      rcases p1 with q | q
      · exact absurd q.1 (by omega)
      · exact q.2
    refine sX6_failF (σ := σ) (kind := 1) (show σ 0 9 = 0 from by omega) (fun r4 σ4 f4 p4 => ?_)
    have p4 : r4 = 0 ∧ σ4 0 9 = 1 ∧ σ4 0 10 = σ 0 6 := p4
    have q4_4 : σ4 0 4 = σ 0 4 := f4.2 4 (by decide)
    have hF := hF.tr f4 (by decide) (by decide)
    refine And.intro rfl ?_
    refine And.intro (by omega) ?_
    exact hQ _ _ hF (Or.inr ⟨by omega, by omega, by omega, by omega, by omega⟩)
set_option maxHeartbeats 4000000 in
set_option maxRecDepth 100000 in
theorem sX9_readLineF {b : Nat → Int} {n m : Int} {s : TSx} {σ : xS} {Q : Option xV → xS → Prop} (hp0 : TG σ) (hp1 : (0 ≤ σ 2 4 ∧ σ 2 4 ≤ σ 2 2 ∧ σ 2 2 ≤ 940)) (hp2 : RTC σ b n m s) (hQ : ∀ r : Int, ∀ σ' : xS, Fr [1, 2, 5, 6, 7, 8, 9] [2] σ σ' → (TG σ' ∧ (0 ≤ σ' 2 4 ∧ σ' 2 4 ≤ σ' 2 2 ∧ σ' 2 2 ≤ 940) ∧ (r = 0 ∨ r = 1) ∧ LNC σ' b n m s r) → Q (some (xvi r)) σ') : xT kX9_readLine [xvr 0, xvr 5] σ Q := by
  refine ⟨Nat.le_of_ble_eq_true rfl, fun X hX => ?_⟩
  show X 0 [xvr 0, xvr 5] σ
  have hF : Fr [1, 2, 5, 6, 7, 8, 9] [2] σ σ := Fr.rf
  refine hX 400 0 _ _ ?_
  obtain ⟨⟨hb, hs, hm, hw⟩, hrc, hr9⟩ := id hp2.1
  have tk5 : σ 2 5 = tkc b n m s.p := hrc.1
  have tk7 : tkc b n m s.p = 301 → σ 2 7 = tkv b n m s.p ∧ 0 ≤ tkv b n m s.p ∧ tkv b n m s.p < 1000 := hrc.2.1
  have tk8 : tkc b n m s.p = 300 → WP (σ 2 8) (tkw b n m s.p) := hrc.2.2.1
  have tk6 : σ 2 6 = tka b n m s.p := hrc.2.2.2.1
  have tk4 : σ 2 4 = tkp b n m s.p := hrc.2.2.2.2
  have hT := hp0
  intro v1 e1 l1 h1
  have e1 : v1 = σ 2 5 := e1
  refine And.intro (fun c2 => ?_) (And.intro rfl ?_)
  · -- no such word
    refine xMVf (sh := shT) (ci := 6) (τ := [2, 3, 4]) (E := xT kX6_fail) (t := 2) (r := [xvi 1]) (σ := σ) rfl rfl (fun Q3 hQ3 => sX6_failF (σ := xsel [2, 3, 4] σ) (kind := 1) (show σ 2 9 = 0 from by omega) (fun r3 ς3 f3 p3 => hQ3 _ _ ?_))
    have hb : (xbk [2, 3, 4] σ ς3) 4 = b := (f3.1 2 (by decide) (by decide)).trans hb
    have hw : WDS ((xbk [2, 3, 4] σ ς3) 3) := by
      have e9 : (xbk [2, 3, 4] σ ς3) 3 = σ 3 := f3.1 1 (by decide) (by decide)
      rw [e9]; exact hw
    have hs : (xbk [2, 3, 4] σ ς3) 2 2 = n := (f3.2 2 (by decide)).trans (show σ 2 2 = n from by omega)
    have hm : (xbk [2, 3, 4] σ ς3) 2 3 = m := (f3.2 3 (by decide)).trans (show σ 2 3 = m from by omega)
    replace p3 : r3 = 0 ∧ (xbk [2, 3, 4] σ ς3) 2 9 = 1 ∧ (xbk [2, 3, 4] σ ς3) 2 10 = tka b n m s.p := ⟨p3.1, p3.2.1, p3.2.2.trans (show σ 2 6 = _ from by omega)⟩
    have u4 : (xbk [2, 3, 4] σ ς3) 2 4 = σ 2 4 := f3.2 4 (by decide)
    have u5 : (xbk [2, 3, 4] σ ς3) 2 5 = σ 2 5 := f3.2 5 (by decide)
    have u6 : (xbk [2, 3, 4] σ ς3) 2 6 = σ 2 6 := f3.2 6 (by decide)
    have u7 : (xbk [2, 3, 4] σ ς3) 2 7 = σ 2 7 := f3.2 7 (by decide)
    have u8 : (xbk [2, 3, 4] σ ς3) 2 8 = σ 2 8 := f3.2 8 (by decide)
    have uq3 : (xbk [2, 3, 4] σ ς3) 2 4 = σ 2 4 := u4
    have tk5 := u5.trans tk5; replace tk6 := u6.trans tk6; replace tk4 := u4.trans tk4
    replace tk7 : tkc b n m s.p = 301 → (xbk [2, 3, 4] σ ς3) 2 7 = tkv b n m s.p ∧ 0 ≤ tkv b n m s.p ∧ tkv b n m s.p < 1000 := by rw [u7]; exact tk7
    replace tk8 : tkc b n m s.p = 300 → WP ((xbk [2, 3, 4] σ ς3) 2 8) (tkw b n m s.p) := by rw [u8]; exact tk8
    clear u4 u5 u6 u7 u8
    replace f3 : Fr [2] [] σ (xbk [2, 3, 4] σ ς3) := f3.bk (by decide) (by decide)
    generalize xbk [2, 3, 4] σ ς3 = σ3 at f3 hb hw hs hm tk5 tk7 tk8 tk6 tk4 p3 uq3 ⊢
    have hF := hF.tr f3 (by decide) (by decide)
    have hT := hT.fr f3 (by decide) (by decide) (by decide) (by decide)
    refine And.intro rfl ?_
    refine And.intro (by omega) ?_
    exact hQ _ _ hF ⟨hT, (show 0 ≤ σ3 2 4 ∧ σ3 2 4 ≤ σ3 2 2 ∧ σ3 2 2 ≤ 940 from by omega), by omega, Or.inr ⟨by omega, (tln_x (by omega)).trans (by rw [show σ3 2 9 = 1 from by omega, show σ3 2 10 = tka b n m s.p from by omega])⟩⟩
  refine And.intro (fun c2 => ?_) ?_
  · refine sX9_readKindsL (σ := σ) hp0 hp1 hp2 (by omega) (fun r4 σ4 f4 p4 => ?_)
    have hF := hF.tr f4 (by decide) (by decide)
    have hbl : r4 = 0 ∨ r4 = 1 := p4.2.2.1
    refine And.intro rfl ?_
    refine And.intro (by omega) ?_
    exact hQ _ _ hF p4
  refine And.intro (fun c2 => ?_) ?_
  · refine sX9_readPersonL (σ := σ) hp0 hp1 hp2 (by omega) (fun r5 σ5 f5 p5 => ?_)
    have hF := hF.tr f5 (by decide) (by decide)
    have hbl : r5 = 0 ∨ r5 = 1 := p5.2.2.1
    refine And.intro rfl ?_
    refine And.intro (by omega) ?_
    exact hQ _ _ hF p5
  refine And.intro (fun c2 => ?_) ?_
  · refine sX9_readHandL (σ := σ) hp0 hp1 hp2 (by omega) (fun r6 σ6 f6 p6 => ?_)
    have hF := hF.tr f6 (by decide) (by decide)
    have hbl : r6 = 0 ∨ r6 = 1 := p6.2.2.1
    refine And.intro rfl ?_
    refine And.intro (by omega) ?_
    exact hQ _ _ hF p6
  refine And.intro (fun c2 => ?_) ?_
  · refine sX9_readHeapL (σ := σ) hp0 hp1 hp2 (by omega) (fun r7 σ7 f7 p7 => ?_)
    have hF := hF.tr f7 (by decide) (by decide)
    have hbl : r7 = 0 ∨ r7 = 1 := p7.2.2.1
    refine And.intro rfl ?_
    refine And.intro (by omega) ?_
    exact hQ _ _ hF p7
  refine And.intro (fun c2 => ?_) ?_
  · refine sX9_readAgainL (σ := σ) hp0 hp1 hp2 (by omega) (fun r8 σ8 f8 p8 => ?_)
    have hF := hF.tr f8 (by decide) (by decide)
    have hbl : r8 = 0 ∨ r8 = 1 := p8.2.2.1
    refine And.intro rfl ?_
    refine And.intro (by omega) ?_
    exact hQ _ _ hF p8
  refine And.intro (fun c2 => ?_) ?_
  · refine sX9_readRefillL (σ := σ) hp0 hp1 hp2 (by omega) (fun r9 σ9 f9 p9 => ?_)
    have hF := hF.tr f9 (by decide) (by decide)
    have hbl : r9 = 0 ∨ r9 = 1 := p9.2.2.1
    refine And.intro rfl ?_
    refine And.intro (by omega) ?_
    exact hQ _ _ hF p9
  exact trivial

