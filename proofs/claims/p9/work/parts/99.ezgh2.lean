set_option maxHeartbeats 4000000 in
set_option maxRecDepth 100000 in
theorem sX9_readRefillF {b nmR : Nat → Int} {n m p : Int} {σ : xS} {Q : Option xV → xS → Prop} (hp0 : TG σ) (hp1 : (0 ≤ σ 2 4 ∧ σ 2 4 ≤ σ 2 2 ∧ σ 2 2 ≤ 940)) (hp2 : RDt σ b n m p) (hQ : ∀ r : Int, ∀ σ' : xS, Fr [2, 5] [2] σ σ' → (TG σ' ∧ (0 ≤ σ' 2 4 ∧ σ' 2 4 ≤ σ' 2 2 ∧ σ' 2 2 ≤ 940) ∧ (r = 0 ∨ r = 1) ∧ ((¬ σ 0 2 = 0 ∧ r = 0 ∧ σ' 2 9 = 3 ∧ σ' 2 10 = tka b n m p) ∨ (σ 0 2 = 0 ∧ ¬ tkc b n m (tkp b n m p) = 301 ∧ r = 0 ∧ σ' 2 9 = 1 ∧ σ' 2 10 = tka b n m (tkp b n m p)) ∨ (σ 0 2 = 0 ∧ tkc b n m (tkp b n m p) = 301 ∧ ¬ (0 ≤ tkv b n m (tkp b n m p) ∧ tkv b n m (tkp b n m p) ≤ 9) ∧ r = 0 ∧ σ' 2 9 = 2 ∧ σ' 2 10 = tka b n m (tkp b n m p)) ∨ (σ 0 2 = 0 ∧ tkc b n m (tkp b n m p) = 301 ∧ (0 ≤ tkv b n m (tkp b n m p) ∧ tkv b n m (tkp b n m p) ≤ 9) ∧ r = 1)) ∧ (r = 1 → RDt σ' b n m (tkp b n m (tkp b n m p)) ∧ σ' 5 = up (σ 5) 3 (tkv b n m (tkp b n m p)) ∧ σ' 0 2 = 1)) → Q (some (xvi r)) σ') : xT kX9_readRefill [xvr 0, xvr 5] σ Q := by
  refine ⟨Nat.le_of_ble_eq_true rfl, fun X hX => ?_⟩
  show X 0 [xvr 0, xvr 5] σ
  have hF : Fr [2, 5] [2] σ σ := Fr.rf
  refine hX 400 0 _ _ ?_
  have hT := hp0
  obtain ⟨⟨hb, hs, hm, hw⟩, hrc, hr9⟩ := id hp2
  have tk5 : σ 2 5 = tkc b n m p := hrc.1
  have tk7 : tkc b n m p = 301 → σ 2 7 = tkv b n m p ∧ 0 ≤ tkv b n m p ∧ tkv b n m p < 1000 := hrc.2.1
  have tk8 : tkc b n m p = 300 → WP (σ 2 8) (tkw b n m p) := hrc.2.2.1
  have tk6 : σ 2 6 = tka b n m p := hrc.2.2.2.1
  have tk4 : σ 2 4 = tkp b n m p := hrc.2.2.2.2
  have hG : σ 5 = σ 5 := rfl
  have hH : σ 6 = σ 6 := rfl
  intro v1 e1 l1 h1
  have e1 : v1 = σ 0 2 := e1
  refine And.intro (fun c2 => ?_) (fun c2 => ?_)
  · refine And.intro (by omega) ?_
    have hF := hF.p (j := 2) (v := 1) (by decide)
    have hT : TG (xput σ 0 2 1) := hT
    refine xMVf (sh := shT) (ci := 6) (τ := [2, 3, 4]) (E := xT kX6_advance) (t := 2) (r := []) (σ := (xput σ 0 2 1)) rfl rfl (fun Q4 hQ4 => sX6_adv (σ := xsel [2, 3, 4] (xput σ 0 2 1)) (b := b) (n := n) (m := m) (p := (tkp b n m p)) (show 0 ≤ σ 2 4 ∧ σ 2 4 ≤ σ 2 2 ∧ σ 2 2 ≤ 940 from by omega) hb (show σ 2 2 = n from by omega) (show σ 2 3 = m from by omega) (show σ 2 4 = (tkp b n m p) from by omega) hw (fun ς4 f4 p4 => hQ4 _ _ ?_))
    have hb : (xbk [2, 3, 4] (xput σ 0 2 1) ς4) 4 = b := (f4.1 2 (by decide) (by decide)).trans hb
    have hw : WDS ((xbk [2, 3, 4] (xput σ 0 2 1) ς4) 3) := by
      have e9 : (xbk [2, 3, 4] (xput σ 0 2 1) ς4) 3 = σ 3 := f4.1 1 (by decide) (by decide)
      rw [e9]; exact hw
    have hs : (xbk [2, 3, 4] (xput σ 0 2 1) ς4) 2 2 = n := (f4.2 2 (by decide)).trans (show σ 2 2 = n from by omega)
    have hm : (xbk [2, 3, 4] (xput σ 0 2 1) ς4) 2 3 = m := (f4.2 3 (by decide)).trans (show σ 2 3 = m from by omega)
    have tk5 : (xbk [2, 3, 4] (xput σ 0 2 1) ς4) 2 5 = tkc b n m (tkp b n m p) := p4.2.1
    have tk7 : tkc b n m (tkp b n m p) = 301 → (xbk [2, 3, 4] (xput σ 0 2 1) ς4) 2 7 = tkv b n m (tkp b n m p) ∧ 0 ≤ tkv b n m (tkp b n m p) ∧ tkv b n m (tkp b n m p) < 1000 := p4.2.2.1
    have tk8 : tkc b n m (tkp b n m p) = 300 → WP ((xbk [2, 3, 4] (xput σ 0 2 1) ς4) 2 8) (tkw b n m (tkp b n m p)) := p4.2.2.2.1
    have tk6 : (xbk [2, 3, 4] (xput σ 0 2 1) ς4) 2 6 = tka b n m (tkp b n m p) := p4.2.2.2.2.1
    have tk4 : (xbk [2, 3, 4] (xput σ 0 2 1) ς4) 2 4 = tkp b n m (tkp b n m p) := p4.2.2.2.2.2
    have hr9 : (xbk [2, 3, 4] (xput σ 0 2 1) ς4) 2 9 = 0 := (f4.2 9 (by decide)).trans (show σ 2 9 = 0 from by omega)
    replace p4 : 0 ≤ (xbk [2, 3, 4] (xput σ 0 2 1) ς4) 2 4 ∧ (xbk [2, 3, 4] (xput σ 0 2 1) ς4) 2 4 ≤ n := p4.1
    replace f4 : Fr [2] [] (xput σ 0 2 1) (xbk [2, 3, 4] (xput σ 0 2 1) ς4) := f4.bk (by decide) (by decide)
    generalize xbk [2, 3, 4] (xput σ 0 2 1) ς4 = σ4 at f4 hb hw hs hm tk5 tk7 tk8 tk6 tk4 hr9 p4 ⊢
    have hF := hF.tr f4 (by decide) (by decide)
    have hT := hT.fr f4 (by decide) (by decide) (by decide) (by decide)
    replace hG := (f4.1 5 (by decide) (by decide)).trans hG
    replace hH := (f4.1 6 (by decide) (by decide)).trans hH
    have z2_4 : σ4 0 2 = 1 := f4.2 2 (by decide)
    refine xMVf (sh := shT) (ci := 6) (τ := [2, 3, 4]) (E := xT kX6_isNumber) (t := 2) (r := [xvi 0, xvi 9]) (σ := σ4) rfl rfl (fun Q5 hQ5 => sX6_isNumberF (σ := xsel [2, 3, 4] σ4) (least := 0) (greatest := 9) (show σ4 2 9 = 0 from by omega) (fun r5 ς5 f5 p5 => hQ5 _ _ ?_))
    have hb : (xbk [2, 3, 4] σ4 ς5) 4 = b := (f5.1 2 (by decide) (by decide)).trans hb
    have hw : WDS ((xbk [2, 3, 4] σ4 ς5) 3) := by
      have e9 : (xbk [2, 3, 4] σ4 ς5) 3 = σ4 3 := f5.1 1 (by decide) (by decide)
      rw [e9]; exact hw
    have hs : (xbk [2, 3, 4] σ4 ς5) 2 2 = n := (f5.2 2 (by decide)).trans (show σ4 2 2 = n from by omega)
    have hm : (xbk [2, 3, 4] σ4 ς5) 2 3 = m := (f5.2 3 (by decide)).trans (show σ4 2 3 = m from by omega)
    have o5 : (r5 = 1 ∧ σ4 2 5 = 301 ∧ 0 ≤ σ4 2 7 ∧ σ4 2 7 ≤ 9 ∧ (xbk [2, 3, 4] σ4 ς5) 2 9 = 0) ∨ (r5 = 0 ∧ ¬ σ4 2 5 = 301 ∧ (xbk [2, 3, 4] σ4 ς5) 2 9 = 1 ∧ (xbk [2, 3, 4] σ4 ς5) 2 10 = σ4 2 6) ∨ (r5 = 0 ∧ σ4 2 5 = 301 ∧ ¬ (0 ≤ σ4 2 7 ∧ σ4 2 7 ≤ 9) ∧ (xbk [2, 3, 4] σ4 ς5) 2 9 = 2 ∧ (xbk [2, 3, 4] σ4 ς5) 2 10 = σ4 2 6) := p5
    replace p5 : (r5 = 1 ∧ tkc b n m (tkp b n m p) = 301 ∧ 0 ≤ tkv b n m (tkp b n m p) ∧ tkv b n m (tkp b n m p) ≤ 9 ∧ (xbk [2, 3, 4] σ4 ς5) 2 9 = 0) ∨ (r5 = 0 ∧ ¬ tkc b n m (tkp b n m p) = 301 ∧ (xbk [2, 3, 4] σ4 ς5) 2 9 = 1 ∧ (xbk [2, 3, 4] σ4 ς5) 2 10 = tka b n m (tkp b n m p)) ∨ (r5 = 0 ∧ tkc b n m (tkp b n m p) = 301 ∧ ¬ (0 ≤ tkv b n m (tkp b n m p) ∧ tkv b n m (tkp b n m p) ≤ 9) ∧ (xbk [2, 3, 4] σ4 ς5) 2 9 = 2 ∧ (xbk [2, 3, 4] σ4 ς5) 2 10 = tka b n m (tkp b n m p)) := by
      rcases o5 with q | q | q
      · have z := tk7 (by omega); omega
      · omega
      · have z := tk7 (by omega); omega
    clear o5
    have u4 : (xbk [2, 3, 4] σ4 ς5) 2 4 = σ4 2 4 := f5.2 4 (by decide)
    have u5 : (xbk [2, 3, 4] σ4 ς5) 2 5 = σ4 2 5 := f5.2 5 (by decide)
    have u6 : (xbk [2, 3, 4] σ4 ς5) 2 6 = σ4 2 6 := f5.2 6 (by decide)
    have u7 : (xbk [2, 3, 4] σ4 ς5) 2 7 = σ4 2 7 := f5.2 7 (by decide)
    have u8 : (xbk [2, 3, 4] σ4 ς5) 2 8 = σ4 2 8 := f5.2 8 (by decide)
    have uq5 : (xbk [2, 3, 4] σ4 ς5) 2 4 = σ4 2 4 := u4
    have tk5 := u5.trans tk5; replace tk6 := u6.trans tk6; replace tk4 := u4.trans tk4
    replace tk7 : tkc b n m (tkp b n m p) = 301 → (xbk [2, 3, 4] σ4 ς5) 2 7 = tkv b n m (tkp b n m p) ∧ 0 ≤ tkv b n m (tkp b n m p) ∧ tkv b n m (tkp b n m p) < 1000 := by rw [u7]; exact tk7
    replace tk8 : tkc b n m (tkp b n m p) = 300 → WP ((xbk [2, 3, 4] σ4 ς5) 2 8) (tkw b n m (tkp b n m p)) := by rw [u8]; exact tk8
    clear u4 u5 u6 u7 u8
    replace f5 : Fr [2] [] σ4 (xbk [2, 3, 4] σ4 ς5) := f5.bk (by decide) (by decide)
    generalize xbk [2, 3, 4] σ4 ς5 = σ5 at f5 hb hw hs hm tk5 tk7 tk8 tk6 tk4 p5 uq5 ⊢
    have hF := hF.tr f5 (by decide) (by decide)
    have hT := hT.fr f5 (by decide) (by decide) (by decide) (by decide)
    replace hG := (f5.1 5 (by decide) (by decide)).trans hG
    replace hH := (f5.1 6 (by decide) (by decide)).trans hH
    have z2_5 : σ5 0 2 = σ4 0 2 := f5.2 2 (by decide)
    refine And.intro (fun c6 => ?_) (fun c6 => ?_)
    · intro v7 e7 l7 h7
      have e7 : v7 = σ5 2 7 := e7
      have hF := hF.pt (t := 5) (j := 3) (v := v7) (by decide) (by decide)
      have hT : TG (xput σ5 5 3 v7) := hT.f5 (by intro z; cases z) (by intro z; cases z) (by intro z; cases z) (by decide) (by decide) (by intro z; cases z)
      replace hG : (xput σ5 5 3 v7) 5 = up (σ 5) 3 v7 := by
        show xput _ 5 3 _ 5 = _
        rw [xput_up]; try rw [hG]
      refine xMVf (sh := shT) (ci := 6) (τ := [2, 3, 4]) (E := xT kX6_advance) (t := 2) (r := []) (σ := (xput σ5 5 3 v7)) rfl rfl (fun Q9 hQ9 => sX6_adv (σ := xsel [2, 3, 4] (xput σ5 5 3 v7)) (b := b) (n := n) (m := m) (p := (tkp b n m (tkp b n m p))) (show 0 ≤ σ5 2 4 ∧ σ5 2 4 ≤ σ5 2 2 ∧ σ5 2 2 ≤ 940 from by omega) hb (show σ5 2 2 = n from by omega) (show σ5 2 3 = m from by omega) (show σ5 2 4 = (tkp b n m (tkp b n m p)) from by omega) hw (fun ς9 f9 p9 => hQ9 _ _ ?_))
      have hb : (xbk [2, 3, 4] (xput σ5 5 3 v7) ς9) 4 = b := (f9.1 2 (by decide) (by decide)).trans hb
      have hw : WDS ((xbk [2, 3, 4] (xput σ5 5 3 v7) ς9) 3) := by
        have e9 : (xbk [2, 3, 4] (xput σ5 5 3 v7) ς9) 3 = σ5 3 := f9.1 1 (by decide) (by decide)
        rw [e9]; exact hw
      have hs : (xbk [2, 3, 4] (xput σ5 5 3 v7) ς9) 2 2 = n := (f9.2 2 (by decide)).trans (show σ5 2 2 = n from by omega)
      have hm : (xbk [2, 3, 4] (xput σ5 5 3 v7) ς9) 2 3 = m := (f9.2 3 (by decide)).trans (show σ5 2 3 = m from by omega)
      have tk5 : (xbk [2, 3, 4] (xput σ5 5 3 v7) ς9) 2 5 = tkc b n m (tkp b n m (tkp b n m p)) := p9.2.1
      have tk7 : tkc b n m (tkp b n m (tkp b n m p)) = 301 → (xbk [2, 3, 4] (xput σ5 5 3 v7) ς9) 2 7 = tkv b n m (tkp b n m (tkp b n m p)) ∧ 0 ≤ tkv b n m (tkp b n m (tkp b n m p)) ∧ tkv b n m (tkp b n m (tkp b n m p)) < 1000 := p9.2.2.1
      have tk8 : tkc b n m (tkp b n m (tkp b n m p)) = 300 → WP ((xbk [2, 3, 4] (xput σ5 5 3 v7) ς9) 2 8) (tkw b n m (tkp b n m (tkp b n m p))) := p9.2.2.2.1
      have tk6 : (xbk [2, 3, 4] (xput σ5 5 3 v7) ς9) 2 6 = tka b n m (tkp b n m (tkp b n m p)) := p9.2.2.2.2.1
      have tk4 : (xbk [2, 3, 4] (xput σ5 5 3 v7) ς9) 2 4 = tkp b n m (tkp b n m (tkp b n m p)) := p9.2.2.2.2.2
      have hr9 : (xbk [2, 3, 4] (xput σ5 5 3 v7) ς9) 2 9 = 0 := (f9.2 9 (by decide)).trans (show σ5 2 9 = 0 from by omega)
      replace p9 : 0 ≤ (xbk [2, 3, 4] (xput σ5 5 3 v7) ς9) 2 4 ∧ (xbk [2, 3, 4] (xput σ5 5 3 v7) ς9) 2 4 ≤ n := p9.1
      replace f9 : Fr [2] [] (xput σ5 5 3 v7) (xbk [2, 3, 4] (xput σ5 5 3 v7) ς9) := f9.bk (by decide) (by decide)
      generalize xbk [2, 3, 4] (xput σ5 5 3 v7) ς9 = σ9 at f9 hb hw hs hm tk5 tk7 tk8 tk6 tk4 hr9 p9 ⊢
      have hF := hF.tr f9 (by decide) (by decide)
      have hT := hT.fr f9 (by decide) (by decide) (by decide) (by decide)
      replace hG := (f9.1 5 (by decide) (by decide)).trans hG
      replace hH := (f9.1 6 (by decide) (by decide)).trans hH
      have z2_9 : σ9 0 2 = σ5 0 2 := f9.2 2 (by decide)
      refine And.intro rfl ?_
      refine And.intro (by omega) ?_
      exact hQ _ _ hF ⟨hT, (show 0 ≤ σ9 2 4 ∧ σ9 2 4 ≤ σ9 2 2 ∧ σ9 2 2 ≤ 940 from by omega), by omega, (show (¬ σ 0 2 = 0 ∧ 1 = 0 ∧ (σ9 2 9) = 3 ∧ (σ9 2 10) = tka b n m p) ∨ (σ 0 2 = 0 ∧ ¬ tkc b n m (tkp b n m p) = 301 ∧ 1 = 0 ∧ (σ9 2 9) = 1 ∧ (σ9 2 10) = tka b n m (tkp b n m p)) ∨ (σ 0 2 = 0 ∧ tkc b n m (tkp b n m p) = 301 ∧ ¬ (0 ≤ tkv b n m (tkp b n m p) ∧ tkv b n m (tkp b n m p) ≤ 9) ∧ 1 = 0 ∧ (σ9 2 9) = 2 ∧ (σ9 2 10) = tka b n m (tkp b n m p)) ∨ (σ 0 2 = 0 ∧ tkc b n m (tkp b n m p) = 301 ∧ (0 ≤ tkv b n m (tkp b n m p) ∧ tkv b n m (tkp b n m p) ≤ 9) ∧ 1 = 1) from by omega), fun _ => ⟨⟨⟨hb, hs, hm, hw⟩, ⟨tk5, tk7, tk8, tk6, tk4⟩, hr9⟩, (by rw [hG]; congr 1; omega), (show σ9 0 2 = 1 from by omega)⟩⟩
    · refine And.intro rfl ?_
      refine And.intro (by omega) ?_
      exact hQ _ _ hF ⟨hT, (show 0 ≤ σ5 2 4 ∧ σ5 2 4 ≤ σ5 2 2 ∧ σ5 2 2 ≤ 940 from by omega), by omega, (show (¬ σ 0 2 = 0 ∧ 0 = 0 ∧ (σ5 2 9) = 3 ∧ (σ5 2 10) = tka b n m p) ∨ (σ 0 2 = 0 ∧ ¬ tkc b n m (tkp b n m p) = 301 ∧ 0 = 0 ∧ (σ5 2 9) = 1 ∧ (σ5 2 10) = tka b n m (tkp b n m p)) ∨ (σ 0 2 = 0 ∧ tkc b n m (tkp b n m p) = 301 ∧ ¬ (0 ≤ tkv b n m (tkp b n m p) ∧ tkv b n m (tkp b n m p) ≤ 9) ∧ 0 = 0 ∧ (σ5 2 9) = 2 ∧ (σ5 2 10) = tka b n m (tkp b n m p)) ∨ (σ 0 2 = 0 ∧ tkc b n m (tkp b n m p) = 301 ∧ (0 ≤ tkv b n m (tkp b n m p) ∧ tkv b n m (tkp b n m p) ≤ 9) ∧ 0 = 1) from by omega), fun hr => absurd hr (by omega)⟩
  · refine xMVf (sh := shT) (ci := 6) (τ := [2, 3, 4]) (E := xT kX6_fail) (t := 2) (r := [xvi 3]) (σ := σ) rfl rfl (fun Q10 hQ10 => sX6_failF (σ := xsel [2, 3, 4] σ) (kind := 3) (show σ 2 9 = 0 from by omega) (fun r10 ς10 f10 p10 => hQ10 _ _ ?_))
    have hb : (xbk [2, 3, 4] σ ς10) 4 = b := (f10.1 2 (by decide) (by decide)).trans hb
    have hw : WDS ((xbk [2, 3, 4] σ ς10) 3) := by
      have e9 : (xbk [2, 3, 4] σ ς10) 3 = σ 3 := f10.1 1 (by decide) (by decide)
      rw [e9]; exact hw
    have hs : (xbk [2, 3, 4] σ ς10) 2 2 = n := (f10.2 2 (by decide)).trans (show σ 2 2 = n from by omega)
    have hm : (xbk [2, 3, 4] σ ς10) 2 3 = m := (f10.2 3 (by decide)).trans (show σ 2 3 = m from by omega)
    replace p10 : r10 = 0 ∧ (xbk [2, 3, 4] σ ς10) 2 9 = 3 ∧ (xbk [2, 3, 4] σ ς10) 2 10 = tka b n m p := ⟨p10.1, p10.2.1, p10.2.2.trans (show σ 2 6 = _ from by omega)⟩
    have u4 : (xbk [2, 3, 4] σ ς10) 2 4 = σ 2 4 := f10.2 4 (by decide)
    have u5 : (xbk [2, 3, 4] σ ς10) 2 5 = σ 2 5 := f10.2 5 (by decide)
    have u6 : (xbk [2, 3, 4] σ ς10) 2 6 = σ 2 6 := f10.2 6 (by decide)
    have u7 : (xbk [2, 3, 4] σ ς10) 2 7 = σ 2 7 := f10.2 7 (by decide)
    have u8 : (xbk [2, 3, 4] σ ς10) 2 8 = σ 2 8 := f10.2 8 (by decide)
    have uq10 : (xbk [2, 3, 4] σ ς10) 2 4 = σ 2 4 := u4
    have tk5 := u5.trans tk5; replace tk6 := u6.trans tk6; replace tk4 := u4.trans tk4
    replace tk7 : tkc b n m p = 301 → (xbk [2, 3, 4] σ ς10) 2 7 = tkv b n m p ∧ 0 ≤ tkv b n m p ∧ tkv b n m p < 1000 := by rw [u7]; exact tk7
    replace tk8 : tkc b n m p = 300 → WP ((xbk [2, 3, 4] σ ς10) 2 8) (tkw b n m p) := by rw [u8]; exact tk8
    clear u4 u5 u6 u7 u8
    replace f10 : Fr [2] [] σ (xbk [2, 3, 4] σ ς10) := f10.bk (by decide) (by decide)
    generalize xbk [2, 3, 4] σ ς10 = σ10 at f10 hb hw hs hm tk5 tk7 tk8 tk6 tk4 p10 uq10 ⊢
    have hF := hF.tr f10 (by decide) (by decide)
    have hT := hT.fr f10 (by decide) (by decide) (by decide) (by decide)
    replace hG := (f10.1 5 (by decide) (by decide)).trans hG
    replace hH := (f10.1 6 (by decide) (by decide)).trans hH
    have z2_10 : σ10 0 2 = σ 0 2 := f10.2 2 (by decide)
    refine And.intro rfl ?_
    refine And.intro (by omega) ?_
    exact hQ _ _ hF ⟨hT, (show 0 ≤ σ10 2 4 ∧ σ10 2 4 ≤ σ10 2 2 ∧ σ10 2 2 ≤ 940 from by omega), by omega, (show (¬ σ 0 2 = 0 ∧ r10 = 0 ∧ (σ10 2 9) = 3 ∧ (σ10 2 10) = tka b n m p) ∨ (σ 0 2 = 0 ∧ ¬ tkc b n m (tkp b n m p) = 301 ∧ r10 = 0 ∧ (σ10 2 9) = 1 ∧ (σ10 2 10) = tka b n m (tkp b n m p)) ∨ (σ 0 2 = 0 ∧ tkc b n m (tkp b n m p) = 301 ∧ ¬ (0 ≤ tkv b n m (tkp b n m p) ∧ tkv b n m (tkp b n m p) ≤ 9) ∧ r10 = 0 ∧ (σ10 2 9) = 2 ∧ (σ10 2 10) = tka b n m (tkp b n m p)) ∨ (σ 0 2 = 0 ∧ tkc b n m (tkp b n m p) = 301 ∧ (0 ≤ tkv b n m (tkp b n m p) ∧ tkv b n m (tkp b n m p) ≤ 9) ∧ r10 = 1) from by omega), fun hr => absurd hr (by omega)⟩

