set_option maxHeartbeats 4000000 in
set_option maxRecDepth 100000 in
theorem sX9_readAgainF {b nmR : Nat → Int} {n m p : Int} {σ : xS} {Q : Option xV → xS → Prop} (hp0 : TG σ) (hp1 : (0 ≤ σ 2 4 ∧ σ 2 4 ≤ σ 2 2 ∧ σ 2 2 ≤ 940)) (hp2 : RDt σ b n m p) (hQ : ∀ r : Int, ∀ σ' : xS, Fr [2, 5] [] σ σ' → (TG σ' ∧ (0 ≤ σ' 2 4 ∧ σ' 2 4 ≤ σ' 2 2 ∧ σ' 2 2 ≤ 940) ∧ (r = 0 ∨ r = 1) ∧ ((¬ σ 5 2 = 0 ∧ r = 0 ∧ σ' 2 9 = 3 ∧ σ' 2 10 = tka b n m p) ∨ (σ 5 2 = 0 ∧ r = 1)) ∧ (r = 1 → RDt σ' b n m (tkp b n m p) ∧ σ' 5 = up (σ 5) 2 1)) → Q (some (xvi r)) σ') : xT kX9_readAgain [xvr 0, xvr 5] σ Q := by
  refine ⟨Nat.le_of_ble_eq_true rfl, fun X hX => ?_⟩
  show X 0 [xvr 0, xvr 5] σ
  have hF : Fr [2, 5] [] σ σ := Fr.rf
  refine hX 400 0 _ _ ?_
  have hT := hp0
  obtain ⟨⟨hb, hs, hm, hw⟩, hrc, hr9⟩ := id hp2
  have tk5 : σ 2 5 = tkc b n m p := hrc.1
  have tk7 : tkc b n m p = 301 → σ 2 7 = tkv b n m p ∧ 0 ≤ tkv b n m p ∧ tkv b n m p < 1000 := hrc.2.1
  have tk8 : tkc b n m p = 300 → WP (σ 2 8) (tkw b n m p) := hrc.2.2.1
  have tk6 : σ 2 6 = tka b n m p := hrc.2.2.2.1
  have tk4 : σ 2 4 = tkp b n m p := hrc.2.2.2.2
  have hG : σ 5 = σ 5 := rfl
  have hH : σ 6 = σ 6 := rfl
  intro v1 e1 l1 h1
  have e1 : v1 = σ 5 2 := e1
  refine And.intro (fun c2 => ?_) (fun c2 => ?_)
  · refine And.intro (by omega) ?_
    have hF := hF.pt (t := 5) (j := 2) (v := 1) (by decide) (by decide)
    have hT : TG (xput σ 5 2 1) := hT.f5 (by intro z; cases z) (by intro z; cases z) (by intro _; omega) (by decide) (by decide) (by intro z; cases z)
    replace hG : (xput σ 5 2 1) 5 = up (σ 5) 2 1 := by
      show xput _ 5 2 _ 5 = _
      rw [xput_up]; try rw [hG]
    refine xMVf (sh := shT) (ci := 6) (τ := [2, 3, 4]) (E := xT kX6_advance) (t := 2) (r := []) (σ := (xput σ 5 2 1)) rfl rfl (fun Q4 hQ4 => sX6_adv (σ := xsel [2, 3, 4] (xput σ 5 2 1)) (b := b) (n := n) (m := m) (p := (tkp b n m p)) (show 0 ≤ σ 2 4 ∧ σ 2 4 ≤ σ 2 2 ∧ σ 2 2 ≤ 940 from by omega) hb (show σ 2 2 = n from by omega) (show σ 2 3 = m from by omega) (show σ 2 4 = (tkp b n m p) from by omega) hw (fun ς4 f4 p4 => hQ4 _ _ ?_))
    have hb : (xbk [2, 3, 4] (xput σ 5 2 1) ς4) 4 = b := (f4.1 2 (by decide) (by decide)).trans hb
    have hw : WDS ((xbk [2, 3, 4] (xput σ 5 2 1) ς4) 3) := by
      have e9 : (xbk [2, 3, 4] (xput σ 5 2 1) ς4) 3 = σ 3 := f4.1 1 (by decide) (by decide)
      rw [e9]; exact hw
    have hs : (xbk [2, 3, 4] (xput σ 5 2 1) ς4) 2 2 = n := (f4.2 2 (by decide)).trans (show σ 2 2 = n from by omega)
    have hm : (xbk [2, 3, 4] (xput σ 5 2 1) ς4) 2 3 = m := (f4.2 3 (by decide)).trans (show σ 2 3 = m from by omega)
    have tk5 : (xbk [2, 3, 4] (xput σ 5 2 1) ς4) 2 5 = tkc b n m (tkp b n m p) := p4.2.1
    have tk7 : tkc b n m (tkp b n m p) = 301 → (xbk [2, 3, 4] (xput σ 5 2 1) ς4) 2 7 = tkv b n m (tkp b n m p) ∧ 0 ≤ tkv b n m (tkp b n m p) ∧ tkv b n m (tkp b n m p) < 1000 := p4.2.2.1
    have tk8 : tkc b n m (tkp b n m p) = 300 → WP ((xbk [2, 3, 4] (xput σ 5 2 1) ς4) 2 8) (tkw b n m (tkp b n m p)) := p4.2.2.2.1
    have tk6 : (xbk [2, 3, 4] (xput σ 5 2 1) ς4) 2 6 = tka b n m (tkp b n m p) := p4.2.2.2.2.1
    have tk4 : (xbk [2, 3, 4] (xput σ 5 2 1) ς4) 2 4 = tkp b n m (tkp b n m p) := p4.2.2.2.2.2
    have hr9 : (xbk [2, 3, 4] (xput σ 5 2 1) ς4) 2 9 = 0 := (f4.2 9 (by decide)).trans (show σ 2 9 = 0 from by omega)
    replace p4 : 0 ≤ (xbk [2, 3, 4] (xput σ 5 2 1) ς4) 2 4 ∧ (xbk [2, 3, 4] (xput σ 5 2 1) ς4) 2 4 ≤ n := p4.1
    replace f4 : Fr [2] [] (xput σ 5 2 1) (xbk [2, 3, 4] (xput σ 5 2 1) ς4) := f4.bk (by decide) (by decide)
    generalize xbk [2, 3, 4] (xput σ 5 2 1) ς4 = σ4 at f4 hb hw hs hm tk5 tk7 tk8 tk6 tk4 hr9 p4 ⊢
    have hF := hF.tr f4 (by decide) (by decide)
    have hT := hT.fr f4 (by decide) (by decide) (by decide) (by decide)
    replace hG := (f4.1 5 (by decide) (by decide)).trans hG
    replace hH := (f4.1 6 (by decide) (by decide)).trans hH
    have z2_4 : σ4 0 2 = σ 0 2 := f4.2 2 (by decide)
    refine And.intro rfl ?_
    refine And.intro (by omega) ?_
    exact hQ _ _ hF ⟨hT, (show 0 ≤ σ4 2 4 ∧ σ4 2 4 ≤ σ4 2 2 ∧ σ4 2 2 ≤ 940 from by omega), by omega, (show (¬ σ 5 2 = 0 ∧ 1 = 0 ∧ (σ4 2 9) = 3 ∧ (σ4 2 10) = tka b n m p) ∨ (σ 5 2 = 0 ∧ 1 = 1) from by omega), fun _ => ⟨⟨⟨hb, hs, hm, hw⟩, ⟨tk5, tk7, tk8, tk6, tk4⟩, hr9⟩, hG⟩⟩
  · refine xMVf (sh := shT) (ci := 6) (τ := [2, 3, 4]) (E := xT kX6_fail) (t := 2) (r := [xvi 3]) (σ := σ) rfl rfl (fun Q5 hQ5 => sX6_failF (σ := xsel [2, 3, 4] σ) (kind := 3) (show σ 2 9 = 0 from by omega) (fun r5 ς5 f5 p5 => hQ5 _ _ ?_))
    have hb : (xbk [2, 3, 4] σ ς5) 4 = b := (f5.1 2 (by decide) (by decide)).trans hb
    have hw : WDS ((xbk [2, 3, 4] σ ς5) 3) := by
      have e9 : (xbk [2, 3, 4] σ ς5) 3 = σ 3 := f5.1 1 (by decide) (by decide)
      rw [e9]; exact hw
    have hs : (xbk [2, 3, 4] σ ς5) 2 2 = n := (f5.2 2 (by decide)).trans (show σ 2 2 = n from by omega)
    have hm : (xbk [2, 3, 4] σ ς5) 2 3 = m := (f5.2 3 (by decide)).trans (show σ 2 3 = m from by omega)
    replace p5 : r5 = 0 ∧ (xbk [2, 3, 4] σ ς5) 2 9 = 3 ∧ (xbk [2, 3, 4] σ ς5) 2 10 = tka b n m p := ⟨p5.1, p5.2.1, p5.2.2.trans (show σ 2 6 = _ from by omega)⟩
    have u4 : (xbk [2, 3, 4] σ ς5) 2 4 = σ 2 4 := f5.2 4 (by decide)
    have u5 : (xbk [2, 3, 4] σ ς5) 2 5 = σ 2 5 := f5.2 5 (by decide)
    have u6 : (xbk [2, 3, 4] σ ς5) 2 6 = σ 2 6 := f5.2 6 (by decide)
    have u7 : (xbk [2, 3, 4] σ ς5) 2 7 = σ 2 7 := f5.2 7 (by decide)
    have u8 : (xbk [2, 3, 4] σ ς5) 2 8 = σ 2 8 := f5.2 8 (by decide)
    have uq5 : (xbk [2, 3, 4] σ ς5) 2 4 = σ 2 4 := u4
    have tk5 := u5.trans tk5; replace tk6 := u6.trans tk6; replace tk4 := u4.trans tk4
    replace tk7 : tkc b n m p = 301 → (xbk [2, 3, 4] σ ς5) 2 7 = tkv b n m p ∧ 0 ≤ tkv b n m p ∧ tkv b n m p < 1000 := by rw [u7]; exact tk7
    replace tk8 : tkc b n m p = 300 → WP ((xbk [2, 3, 4] σ ς5) 2 8) (tkw b n m p) := by rw [u8]; exact tk8
    clear u4 u5 u6 u7 u8
    replace f5 : Fr [2] [] σ (xbk [2, 3, 4] σ ς5) := f5.bk (by decide) (by decide)
    generalize xbk [2, 3, 4] σ ς5 = σ5 at f5 hb hw hs hm tk5 tk7 tk8 tk6 tk4 p5 uq5 ⊢
    have hF := hF.tr f5 (by decide) (by decide)
    have hT := hT.fr f5 (by decide) (by decide) (by decide) (by decide)
    replace hG := (f5.1 5 (by decide) (by decide)).trans hG
    replace hH := (f5.1 6 (by decide) (by decide)).trans hH
    have z2_5 : σ5 0 2 = σ 0 2 := f5.2 2 (by decide)
    refine And.intro rfl ?_
    refine And.intro (by omega) ?_
    exact hQ _ _ hF ⟨hT, (show 0 ≤ σ5 2 4 ∧ σ5 2 4 ≤ σ5 2 2 ∧ σ5 2 2 ≤ 940 from by omega), by omega, (show (¬ σ 5 2 = 0 ∧ r5 = 0 ∧ (σ5 2 9) = 3 ∧ (σ5 2 10) = tka b n m p) ∨ (σ 5 2 = 0 ∧ r5 = 1) from by omega), fun hr => absurd hr (by omega)⟩
