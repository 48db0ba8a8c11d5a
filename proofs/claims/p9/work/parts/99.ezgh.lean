/-! The class's lines of a table, said by the TOKENS of the text. -/
def RDt (σ : xS) (b : Nat → Int) (n m p : Int) : Prop := (σ 4 = b ∧ σ 2 2 = n ∧ σ 2 3 = m ∧ WDS (σ 3)) ∧ RCs (xsel [2, 3, 4] σ) b n m p ∧ σ 2 9 = 0
set_option maxHeartbeats 4000000 in
set_option maxRecDepth 100000 in
theorem sX9_readKindsF {b nmR : Nat → Int} {n m p : Int} {σ : xS} {Q : Option xV → xS → Prop} (hp0 : TG σ) (hp1 : (0 ≤ σ 2 4 ∧ σ 2 4 ≤ σ 2 2 ∧ σ 2 2 ≤ 940)) (hp2 : RDt σ b n m p) (hQ : ∀ r : Int, ∀ σ' : xS, Fr [2, 5] [] σ σ' → (TG σ' ∧ (0 ≤ σ' 2 4 ∧ σ' 2 4 ≤ σ' 2 2 ∧ σ' 2 2 ≤ 940) ∧ (r = 0 ∨ r = 1) ∧ ((0 < σ 5 0 ∧ r = 0 ∧ σ' 2 9 = 3 ∧ σ' 2 10 = tka b n m p) ∨ (σ 5 0 ≤ 0 ∧ ¬ tkc b n m (tkp b n m p) = 301 ∧ r = 0 ∧ σ' 2 9 = 1 ∧ σ' 2 10 = tka b n m (tkp b n m p)) ∨ (σ 5 0 ≤ 0 ∧ tkc b n m (tkp b n m p) = 301 ∧ ¬ (2 ≤ tkv b n m (tkp b n m p) ∧ tkv b n m (tkp b n m p) ≤ 13) ∧ r = 0 ∧ σ' 2 9 = 2 ∧ σ' 2 10 = tka b n m (tkp b n m p)) ∨ (σ 5 0 ≤ 0 ∧ tkc b n m (tkp b n m p) = 301 ∧ (2 ≤ tkv b n m (tkp b n m p) ∧ tkv b n m (tkp b n m p) ≤ 13) ∧ r = 1)) ∧ (r = 1 → RDt σ' b n m (tkp b n m (tkp b n m p)) ∧ σ' 5 = up (σ 5) 0 (tkv b n m (tkp b n m p)))) → Q (some (xvi r)) σ') : xT kX9_readKinds [xvr 0, xvr 5] σ Q := by
  refine ⟨Nat.le_of_ble_eq_true rfl, fun X hX => ?_⟩
  show X 0 [xvr 0, xvr 5] σ
  have hF : Fr [2, 5] [] σ σ := Fr.rf
  refine hX 400 0 _ _ ?_
  have hT := hp0
  obtain ⟨⟨hb, hs, hm, hw⟩, hrc, hr9⟩ := id hp2
  have tk5 : σ 2 5 = tkc b n m p := hrc.1
  have tk7 : tkc b n m p = 301 → σ 2 7 = tkv b n m p ∧ 0 ≤ tkv b n m p ∧ tkv b n m p < 1000 := hrc.2.1
  have tk8 : tkc b n m p = 300 → WP (σ 2 8) (tkw b n m p) := hrc.2.2.1
  have tk6 : σ 2 6 = tka b n m p := hrc.2.2.2.1
  have tk4 : σ 2 4 = tkp b n m p := hrc.2.2.2.2
  have hG : σ 5 = σ 5 := rfl
  have hH : σ 6 = σ 6 := rfl
  intro v1 e1 l1 h1
  have e1 : v1 = σ 5 0 := e1
  refine And.intro (fun c2 => ?_) (fun c2 => ?_)
  · refine xMVf (sh := shT) (ci := 6) (τ := [2, 3, 4]) (E := xT kX6_advance) (t := 2) (r := []) (σ := σ) rfl rfl (fun Q3 hQ3 => sX6_adv (σ := xsel [2, 3, 4] σ) (b := b) (n := n) (m := m) (p := (tkp b n m p)) (show 0 ≤ σ 2 4 ∧ σ 2 4 ≤ σ 2 2 ∧ σ 2 2 ≤ 940 from by omega) hb (show σ 2 2 = n from by omega) (show σ 2 3 = m from by omega) (show σ 2 4 = (tkp b n m p) from by omega) hw (fun ς3 f3 p3 => hQ3 _ _ ?_))
    have hb : (xbk [2, 3, 4] σ ς3) 4 = b := (f3.1 2 (by decide) (by decide)).trans hb
    have hw : WDS ((xbk [2, 3, 4] σ ς3) 3) := by
      have e9 : (xbk [2, 3, 4] σ ς3) 3 = σ 3 := f3.1 1 (by decide) (by decide)
      rw [e9]; exact hw
    have hs : (xbk [2, 3, 4] σ ς3) 2 2 = n := (f3.2 2 (by decide)).trans (show σ 2 2 = n from by omega)
    have hm : (xbk [2, 3, 4] σ ς3) 2 3 = m := (f3.2 3 (by decide)).trans (show σ 2 3 = m from by omega)
    have tk5 : (xbk [2, 3, 4] σ ς3) 2 5 = tkc b n m (tkp b n m p) := p3.2.1
    have tk7 : tkc b n m (tkp b n m p) = 301 → (xbk [2, 3, 4] σ ς3) 2 7 = tkv b n m (tkp b n m p) ∧ 0 ≤ tkv b n m (tkp b n m p) ∧ tkv b n m (tkp b n m p) < 1000 := p3.2.2.1
    have tk8 : tkc b n m (tkp b n m p) = 300 → WP ((xbk [2, 3, 4] σ ς3) 2 8) (tkw b n m (tkp b n m p)) := p3.2.2.2.1
    have tk6 : (xbk [2, 3, 4] σ ς3) 2 6 = tka b n m (tkp b n m p) := p3.2.2.2.2.1
    have tk4 : (xbk [2, 3, 4] σ ς3) 2 4 = tkp b n m (tkp b n m p) := p3.2.2.2.2.2
    have hr9 : (xbk [2, 3, 4] σ ς3) 2 9 = 0 := (f3.2 9 (by decide)).trans (show σ 2 9 = 0 from by omega)
    replace p3 : 0 ≤ (xbk [2, 3, 4] σ ς3) 2 4 ∧ (xbk [2, 3, 4] σ ς3) 2 4 ≤ n := p3.1
    replace f3 : Fr [2] [] σ (xbk [2, 3, 4] σ ς3) := f3.bk (by decide) (by decide)
    generalize xbk [2, 3, 4] σ ς3 = σ3 at f3 hb hw hs hm tk5 tk7 tk8 tk6 tk4 hr9 p3 ⊢
    have hF := hF.tr f3 (by decide) (by decide)
    have hT := hT.fr f3 (by decide) (by decide) (by decide) (by decide)
    replace hG := (f3.1 5 (by decide) (by decide)).trans hG
    replace hH := (f3.1 6 (by decide) (by decide)).trans hH
    have z2_3 : σ3 0 2 = σ 0 2 := f3.2 2 (by decide)
    refine xMVf (sh := shT) (ci := 6) (τ := [2, 3, 4]) (E := xT kX6_isNumber) (t := 2) (r := [xvi 2, xvi 13]) (σ := σ3) rfl rfl (fun Q4 hQ4 => sX6_isNumberF (σ := xsel [2, 3, 4] σ3) (least := 2) (greatest := 13) (show σ3 2 9 = 0 from by omega) (fun r4 ς4 f4 p4 => hQ4 _ _ ?_))
    have hb : (xbk [2, 3, 4] σ3 ς4) 4 = b := (f4.1 2 (by decide) (by decide)).trans hb
    have hw : WDS ((xbk [2, 3, 4] σ3 ς4) 3) := by
      have e9 : (xbk [2, 3, 4] σ3 ς4) 3 = σ3 3 := f4.1 1 (by decide) (by decide)
      rw [e9]; exact hw
    have hs : (xbk [2, 3, 4] σ3 ς4) 2 2 = n := (f4.2 2 (by decide)).trans (show σ3 2 2 = n from by omega)
    have hm : (xbk [2, 3, 4] σ3 ς4) 2 3 = m := (f4.2 3 (by decide)).trans (show σ3 2 3 = m from by omega)
    have o4 : (r4 = 1 ∧ σ3 2 5 = 301 ∧ 2 ≤ σ3 2 7 ∧ σ3 2 7 ≤ 13 ∧ (xbk [2, 3, 4] σ3 ς4) 2 9 = 0) ∨ (r4 = 0 ∧ ¬ σ3 2 5 = 301 ∧ (xbk [2, 3, 4] σ3 ς4) 2 9 = 1 ∧ (xbk [2, 3, 4] σ3 ς4) 2 10 = σ3 2 6) ∨ (r4 = 0 ∧ σ3 2 5 = 301 ∧ ¬ (2 ≤ σ3 2 7 ∧ σ3 2 7 ≤ 13) ∧ (xbk [2, 3, 4] σ3 ς4) 2 9 = 2 ∧ (xbk [2, 3, 4] σ3 ς4) 2 10 = σ3 2 6) := p4
    replace p4 : (r4 = 1 ∧ tkc b n m (tkp b n m p) = 301 ∧ 2 ≤ tkv b n m (tkp b n m p) ∧ tkv b n m (tkp b n m p) ≤ 13 ∧ (xbk [2, 3, 4] σ3 ς4) 2 9 = 0) ∨ (r4 = 0 ∧ ¬ tkc b n m (tkp b n m p) = 301 ∧ (xbk [2, 3, 4] σ3 ς4) 2 9 = 1 ∧ (xbk [2, 3, 4] σ3 ς4) 2 10 = tka b n m (tkp b n m p)) ∨ (r4 = 0 ∧ tkc b n m (tkp b n m p) = 301 ∧ ¬ (2 ≤ tkv b n m (tkp b n m p) ∧ tkv b n m (tkp b n m p) ≤ 13) ∧ (xbk [2, 3, 4] σ3 ς4) 2 9 = 2 ∧ (xbk [2, 3, 4] σ3 ς4) 2 10 = tka b n m (tkp b n m p)) := by
      rcases o4 with q | q | q
      · have z := tk7 (by omega); omega
      · omega
      · have z := tk7 (by omega); omega
    clear o4
    have u4 : (xbk [2, 3, 4] σ3 ς4) 2 4 = σ3 2 4 := f4.2 4 (by decide)
    have u5 : (xbk [2, 3, 4] σ3 ς4) 2 5 = σ3 2 5 := f4.2 5 (by decide)
    have u6 : (xbk [2, 3, 4] σ3 ς4) 2 6 = σ3 2 6 := f4.2 6 (by decide)
    have u7 : (xbk [2, 3, 4] σ3 ς4) 2 7 = σ3 2 7 := f4.2 7 (by decide)
    have u8 : (xbk [2, 3, 4] σ3 ς4) 2 8 = σ3 2 8 := f4.2 8 (by decide)
    have uq4 : (xbk [2, 3, 4] σ3 ς4) 2 4 = σ3 2 4 := u4
    have tk5 := u5.trans tk5; replace tk6 := u6.trans tk6; replace tk4 := u4.trans tk4
    replace tk7 : tkc b n m (tkp b n m p) = 301 → (xbk [2, 3, 4] σ3 ς4) 2 7 = tkv b n m (tkp b n m p) ∧ 0 ≤ tkv b n m (tkp b n m p) ∧ tkv b n m (tkp b n m p) < 1000 := by rw [u7]; exact tk7
    replace tk8 : tkc b n m (tkp b n m p) = 300 → WP ((xbk [2, 3, 4] σ3 ς4) 2 8) (tkw b n m (tkp b n m p)) := by rw [u8]; exact tk8
    clear u4 u5 u6 u7 u8
    replace f4 : Fr [2] [] σ3 (xbk [2, 3, 4] σ3 ς4) := f4.bk (by decide) (by decide)
    generalize xbk [2, 3, 4] σ3 ς4 = σ4 at f4 hb hw hs hm tk5 tk7 tk8 tk6 tk4 p4 uq4 ⊢
    have hF := hF.tr f4 (by decide) (by decide)
    have hT := hT.fr f4 (by decide) (by decide) (by decide) (by decide)
    replace hG := (f4.1 5 (by decide) (by decide)).trans hG
    replace hH := (f4.1 6 (by decide) (by decide)).trans hH
    have z2_4 : σ4 0 2 = σ3 0 2 := f4.2 2 (by decide)
    refine And.intro (fun c5 => ?_) (fun c5 => ?_)
    · intro v6 e6 l6 h6
      have e6 : v6 = σ4 2 7 := e6
      have hF := hF.pt (t := 5) (j := 0) (v := v6) (by decide) (by decide)
      have g0 : σ4 5 0 = σ 5 0 := congrFun hG 0
      have hT : TG (xput σ4 5 0 v6) := hT.f5 (by intro _; omega) (by intro z; cases z) (by intro z; cases z) (by decide) (by decide) (by intro _; omega)
      replace hG : (xput σ4 5 0 v6) 5 = up (σ 5) 0 v6 := by
        show xput _ 5 0 _ 5 = _
        rw [xput_up]; try rw [hG]
      refine xMVf (sh := shT) (ci := 6) (τ := [2, 3, 4]) (E := xT kX6_advance) (t := 2) (r := []) (σ := (xput σ4 5 0 v6)) rfl rfl (fun Q8 hQ8 => sX6_adv (σ := xsel [2, 3, 4] (xput σ4 5 0 v6)) (b := b) (n := n) (m := m) (p := (tkp b n m (tkp b n m p))) (show 0 ≤ σ4 2 4 ∧ σ4 2 4 ≤ σ4 2 2 ∧ σ4 2 2 ≤ 940 from by omega) hb (show σ4 2 2 = n from by omega) (show σ4 2 3 = m from by omega) (show σ4 2 4 = (tkp b n m (tkp b n m p)) from by omega) hw (fun ς8 f8 p8 => hQ8 _ _ ?_))
      have hb : (xbk [2, 3, 4] (xput σ4 5 0 v6) ς8) 4 = b := (f8.1 2 (by decide) (by decide)).trans hb
      have hw : WDS ((xbk [2, 3, 4] (xput σ4 5 0 v6) ς8) 3) := by
        have e9 : (xbk [2, 3, 4] (xput σ4 5 0 v6) ς8) 3 = σ4 3 := f8.1 1 (by decide) (by decide)
        rw [e9]; exact hw
      have hs : (xbk [2, 3, 4] (xput σ4 5 0 v6) ς8) 2 2 = n := (f8.2 2 (by decide)).trans (show σ4 2 2 = n from by omega)
      have hm : (xbk [2, 3, 4] (xput σ4 5 0 v6) ς8) 2 3 = m := (f8.2 3 (by decide)).trans (show σ4 2 3 = m from by omega)
      have tk5 : (xbk [2, 3, 4] (xput σ4 5 0 v6) ς8) 2 5 = tkc b n m (tkp b n m (tkp b n m p)) := p8.2.1
      have tk7 : tkc b n m (tkp b n m (tkp b n m p)) = 301 → (xbk [2, 3, 4] (xput σ4 5 0 v6) ς8) 2 7 = tkv b n m (tkp b n m (tkp b n m p)) ∧ 0 ≤ tkv b n m (tkp b n m (tkp b n m p)) ∧ tkv b n m (tkp b n m (tkp b n m p)) < 1000 := p8.2.2.1
      have tk8 : tkc b n m (tkp b n m (tkp b n m p)) = 300 → WP ((xbk [2, 3, 4] (xput σ4 5 0 v6) ς8) 2 8) (tkw b n m (tkp b n m (tkp b n m p))) := p8.2.2.2.1
      have tk6 : (xbk [2, 3, 4] (xput σ4 5 0 v6) ς8) 2 6 = tka b n m (tkp b n m (tkp b n m p)) := p8.2.2.2.2.1
      have tk4 : (xbk [2, 3, 4] (xput σ4 5 0 v6) ς8) 2 4 = tkp b n m (tkp b n m (tkp b n m p)) := p8.2.2.2.2.2
      have hr9 : (xbk [2, 3, 4] (xput σ4 5 0 v6) ς8) 2 9 = 0 := (f8.2 9 (by decide)).trans (show σ4 2 9 = 0 from by omega)
      replace p8 : 0 ≤ (xbk [2, 3, 4] (xput σ4 5 0 v6) ς8) 2 4 ∧ (xbk [2, 3, 4] (xput σ4 5 0 v6) ς8) 2 4 ≤ n := p8.1
      replace f8 : Fr [2] [] (xput σ4 5 0 v6) (xbk [2, 3, 4] (xput σ4 5 0 v6) ς8) := f8.bk (by decide) (by decide)
      generalize xbk [2, 3, 4] (xput σ4 5 0 v6) ς8 = σ8 at f8 hb hw hs hm tk5 tk7 tk8 tk6 tk4 hr9 p8 ⊢
      have hF := hF.tr f8 (by decide) (by decide)
      have hT := hT.fr f8 (by decide) (by decide) (by decide) (by decide)
      replace hG := (f8.1 5 (by decide) (by decide)).trans hG
      replace hH := (f8.1 6 (by decide) (by decide)).trans hH
      have z2_8 : σ8 0 2 = σ4 0 2 := f8.2 2 (by decide)
      refine And.intro rfl ?_
      refine And.intro (by omega) ?_
      exact hQ _ _ hF ⟨hT, (show 0 ≤ σ8 2 4 ∧ σ8 2 4 ≤ σ8 2 2 ∧ σ8 2 2 ≤ 940 from by omega), by omega, (show (0 < σ 5 0 ∧ 1 = 0 ∧ (σ8 2 9) = 3 ∧ (σ8 2 10) = tka b n m p) ∨ (σ 5 0 ≤ 0 ∧ ¬ tkc b n m (tkp b n m p) = 301 ∧ 1 = 0 ∧ (σ8 2 9) = 1 ∧ (σ8 2 10) = tka b n m (tkp b n m p)) ∨ (σ 5 0 ≤ 0 ∧ tkc b n m (tkp b n m p) = 301 ∧ ¬ (2 ≤ tkv b n m (tkp b n m p) ∧ tkv b n m (tkp b n m p) ≤ 13) ∧ 1 = 0 ∧ (σ8 2 9) = 2 ∧ (σ8 2 10) = tka b n m (tkp b n m p)) ∨ (σ 5 0 ≤ 0 ∧ tkc b n m (tkp b n m p) = 301 ∧ (2 ≤ tkv b n m (tkp b n m p) ∧ tkv b n m (tkp b n m p) ≤ 13) ∧ 1 = 1) from by omega), fun _ => ⟨⟨⟨hb, hs, hm, hw⟩, ⟨tk5, tk7, tk8, tk6, tk4⟩, hr9⟩, (by rw [hG]; congr 1; omega)⟩⟩
    · refine And.intro rfl ?_
      refine And.intro (by omega) ?_
      exact hQ _ _ hF ⟨hT, (show 0 ≤ σ4 2 4 ∧ σ4 2 4 ≤ σ4 2 2 ∧ σ4 2 2 ≤ 940 from by omega), by omega, (show (0 < σ 5 0 ∧ 0 = 0 ∧ (σ4 2 9) = 3 ∧ (σ4 2 10) = tka b n m p) ∨ (σ 5 0 ≤ 0 ∧ ¬ tkc b n m (tkp b n m p) = 301 ∧ 0 = 0 ∧ (σ4 2 9) = 1 ∧ (σ4 2 10) = tka b n m (tkp b n m p)) ∨ (σ 5 0 ≤ 0 ∧ tkc b n m (tkp b n m p) = 301 ∧ ¬ (2 ≤ tkv b n m (tkp b n m p) ∧ tkv b n m (tkp b n m p) ≤ 13) ∧ 0 = 0 ∧ (σ4 2 9) = 2 ∧ (σ4 2 10) = tka b n m (tkp b n m p)) ∨ (σ 5 0 ≤ 0 ∧ tkc b n m (tkp b n m p) = 301 ∧ (2 ≤ tkv b n m (tkp b n m p) ∧ tkv b n m (tkp b n m p) ≤ 13) ∧ 0 = 1) from by omega), fun hr => absurd hr (by omega)⟩
  · refine xMVf (sh := shT) (ci := 6) (τ := [2, 3, 4]) (E := xT kX6_fail) (t := 2) (r := [xvi 3]) (σ := σ) rfl rfl (fun Q9 hQ9 => sX6_failF (σ := xsel [2, 3, 4] σ) (kind := 3) (show σ 2 9 = 0 from by omega) (fun r9 ς9 f9 p9 => hQ9 _ _ ?_))
    have hb : (xbk [2, 3, 4] σ ς9) 4 = b := (f9.1 2 (by decide) (by decide)).trans hb
    have hw : WDS ((xbk [2, 3, 4] σ ς9) 3) := by
      have e9 : (xbk [2, 3, 4] σ ς9) 3 = σ 3 := f9.1 1 (by decide) (by decide)
      rw [e9]; exact hw
    have hs : (xbk [2, 3, 4] σ ς9) 2 2 = n := (f9.2 2 (by decide)).trans (show σ 2 2 = n from by omega)
    have hm : (xbk [2, 3, 4] σ ς9) 2 3 = m := (f9.2 3 (by decide)).trans (show σ 2 3 = m from by omega)
    replace p9 : r9 = 0 ∧ (xbk [2, 3, 4] σ ς9) 2 9 = 3 ∧ (xbk [2, 3, 4] σ ς9) 2 10 = tka b n m p := ⟨p9.1, p9.2.1, p9.2.2.trans (show σ 2 6 = _ from by omega)⟩
    have u4 : (xbk [2, 3, 4] σ ς9) 2 4 = σ 2 4 := f9.2 4 (by decide)
    have u5 : (xbk [2, 3, 4] σ ς9) 2 5 = σ 2 5 := f9.2 5 (by decide)
    have u6 : (xbk [2, 3, 4] σ ς9) 2 6 = σ 2 6 := f9.2 6 (by decide)
    have u7 : (xbk [2, 3, 4] σ ς9) 2 7 = σ 2 7 := f9.2 7 (by decide)
    have u8 : (xbk [2, 3, 4] σ ς9) 2 8 = σ 2 8 := f9.2 8 (by decide)
    have uq9 : (xbk [2, 3, 4] σ ς9) 2 4 = σ 2 4 := u4
    have tk5 := u5.trans tk5; replace tk6 := u6.trans tk6; replace tk4 := u4.trans tk4
    replace tk7 : tkc b n m p = 301 → (xbk [2, 3, 4] σ ς9) 2 7 = tkv b n m p ∧ 0 ≤ tkv b n m p ∧ tkv b n m p < 1000 := by rw [u7]; exact tk7
    replace tk8 : tkc b n m p = 300 → WP ((xbk [2, 3, 4] σ ς9) 2 8) (tkw b n m p) := by rw [u8]; exact tk8
    clear u4 u5 u6 u7 u8
    replace f9 : Fr [2] [] σ (xbk [2, 3, 4] σ ς9) := f9.bk (by decide) (by decide)
    generalize xbk [2, 3, 4] σ ς9 = σ9 at f9 hb hw hs hm tk5 tk7 tk8 tk6 tk4 p9 uq9 ⊢
    have hF := hF.tr f9 (by decide) (by decide)
    have hT := hT.fr f9 (by decide) (by decide) (by decide) (by decide)
    replace hG := (f9.1 5 (by decide) (by decide)).trans hG
    replace hH := (f9.1 6 (by decide) (by decide)).trans hH
    have z2_9 : σ9 0 2 = σ 0 2 := f9.2 2 (by decide)
    refine And.intro rfl ?_
    refine And.intro (by omega) ?_
    exact hQ _ _ hF ⟨hT, (show 0 ≤ σ9 2 4 ∧ σ9 2 4 ≤ σ9 2 2 ∧ σ9 2 2 ≤ 940 from by omega), by omega, (show (0 < σ 5 0 ∧ r9 = 0 ∧ (σ9 2 9) = 3 ∧ (σ9 2 10) = tka b n m p) ∨ (σ 5 0 ≤ 0 ∧ ¬ tkc b n m (tkp b n m p) = 301 ∧ r9 = 0 ∧ (σ9 2 9) = 1 ∧ (σ9 2 10) = tka b n m (tkp b n m p)) ∨ (σ 5 0 ≤ 0 ∧ tkc b n m (tkp b n m p) = 301 ∧ ¬ (2 ≤ tkv b n m (tkp b n m p) ∧ tkv b n m (tkp b n m p) ≤ 13) ∧ r9 = 0 ∧ (σ9 2 9) = 2 ∧ (σ9 2 10) = tka b n m (tkp b n m p)) ∨ (σ 5 0 ≤ 0 ∧ tkc b n m (tkp b n m p) = 301 ∧ (2 ≤ tkv b n m (tkp b n m p) ∧ tkv b n m (tkp b n m p) ≤ 13) ∧ r9 = 1) from by omega), fun hr => absurd hr (by omega)⟩
