set_option maxHeartbeats 4000000 in
set_option maxRecDepth 100000 in
theorem sX9_readHandF {b nmR : Nat → Int} {n m p : Int} {σ : xS} {Q : Option xV → xS → Prop} (hp0 : TG σ) (hp1 : (0 ≤ σ 2 4 ∧ σ 2 4 ≤ σ 2 2 ∧ σ 2 2 ≤ 940)) (hp2 : RDt σ b n m p) (hp3 : NMR (σ 6) nmR (σ 5 1)) (hQ : ∀ r : Int, ∀ σ' : xS, Fr [1, 2, 5, 7, 8] [] σ σ' → (TG σ' ∧ (0 ≤ σ' 2 4 ∧ σ' 2 4 ≤ σ' 2 2 ∧ σ' 2 2 ≤ 940) ∧ (r = 0 ∨ r = 1) ∧ ((¬ tkc b n m (tkp b n m p) = 300 ∧ r = 0 ∧ σ' 2 9 = 1 ∧ σ' 2 10 = tka b n m (tkp b n m p)) ∨ (tkc b n m (tkp b n m p) = 300 ∧ fnd nmR (σ 5 1).toNat (tkw b n m (tkp b n m p)) = -1 ∧ r = 0 ∧ σ' 2 9 = 3 ∧ σ' 2 10 = tka b n m (tkp b n m p)) ∨ (tkc b n m (tkp b n m p) = 300 ∧ ¬ fnd nmR (σ 5 1).toNat (tkw b n m (tkp b n m p)) = -1 ∧ ¬ tkc b n m (tkp b n m (tkp b n m p)) = 301 ∧ r = 0 ∧ σ' 2 9 = 1 ∧ σ' 2 10 = tka b n m (tkp b n m (tkp b n m p))) ∨ (tkc b n m (tkp b n m p) = 300 ∧ ¬ fnd nmR (σ 5 1).toNat (tkw b n m (tkp b n m p)) = -1 ∧ tkc b n m (tkp b n m (tkp b n m p)) = 301 ∧ ¬ (tkv b n m (tkp b n m (tkp b n m p))) ≤ σ 5 0 - 1 ∧ r = 0 ∧ σ' 2 9 = 2 ∧ σ' 2 10 = tka b n m (tkp b n m (tkp b n m p))) ∨ (tkc b n m (tkp b n m p) = 300 ∧ ¬ fnd nmR (σ 5 1).toNat (tkw b n m (tkp b n m p)) = -1 ∧ tkc b n m (tkp b n m (tkp b n m p)) = 301 ∧ (tkv b n m (tkp b n m (tkp b n m p))) ≤ σ 5 0 - 1 ∧ 0 < σ 7 (13 * fnd nmR (σ 5 1).toNat (tkw b n m (tkp b n m p)) + tkv b n m (tkp b n m (tkp b n m p))).toNat ∧ r = 0 ∧ σ' 2 9 = 3 ∧ σ' 2 10 = tka b n m (tkp b n m (tkp b n m p))) ∨ (tkc b n m (tkp b n m p) = 300 ∧ ¬ fnd nmR (σ 5 1).toNat (tkw b n m (tkp b n m p)) = -1 ∧ tkc b n m (tkp b n m (tkp b n m p)) = 301 ∧ (tkv b n m (tkp b n m (tkp b n m p))) ≤ σ 5 0 - 1 ∧ σ 7 (13 * fnd nmR (σ 5 1).toNat (tkw b n m (tkp b n m p)) + tkv b n m (tkp b n m (tkp b n m p))).toNat ≤ 0 ∧ ¬ tkc b n m (tkp b n m (tkp b n m (tkp b n m p))) = 301 ∧ r = 0 ∧ σ' 2 9 = 1 ∧ σ' 2 10 = tka b n m (tkp b n m (tkp b n m (tkp b n m p)))) ∨ (tkc b n m (tkp b n m p) = 300 ∧ ¬ fnd nmR (σ 5 1).toNat (tkw b n m (tkp b n m p)) = -1 ∧ tkc b n m (tkp b n m (tkp b n m p)) = 301 ∧ (tkv b n m (tkp b n m (tkp b n m p))) ≤ σ 5 0 - 1 ∧ σ 7 (13 * fnd nmR (σ 5 1).toNat (tkw b n m (tkp b n m p)) + tkv b n m (tkp b n m (tkp b n m p))).toNat ≤ 0 ∧ tkc b n m (tkp b n m (tkp b n m (tkp b n m p))) = 301 ∧ ¬ (1 ≤ (tkv b n m (tkp b n m (tkp b n m (tkp b n m p)))) ∧ (tkv b n m (tkp b n m (tkp b n m (tkp b n m p)))) ≤ 4) ∧ r = 0 ∧ σ' 2 9 = 2 ∧ σ' 2 10 = tka b n m (tkp b n m (tkp b n m (tkp b n m p)))) ∨ (tkc b n m (tkp b n m p) = 300 ∧ ¬ fnd nmR (σ 5 1).toNat (tkw b n m (tkp b n m p)) = -1 ∧ tkc b n m (tkp b n m (tkp b n m p)) = 301 ∧ (tkv b n m (tkp b n m (tkp b n m p))) ≤ σ 5 0 - 1 ∧ σ 7 (13 * fnd nmR (σ 5 1).toNat (tkw b n m (tkp b n m p)) + tkv b n m (tkp b n m (tkp b n m p))).toNat ≤ 0 ∧ tkc b n m (tkp b n m (tkp b n m (tkp b n m p))) = 301 ∧ (1 ≤ (tkv b n m (tkp b n m (tkp b n m (tkp b n m p)))) ∧ (tkv b n m (tkp b n m (tkp b n m (tkp b n m p)))) ≤ 4) ∧ 4 < σ 1 (tkv b n m (tkp b n m (tkp b n m p))).toNat + (tkv b n m (tkp b n m (tkp b n m (tkp b n m p)))) ∧ r = 0 ∧ σ' 2 9 = 5 ∧ σ' 2 10 = tka b n m (tkp b n m (tkp b n m (tkp b n m p)))) ∨ (tkc b n m (tkp b n m p) = 300 ∧ ¬ fnd nmR (σ 5 1).toNat (tkw b n m (tkp b n m p)) = -1 ∧ tkc b n m (tkp b n m (tkp b n m p)) = 301 ∧ (tkv b n m (tkp b n m (tkp b n m p))) ≤ σ 5 0 - 1 ∧ σ 7 (13 * fnd nmR (σ 5 1).toNat (tkw b n m (tkp b n m p)) + tkv b n m (tkp b n m (tkp b n m p))).toNat ≤ 0 ∧ tkc b n m (tkp b n m (tkp b n m (tkp b n m p))) = 301 ∧ (1 ≤ (tkv b n m (tkp b n m (tkp b n m (tkp b n m p)))) ∧ (tkv b n m (tkp b n m (tkp b n m (tkp b n m p)))) ≤ 4) ∧ σ 1 (tkv b n m (tkp b n m (tkp b n m p))).toNat + (tkv b n m (tkp b n m (tkp b n m (tkp b n m p)))) ≤ 4 ∧ r = 1)) ∧ (r = 1 → RDt σ' b n m (tkp b n m (tkp b n m (tkp b n m (tkp b n m p)))) ∧ σ' 5 = σ 5 ∧ σ' 6 = σ 6 ∧ σ' 1 = up (σ 1) (tkv b n m (tkp b n m (tkp b n m p))).toNat (σ 1 (tkv b n m (tkp b n m (tkp b n m p))).toNat + (tkv b n m (tkp b n m (tkp b n m (tkp b n m p))))) ∧ σ' 7 = up (σ 7) (13 * fnd nmR (σ 5 1).toNat (tkw b n m (tkp b n m p)) + tkv b n m (tkp b n m (tkp b n m p))).toNat (σ 7 (13 * fnd nmR (σ 5 1).toNat (tkw b n m (tkp b n m p)) + tkv b n m (tkp b n m (tkp b n m p))).toNat + (tkv b n m (tkp b n m (tkp b n m (tkp b n m p))))))) → Q (some (xvi r)) σ') : xT kX9_readHand [xvr 0, xvr 5] σ Q := by
  refine ⟨Nat.le_of_ble_eq_true rfl, fun X hX => ?_⟩
  show X 0 [xvr 0, xvr 5, xvu, xvu] σ
  have hF : Fr [1, 2, 5, 7, 8] [] σ σ := Fr.rf
  refine hX 400 0 _ _ ?_
  have hT := hp0
  obtain ⟨⟨hb, hs, hm, hw⟩, hrc, hr9⟩ := id hp2
  have tk5 : σ 2 5 = tkc b n m p := hrc.1
  have tk7 : tkc b n m p = 301 → σ 2 7 = tkv b n m p ∧ 0 ≤ tkv b n m p ∧ tkv b n m p < 1000 := hrc.2.1
  have tk8 : tkc b n m p = 300 → WP (σ 2 8) (tkw b n m p) := hrc.2.2.1
  have tk6 : σ 2 6 = tka b n m p := hrc.2.2.2.1
  have tk4 : σ 2 4 = tkp b n m p := hrc.2.2.2.2
  have hG : σ 5 = σ 5 := rfl
  have hH : σ 6 = σ 6 := rfl
  have hN := hp3
  have hI : σ 1 = σ 1 := rfl
  have hJ : σ 7 = σ 7 := rfl
  refine xMVf (sh := shT) (ci := 6) (τ := [2, 3, 4]) (E := xT kX6_advance) (t := 2) (r := []) (σ := σ) rfl rfl (fun Q1 hQ1 => sX6_adv (σ := xsel [2, 3, 4] σ) (b := b) (n := n) (m := m) (p := (tkp b n m p)) (show 0 ≤ σ 2 4 ∧ σ 2 4 ≤ σ 2 2 ∧ σ 2 2 ≤ 940 from by omega) hb (show σ 2 2 = n from by omega) (show σ 2 3 = m from by omega) (show σ 2 4 = (tkp b n m p) from by omega) hw (fun ς1 f1 p1 => hQ1 _ _ ?_))
  have hb : (xbk [2, 3, 4] σ ς1) 4 = b := (f1.1 2 (by decide) (by decide)).trans hb
  have hw : WDS ((xbk [2, 3, 4] σ ς1) 3) := by
    have e9 : (xbk [2, 3, 4] σ ς1) 3 = σ 3 := f1.1 1 (by decide) (by decide)
    rw [e9]; exact hw
  have hs : (xbk [2, 3, 4] σ ς1) 2 2 = n := (f1.2 2 (by decide)).trans (show σ 2 2 = n from by omega)
  have hm : (xbk [2, 3, 4] σ ς1) 2 3 = m := (f1.2 3 (by decide)).trans (show σ 2 3 = m from by omega)
  have tk5 : (xbk [2, 3, 4] σ ς1) 2 5 = tkc b n m (tkp b n m p) := p1.2.1
  have tk7 : tkc b n m (tkp b n m p) = 301 → (xbk [2, 3, 4] σ ς1) 2 7 = tkv b n m (tkp b n m p) ∧ 0 ≤ tkv b n m (tkp b n m p) ∧ tkv b n m (tkp b n m p) < 1000 := p1.2.2.1
  have tk8 : tkc b n m (tkp b n m p) = 300 → WP ((xbk [2, 3, 4] σ ς1) 2 8) (tkw b n m (tkp b n m p)) := p1.2.2.2.1
  have tk6 : (xbk [2, 3, 4] σ ς1) 2 6 = tka b n m (tkp b n m p) := p1.2.2.2.2.1
  have tk4 : (xbk [2, 3, 4] σ ς1) 2 4 = tkp b n m (tkp b n m p) := p1.2.2.2.2.2
  have hr9 : (xbk [2, 3, 4] σ ς1) 2 9 = 0 := (f1.2 9 (by decide)).trans (show σ 2 9 = 0 from by omega)
  replace p1 : 0 ≤ (xbk [2, 3, 4] σ ς1) 2 4 ∧ (xbk [2, 3, 4] σ ς1) 2 4 ≤ n := p1.1
  replace f1 : Fr [2] [] σ (xbk [2, 3, 4] σ ς1) := f1.bk (by decide) (by decide)
  generalize xbk [2, 3, 4] σ ς1 = σ1 at f1 hb hw hs hm tk5 tk7 tk8 tk6 tk4 hr9 p1 ⊢
  have hF := hF.tr f1 (by decide) (by decide)
  have hT := hT.fr f1 (by decide) (by decide) (by decide) (by decide)
  replace hG := (f1.1 5 (by decide) (by decide)).trans hG
  replace hH := (f1.1 6 (by decide) (by decide)).trans hH
  replace hI := (f1.1 1 (by decide) (by decide)).trans hI
  replace hJ := (f1.1 7 (by decide) (by decide)).trans hJ
  refine xMVf (sh := shT) (ci := 6) (τ := [2, 3, 4, 5, 6, 7, 8, 9, 10, 11, 12, 13, 14, 15, 16, 17]) (E := xT kX6_isPerson) (t := 2) (r := [xvr 5]) (σ := σ1) rfl rfl (fun Q2 hQ2 => sX6_isPersonF (σ := xsel [2, 3, 4, 5, 6, 7, 8, 9, 10, 11, 12, 13, 14, 15, 16, 17] σ1) (show 0 ≤ σ1 5 1 ∧ σ1 5 1 ≤ 6 from hT.1.1.2.1) (show σ1 2 9 = 0 from by omega) (fun r2 ς2 f2 p2 => hQ2 _ _ ?_))
  have hb : (xbk [2, 3, 4, 5, 6, 7, 8, 9, 10, 11, 12, 13, 14, 15, 16, 17] σ1 ς2) 4 = b := (f2.1 2 (by decide) (by decide)).trans hb
  have hw : WDS ((xbk [2, 3, 4, 5, 6, 7, 8, 9, 10, 11, 12, 13, 14, 15, 16, 17] σ1 ς2) 3) := by
    have e9 : (xbk [2, 3, 4, 5, 6, 7, 8, 9, 10, 11, 12, 13, 14, 15, 16, 17] σ1 ς2) 3 = σ1 3 := f2.1 1 (by decide) (by decide)
    rw [e9]; exact hw
  have hs : (xbk [2, 3, 4, 5, 6, 7, 8, 9, 10, 11, 12, 13, 14, 15, 16, 17] σ1 ς2) 2 2 = n := (f2.2 2 (by decide)).trans (show σ1 2 2 = n from by omega)
  have hm : (xbk [2, 3, 4, 5, 6, 7, 8, 9, 10, 11, 12, 13, 14, 15, 16, 17] σ1 ς2) 2 3 = m := (f2.2 3 (by decide)).trans (show σ1 2 3 = m from by omega)
  have o2 : (r2 = 1 ∧ σ1 2 5 = 300 ∧ ¬ fnd (σ1 6) (σ1 5 1).toNat (σ1 2 8) = -1 ∧ (xbk [2, 3, 4, 5, 6, 7, 8, 9, 10, 11, 12, 13, 14, 15, 16, 17] σ1 ς2) 2 9 = 0) ∨ (r2 = 0 ∧ ¬ σ1 2 5 = 300 ∧ (xbk [2, 3, 4, 5, 6, 7, 8, 9, 10, 11, 12, 13, 14, 15, 16, 17] σ1 ς2) 2 9 = 1 ∧ (xbk [2, 3, 4, 5, 6, 7, 8, 9, 10, 11, 12, 13, 14, 15, 16, 17] σ1 ς2) 2 10 = σ1 2 6) ∨ (r2 = 0 ∧ σ1 2 5 = 300 ∧ fnd (σ1 6) (σ1 5 1).toNat (σ1 2 8) = -1 ∧ (xbk [2, 3, 4, 5, 6, 7, 8, 9, 10, 11, 12, 13, 14, 15, 16, 17] σ1 ς2) 2 9 = 3 ∧ (xbk [2, 3, 4, 5, 6, 7, 8, 9, 10, 11, 12, 13, 14, 15, 16, 17] σ1 ς2) 2 10 = σ1 2 6) := p2
  have hfn : tkc b n m (tkp b n m p) = 300 → fnd (σ1 6) (σ1 5 1).toNat (σ1 2 8) = fnd nmR (σ 5 1).toNat (tkw b n m (tkp b n m p)) := fun h => FNM hN hH (congrFun hG 1) (hT.1.1.2.1).1 (tk8 h)
  replace p2 : (r2 = 1 ∧ tkc b n m (tkp b n m p) = 300 ∧ ¬ fnd nmR (σ 5 1).toNat (tkw b n m (tkp b n m p)) = -1 ∧ (xbk [2, 3, 4, 5, 6, 7, 8, 9, 10, 11, 12, 13, 14, 15, 16, 17] σ1 ς2) 2 9 = 0) ∨ (r2 = 0 ∧ ¬ tkc b n m (tkp b n m p) = 300 ∧ (xbk [2, 3, 4, 5, 6, 7, 8, 9, 10, 11, 12, 13, 14, 15, 16, 17] σ1 ς2) 2 9 = 1 ∧ (xbk [2, 3, 4, 5, 6, 7, 8, 9, 10, 11, 12, 13, 14, 15, 16, 17] σ1 ς2) 2 10 = tka b n m (tkp b n m p)) ∨ (r2 = 0 ∧ tkc b n m (tkp b n m p) = 300 ∧ fnd nmR (σ 5 1).toNat (tkw b n m (tkp b n m p)) = -1 ∧ (xbk [2, 3, 4, 5, 6, 7, 8, 9, 10, 11, 12, 13, 14, 15, 16, 17] σ1 ς2) 2 9 = 3 ∧ (xbk [2, 3, 4, 5, 6, 7, 8, 9, 10, 11, 12, 13, 14, 15, 16, 17] σ1 ς2) 2 10 = tka b n m (tkp b n m p)) := by
    rcases o2 with q | q | q
    · have z := hfn (by omega); omega
    · omega
    · have z := hfn (by omega); omega
  clear o2 hfn
  have u4 : (xbk [2, 3, 4, 5, 6, 7, 8, 9, 10, 11, 12, 13, 14, 15, 16, 17] σ1 ς2) 2 4 = σ1 2 4 := f2.2 4 (by decide)
  have u5 : (xbk [2, 3, 4, 5, 6, 7, 8, 9, 10, 11, 12, 13, 14, 15, 16, 17] σ1 ς2) 2 5 = σ1 2 5 := f2.2 5 (by decide)
  have u6 : (xbk [2, 3, 4, 5, 6, 7, 8, 9, 10, 11, 12, 13, 14, 15, 16, 17] σ1 ς2) 2 6 = σ1 2 6 := f2.2 6 (by decide)
  have u7 : (xbk [2, 3, 4, 5, 6, 7, 8, 9, 10, 11, 12, 13, 14, 15, 16, 17] σ1 ς2) 2 7 = σ1 2 7 := f2.2 7 (by decide)
  have u8 : (xbk [2, 3, 4, 5, 6, 7, 8, 9, 10, 11, 12, 13, 14, 15, 16, 17] σ1 ς2) 2 8 = σ1 2 8 := f2.2 8 (by decide)
  have uq2 : (xbk [2, 3, 4, 5, 6, 7, 8, 9, 10, 11, 12, 13, 14, 15, 16, 17] σ1 ς2) 2 4 = σ1 2 4 := u4
  have tk5 := u5.trans tk5; replace tk6 := u6.trans tk6; replace tk4 := u4.trans tk4
  replace tk7 : tkc b n m (tkp b n m p) = 301 → (xbk [2, 3, 4, 5, 6, 7, 8, 9, 10, 11, 12, 13, 14, 15, 16, 17] σ1 ς2) 2 7 = tkv b n m (tkp b n m p) ∧ 0 ≤ tkv b n m (tkp b n m p) ∧ tkv b n m (tkp b n m p) < 1000 := by rw [u7]; exact tk7
  replace tk8 : tkc b n m (tkp b n m p) = 300 → WP ((xbk [2, 3, 4, 5, 6, 7, 8, 9, 10, 11, 12, 13, 14, 15, 16, 17] σ1 ς2) 2 8) (tkw b n m (tkp b n m p)) := by rw [u8]; exact tk8
  clear u4 u5 u6 u7 u8
  replace f2 : Fr [2] [] σ1 (xbk [2, 3, 4, 5, 6, 7, 8, 9, 10, 11, 12, 13, 14, 15, 16, 17] σ1 ς2) := f2.bk (by decide) (by decide)
  generalize xbk [2, 3, 4, 5, 6, 7, 8, 9, 10, 11, 12, 13, 14, 15, 16, 17] σ1 ς2 = σ2 at f2 hb hw hs hm tk5 tk7 tk8 tk6 tk4 p2 uq2 ⊢
  have hF := hF.tr f2 (by decide) (by decide)
  have hT := hT.fr f2 (by decide) (by decide) (by decide) (by decide)
  replace hG := (f2.1 5 (by decide) (by decide)).trans hG
  replace hH := (f2.1 6 (by decide) (by decide)).trans hH
  replace hI := (f2.1 1 (by decide) (by decide)).trans hI
  replace hJ := (f2.1 7 (by decide) (by decide)).trans hJ
  refine And.intro (fun c3 => ?_) (fun c3 => ?_)
  · intro v4 e4 l4 h4
    have e4 : v4 = σ2 2 8 := e4
    refine xMVp (sh := shT) (ci := 2) (τ := [5, 6, 7, 8, 9, 10, 11, 12, 13, 14, 15, 16, 17]) (E := xT kX2_find) (t := 5) (r := [xvl v4]) (σ := σ2) rfl rfl xbk_sel (fun Q5 hQ5 => sX2_findF (σ := xsel [5, 6, 7, 8, 9, 10, 11, 12, 13, 14, 15, 16, 17] σ2) (name := v4) (show 0 ≤ σ2 5 1 ∧ σ2 5 1 ≤ 6 from hT.1.1.2.1) (fun r5 p5 => hQ5 _ ?_))
    replace p5 : r5 = fnd nmR (σ 5 1).toNat (tkw b n m (tkp b n m p)) := by
      have z : r5 = fnd (σ2 6) (σ2 5 1).toNat v4 := p5
      rw [show v4 = σ2 2 8 from by omega] at z
      rw [z]; exact FNM hN hH (congrFun hG 1) (hT.1.1.2.1).1 (tk8 (by omega))
    have hfr := fnd_r nmR (tkw b n m (tkp b n m p)) (σ 5 1).toNat
    refine And.intro (Nat.le_of_ble_eq_true rfl) ?_
    show xw _ _ _ _ _ _ _ _ _ _ [xvr 0, xvr 5, xvi r5, xvu] _ _
    have hp6 : 0 ≤ σ 5 1 ∧ σ 5 1 ≤ 6 := hp0.1.1.2.1
    replace p2 : tkc b n m (tkp b n m p) = 300 ∧ ¬ fnd nmR (σ 5 1).toNat (tkw b n m (tkp b n m p)) = -1 ∧ σ2 2 9 = 0 := by omega
    refine xMVf (sh := shT) (ci := 6) (τ := [2, 3, 4]) (E := xT kX6_advance) (t := 2) (r := []) (σ := σ2) rfl rfl (fun Q6 hQ6 => sX6_adv (σ := xsel [2, 3, 4] σ2) (b := b) (n := n) (m := m) (p := (tkp b n m (tkp b n m p))) (show 0 ≤ σ2 2 4 ∧ σ2 2 4 ≤ σ2 2 2 ∧ σ2 2 2 ≤ 940 from by omega) hb (show σ2 2 2 = n from by omega) (show σ2 2 3 = m from by omega) (show σ2 2 4 = (tkp b n m (tkp b n m p)) from by omega) hw (fun ς6 f6 p6 => hQ6 _ _ ?_))
    have hb : (xbk [2, 3, 4] σ2 ς6) 4 = b := (f6.1 2 (by decide) (by decide)).trans hb
    have hw : WDS ((xbk [2, 3, 4] σ2 ς6) 3) := by
      have e9 : (xbk [2, 3, 4] σ2 ς6) 3 = σ2 3 := f6.1 1 (by decide) (by decide)
      rw [e9]; exact hw
    have hs : (xbk [2, 3, 4] σ2 ς6) 2 2 = n := (f6.2 2 (by decide)).trans (show σ2 2 2 = n from by omega)
    have hm : (xbk [2, 3, 4] σ2 ς6) 2 3 = m := (f6.2 3 (by decide)).trans (show σ2 2 3 = m from by omega)
    have tk5 : (xbk [2, 3, 4] σ2 ς6) 2 5 = tkc b n m (tkp b n m (tkp b n m p)) := p6.2.1
    have tk7 : tkc b n m (tkp b n m (tkp b n m p)) = 301 → (xbk [2, 3, 4] σ2 ς6) 2 7 = tkv b n m (tkp b n m (tkp b n m p)) ∧ 0 ≤ tkv b n m (tkp b n m (tkp b n m p)) ∧ tkv b n m (tkp b n m (tkp b n m p)) < 1000 := p6.2.2.1
    have tk8 : tkc b n m (tkp b n m (tkp b n m p)) = 300 → WP ((xbk [2, 3, 4] σ2 ς6) 2 8) (tkw b n m (tkp b n m (tkp b n m p))) := p6.2.2.2.1
    have tk6 : (xbk [2, 3, 4] σ2 ς6) 2 6 = tka b n m (tkp b n m (tkp b n m p)) := p6.2.2.2.2.1
    have tk4 : (xbk [2, 3, 4] σ2 ς6) 2 4 = tkp b n m (tkp b n m (tkp b n m p)) := p6.2.2.2.2.2
    have hr9 : (xbk [2, 3, 4] σ2 ς6) 2 9 = 0 := (f6.2 9 (by decide)).trans (show σ2 2 9 = 0 from by omega)
    replace p6 : 0 ≤ (xbk [2, 3, 4] σ2 ς6) 2 4 ∧ (xbk [2, 3, 4] σ2 ς6) 2 4 ≤ n := p6.1
    replace f6 : Fr [2] [] σ2 (xbk [2, 3, 4] σ2 ς6) := f6.bk (by decide) (by decide)
    generalize xbk [2, 3, 4] σ2 ς6 = σ6 at f6 hb hw hs hm tk5 tk7 tk8 tk6 tk4 hr9 p6 ⊢
    have hF := hF.tr f6 (by decide) (by decide)
    have hT := hT.fr f6 (by decide) (by decide) (by decide) (by decide)
    replace hG := (f6.1 5 (by decide) (by decide)).trans hG
    replace hH := (f6.1 6 (by decide) (by decide)).trans hH
    replace hI := (f6.1 1 (by decide) (by decide)).trans hI
    replace hJ := (f6.1 7 (by decide) (by decide)).trans hJ
    have hk0 : 0 ≤ σ6 5 0 ∧ σ6 5 0 ≤ 13 := hT.1.1.1
    have hk1 : σ6 5 0 = σ 5 0 := congrFun hG 0
    intro v7 e7 l7 h7
    have e7 : v7 = σ6 5 0 := e7
    intro z8 t8 e8 l8 h8
    try have w8 : t8 = 0 := by omega
    refine xMVf (sh := shT) (ci := 6) (τ := [2, 3, 4]) (E := xT kX6_isNumber) (t := 2) (r := [xvi 0, xvi z8]) (σ := σ6) rfl rfl (fun Q9 hQ9 => sX6_isNumberF (σ := xsel [2, 3, 4] σ6) (least := 0) (greatest := z8) (show σ6 2 9 = 0 from by omega) (fun r9 ς9 f9 p9 => hQ9 _ _ ?_))
    have hb : (xbk [2, 3, 4] σ6 ς9) 4 = b := (f9.1 2 (by decide) (by decide)).trans hb
    have hw : WDS ((xbk [2, 3, 4] σ6 ς9) 3) := by
      have e9 : (xbk [2, 3, 4] σ6 ς9) 3 = σ6 3 := f9.1 1 (by decide) (by decide)
      rw [e9]; exact hw
    have hs : (xbk [2, 3, 4] σ6 ς9) 2 2 = n := (f9.2 2 (by decide)).trans (show σ6 2 2 = n from by omega)
    have hm : (xbk [2, 3, 4] σ6 ς9) 2 3 = m := (f9.2 3 (by decide)).trans (show σ6 2 3 = m from by omega)
    have o9 : (r9 = 1 ∧ σ6 2 5 = 301 ∧ 0 ≤ σ6 2 7 ∧ σ6 2 7 ≤ z8 ∧ (xbk [2, 3, 4] σ6 ς9) 2 9 = 0) ∨ (r9 = 0 ∧ ¬ σ6 2 5 = 301 ∧ (xbk [2, 3, 4] σ6 ς9) 2 9 = 1 ∧ (xbk [2, 3, 4] σ6 ς9) 2 10 = σ6 2 6) ∨ (r9 = 0 ∧ σ6 2 5 = 301 ∧ ¬ (0 ≤ σ6 2 7 ∧ σ6 2 7 ≤ z8) ∧ (xbk [2, 3, 4] σ6 ς9) 2 9 = 2 ∧ (xbk [2, 3, 4] σ6 ς9) 2 10 = σ6 2 6) := p9
    replace p9 : (r9 = 1 ∧ tkc b n m (tkp b n m (tkp b n m p)) = 301 ∧ 0 ≤ tkv b n m (tkp b n m (tkp b n m p)) ∧ tkv b n m (tkp b n m (tkp b n m p)) ≤ z8 ∧ (xbk [2, 3, 4] σ6 ς9) 2 9 = 0) ∨ (r9 = 0 ∧ ¬ tkc b n m (tkp b n m (tkp b n m p)) = 301 ∧ (xbk [2, 3, 4] σ6 ς9) 2 9 = 1 ∧ (xbk [2, 3, 4] σ6 ς9) 2 10 = tka b n m (tkp b n m (tkp b n m p))) ∨ (r9 = 0 ∧ tkc b n m (tkp b n m (tkp b n m p)) = 301 ∧ ¬ (0 ≤ tkv b n m (tkp b n m (tkp b n m p)) ∧ tkv b n m (tkp b n m (tkp b n m p)) ≤ z8) ∧ (xbk [2, 3, 4] σ6 ς9) 2 9 = 2 ∧ (xbk [2, 3, 4] σ6 ς9) 2 10 = tka b n m (tkp b n m (tkp b n m p))) := by
      rcases o9 with q | q | q
      · have z := tk7 (by omega); omega
      · omega
      · have z := tk7 (by omega); omega
    clear o9
    have u4 : (xbk [2, 3, 4] σ6 ς9) 2 4 = σ6 2 4 := f9.2 4 (by decide)
    have u5 : (xbk [2, 3, 4] σ6 ς9) 2 5 = σ6 2 5 := f9.2 5 (by decide)
    have u6 : (xbk [2, 3, 4] σ6 ς9) 2 6 = σ6 2 6 := f9.2 6 (by decide)
    have u7 : (xbk [2, 3, 4] σ6 ς9) 2 7 = σ6 2 7 := f9.2 7 (by decide)
    have u8 : (xbk [2, 3, 4] σ6 ς9) 2 8 = σ6 2 8 := f9.2 8 (by decide)
    have uq9 : (xbk [2, 3, 4] σ6 ς9) 2 4 = σ6 2 4 := u4
    have tk5 := u5.trans tk5; replace tk6 := u6.trans tk6; replace tk4 := u4.trans tk4
    replace tk7 : tkc b n m (tkp b n m (tkp b n m p)) = 301 → (xbk [2, 3, 4] σ6 ς9) 2 7 = tkv b n m (tkp b n m (tkp b n m p)) ∧ 0 ≤ tkv b n m (tkp b n m (tkp b n m p)) ∧ tkv b n m (tkp b n m (tkp b n m p)) < 1000 := by rw [u7]; exact tk7
    replace tk8 : tkc b n m (tkp b n m (tkp b n m p)) = 300 → WP ((xbk [2, 3, 4] σ6 ς9) 2 8) (tkw b n m (tkp b n m (tkp b n m p))) := by rw [u8]; exact tk8
    clear u4 u5 u6 u7 u8
    replace f9 : Fr [2] [] σ6 (xbk [2, 3, 4] σ6 ς9) := f9.bk (by decide) (by decide)
    generalize xbk [2, 3, 4] σ6 ς9 = σ9 at f9 hb hw hs hm tk5 tk7 tk8 tk6 tk4 p9 uq9 ⊢
    have hF := hF.tr f9 (by decide) (by decide)
    have hT := hT.fr f9 (by decide) (by decide) (by decide) (by decide)
    replace hG := (f9.1 5 (by decide) (by decide)).trans hG
    replace hH := (f9.1 6 (by decide) (by decide)).trans hH
    replace hI := (f9.1 1 (by decide) (by decide)).trans hI
    replace hJ := (f9.1 7 (by decide) (by decide)).trans hJ
    refine And.intro (fun c10 => ?_) (fun c10 => ?_)
    · intro v11 e11 l11 h11
      have e11 : v11 = σ9 2 7 := e11
      refine And.intro (Nat.le_of_ble_eq_true rfl) ?_
      show xw _ _ _ _ _ _ _ _ _ _ [xvr 0, xvr 5, xvi r5, xvi v11] _ _
      refine xMVp (sh := shT) (ci := 2) (τ := [5, 6, 7, 8, 9, 10, 11, 12, 13, 14, 15, 16, 17]) (E := xT kX2_held) (t := 5) (r := [xvi r5, xvi v11]) (σ := σ9) rfl rfl xbk_sel (fun Q12 hQ12 => sX2_held (σ := xsel [5, 6, 7, 8, 9, 10, 11, 12, 13, 14, 15, 16, 17] σ9) (p := r5) (kind := v11) (show 0 ≤ r5 ∧ r5 ≤ 5 from by omega) (show 0 ≤ v11 ∧ v11 ≤ 12 from by omega) (fun r12 p12 => hQ12 _ ?_))
      have p12 : r12 = σ9 7 (13 * r5 + v11).toNat := p12
      have hh1 : r12 = σ 7 (13 * fnd nmR (σ 5 1).toNat (tkw b n m (tkp b n m p)) + tkv b n m (tkp b n m (tkp b n m p))).toNat := by
        rw [p12, show (13 * r5 + v11).toNat = (13 * fnd nmR (σ 5 1).toNat (tkw b n m (tkp b n m p)) + tkv b n m (tkp b n m (tkp b n m p))).toNat from by omega]
        exact congrFun hJ _
      refine And.intro (fun c13 => ?_) (fun c13 => ?_)
      · replace p9 : tkc b n m (tkp b n m (tkp b n m p)) = 301 ∧ 0 ≤ tkv b n m (tkp b n m (tkp b n m p)) ∧ tkv b n m (tkp b n m (tkp b n m p)) ≤ z8 ∧ σ9 2 9 = 0 := by omega
        refine xMVf (sh := shT) (ci := 6) (τ := [2, 3, 4]) (E := xT kX6_advance) (t := 2) (r := []) (σ := σ9) rfl rfl (fun Q14 hQ14 => sX6_adv (σ := xsel [2, 3, 4] σ9) (b := b) (n := n) (m := m) (p := (tkp b n m (tkp b n m (tkp b n m p)))) (show 0 ≤ σ9 2 4 ∧ σ9 2 4 ≤ σ9 2 2 ∧ σ9 2 2 ≤ 940 from by omega) hb (show σ9 2 2 = n from by omega) (show σ9 2 3 = m from by omega) (show σ9 2 4 = (tkp b n m (tkp b n m (tkp b n m p))) from by omega) hw (fun ς14 f14 p14 => hQ14 _ _ ?_))
        have hb : (xbk [2, 3, 4] σ9 ς14) 4 = b := (f14.1 2 (by decide) (by decide)).trans hb
        have hw : WDS ((xbk [2, 3, 4] σ9 ς14) 3) := by
          have e9 : (xbk [2, 3, 4] σ9 ς14) 3 = σ9 3 := f14.1 1 (by decide) (by decide)
          rw [e9]; exact hw
        have hs : (xbk [2, 3, 4] σ9 ς14) 2 2 = n := (f14.2 2 (by decide)).trans (show σ9 2 2 = n from by omega)
        have hm : (xbk [2, 3, 4] σ9 ς14) 2 3 = m := (f14.2 3 (by decide)).trans (show σ9 2 3 = m from by omega)
        have tk5 : (xbk [2, 3, 4] σ9 ς14) 2 5 = tkc b n m (tkp b n m (tkp b n m (tkp b n m p))) := p14.2.1
        have tk7 : tkc b n m (tkp b n m (tkp b n m (tkp b n m p))) = 301 → (xbk [2, 3, 4] σ9 ς14) 2 7 = tkv b n m (tkp b n m (tkp b n m (tkp b n m p))) ∧ 0 ≤ tkv b n m (tkp b n m (tkp b n m (tkp b n m p))) ∧ tkv b n m (tkp b n m (tkp b n m (tkp b n m p))) < 1000 := p14.2.2.1
        have tk8 : tkc b n m (tkp b n m (tkp b n m (tkp b n m p))) = 300 → WP ((xbk [2, 3, 4] σ9 ς14) 2 8) (tkw b n m (tkp b n m (tkp b n m (tkp b n m p)))) := p14.2.2.2.1
        have tk6 : (xbk [2, 3, 4] σ9 ς14) 2 6 = tka b n m (tkp b n m (tkp b n m (tkp b n m p))) := p14.2.2.2.2.1
        have tk4 : (xbk [2, 3, 4] σ9 ς14) 2 4 = tkp b n m (tkp b n m (tkp b n m (tkp b n m p))) := p14.2.2.2.2.2
        have hr9 : (xbk [2, 3, 4] σ9 ς14) 2 9 = 0 := (f14.2 9 (by decide)).trans (show σ9 2 9 = 0 from by omega)
        replace p14 : 0 ≤ (xbk [2, 3, 4] σ9 ς14) 2 4 ∧ (xbk [2, 3, 4] σ9 ς14) 2 4 ≤ n := p14.1
        replace f14 : Fr [2] [] σ9 (xbk [2, 3, 4] σ9 ς14) := f14.bk (by decide) (by decide)
        generalize xbk [2, 3, 4] σ9 ς14 = σ14 at f14 hb hw hs hm tk5 tk7 tk8 tk6 tk4 hr9 p14 ⊢
        have hF := hF.tr f14 (by decide) (by decide)
        have hT := hT.fr f14 (by decide) (by decide) (by decide) (by decide)
        replace hG := (f14.1 5 (by decide) (by decide)).trans hG
        replace hH := (f14.1 6 (by decide) (by decide)).trans hH
        replace hI := (f14.1 1 (by decide) (by decide)).trans hI
        replace hJ := (f14.1 7 (by decide) (by decide)).trans hJ
        refine xMVf (sh := shT) (ci := 6) (τ := [2, 3, 4]) (E := xT kX6_isNumber) (t := 2) (r := [xvi 1, xvi 4]) (σ := σ14) rfl rfl (fun Q15 hQ15 => sX6_isNumberF (σ := xsel [2, 3, 4] σ14) (least := 1) (greatest := 4) (show σ14 2 9 = 0 from by omega) (fun r15 ς15 f15 p15 => hQ15 _ _ ?_))
        have hb : (xbk [2, 3, 4] σ14 ς15) 4 = b := (f15.1 2 (by decide) (by decide)).trans hb
        have hw : WDS ((xbk [2, 3, 4] σ14 ς15) 3) := by
          have e9 : (xbk [2, 3, 4] σ14 ς15) 3 = σ14 3 := f15.1 1 (by decide) (by decide)
          rw [e9]; exact hw
        have hs : (xbk [2, 3, 4] σ14 ς15) 2 2 = n := (f15.2 2 (by decide)).trans (show σ14 2 2 = n from by omega)
        have hm : (xbk [2, 3, 4] σ14 ς15) 2 3 = m := (f15.2 3 (by decide)).trans (show σ14 2 3 = m from by omega)
        have o15 : (r15 = 1 ∧ σ14 2 5 = 301 ∧ 1 ≤ σ14 2 7 ∧ σ14 2 7 ≤ 4 ∧ (xbk [2, 3, 4] σ14 ς15) 2 9 = 0) ∨ (r15 = 0 ∧ ¬ σ14 2 5 = 301 ∧ (xbk [2, 3, 4] σ14 ς15) 2 9 = 1 ∧ (xbk [2, 3, 4] σ14 ς15) 2 10 = σ14 2 6) ∨ (r15 = 0 ∧ σ14 2 5 = 301 ∧ ¬ (1 ≤ σ14 2 7 ∧ σ14 2 7 ≤ 4) ∧ (xbk [2, 3, 4] σ14 ς15) 2 9 = 2 ∧ (xbk [2, 3, 4] σ14 ς15) 2 10 = σ14 2 6) := p15
        replace p15 : (r15 = 1 ∧ tkc b n m (tkp b n m (tkp b n m (tkp b n m p))) = 301 ∧ 1 ≤ tkv b n m (tkp b n m (tkp b n m (tkp b n m p))) ∧ tkv b n m (tkp b n m (tkp b n m (tkp b n m p))) ≤ 4 ∧ (xbk [2, 3, 4] σ14 ς15) 2 9 = 0) ∨ (r15 = 0 ∧ ¬ tkc b n m (tkp b n m (tkp b n m (tkp b n m p))) = 301 ∧ (xbk [2, 3, 4] σ14 ς15) 2 9 = 1 ∧ (xbk [2, 3, 4] σ14 ς15) 2 10 = tka b n m (tkp b n m (tkp b n m (tkp b n m p)))) ∨ (r15 = 0 ∧ tkc b n m (tkp b n m (tkp b n m (tkp b n m p))) = 301 ∧ ¬ (1 ≤ tkv b n m (tkp b n m (tkp b n m (tkp b n m p))) ∧ tkv b n m (tkp b n m (tkp b n m (tkp b n m p))) ≤ 4) ∧ (xbk [2, 3, 4] σ14 ς15) 2 9 = 2 ∧ (xbk [2, 3, 4] σ14 ς15) 2 10 = tka b n m (tkp b n m (tkp b n m (tkp b n m p)))) := by
          rcases o15 with q | q | q
          · have z := tk7 (by omega); omega
          · omega
          · have z := tk7 (by omega); omega
        clear o15
        have u4 : (xbk [2, 3, 4] σ14 ς15) 2 4 = σ14 2 4 := f15.2 4 (by decide)
        have u5 : (xbk [2, 3, 4] σ14 ς15) 2 5 = σ14 2 5 := f15.2 5 (by decide)
        have u6 : (xbk [2, 3, 4] σ14 ς15) 2 6 = σ14 2 6 := f15.2 6 (by decide)
        have u7 : (xbk [2, 3, 4] σ14 ς15) 2 7 = σ14 2 7 := f15.2 7 (by decide)
        have u8 : (xbk [2, 3, 4] σ14 ς15) 2 8 = σ14 2 8 := f15.2 8 (by decide)
        have uq15 : (xbk [2, 3, 4] σ14 ς15) 2 4 = σ14 2 4 := u4
        have tk5 := u5.trans tk5; replace tk6 := u6.trans tk6; replace tk4 := u4.trans tk4
        replace tk7 : tkc b n m (tkp b n m (tkp b n m (tkp b n m p))) = 301 → (xbk [2, 3, 4] σ14 ς15) 2 7 = tkv b n m (tkp b n m (tkp b n m (tkp b n m p))) ∧ 0 ≤ tkv b n m (tkp b n m (tkp b n m (tkp b n m p))) ∧ tkv b n m (tkp b n m (tkp b n m (tkp b n m p))) < 1000 := by rw [u7]; exact tk7
        replace tk8 : tkc b n m (tkp b n m (tkp b n m (tkp b n m p))) = 300 → WP ((xbk [2, 3, 4] σ14 ς15) 2 8) (tkw b n m (tkp b n m (tkp b n m (tkp b n m p)))) := by rw [u8]; exact tk8
        clear u4 u5 u6 u7 u8
        replace f15 : Fr [2] [] σ14 (xbk [2, 3, 4] σ14 ς15) := f15.bk (by decide) (by decide)
        generalize xbk [2, 3, 4] σ14 ς15 = σ15 at f15 hb hw hs hm tk5 tk7 tk8 tk6 tk4 p15 uq15 ⊢
        have hF := hF.tr f15 (by decide) (by decide)
        have hT := hT.fr f15 (by decide) (by decide) (by decide) (by decide)
        replace hG := (f15.1 5 (by decide) (by decide)).trans hG
        replace hH := (f15.1 6 (by decide) (by decide)).trans hH
        replace hI := (f15.1 1 (by decide) (by decide)).trans hI
        replace hJ := (f15.1 7 (by decide) (by decide)).trans hJ
        refine And.intro (fun c16 => ?_) (fun c16 => ?_)
        · have hn3 := tk7 (by omega)
          have hi1 : σ15 1 v11.toNat = σ 1 (tkv b n m (tkp b n m (tkp b n m p))).toNat := by
            rw [hI, show v11.toNat = (tkv b n m (tkp b n m (tkp b n m p))).toNat from by omega]
          have hi4 : 0 ≤ σ15 1 v11.toNat ∧ σ15 1 v11.toNat ≤ 4 := ⟨by have z := (hT.2.1 v11.toNat (by omega)).1; have z2 : 0 ≤ gsf (σ15 7) (σ15 9) (σ15 5 8) (σ15 5 9) v11.toNat := gsf_nn hT.1.2.1 (by omega); omega, (hT.2.1 v11.toNat (by omega)).2⟩
          refine And.intro (rfl) (And.intro (⟨by omega, by omega⟩) ?_)
          intro v17 e17 l17 h17
          have e17 : v17 = σ15 1 v11.toNat := e17
          intro v18 e18 l18 h18
          have e18 : v18 = σ15 2 7 := e18
          intro z19 t19 e19 l19 h19
          try have w19 : t19 = 0 := by omega
          refine And.intro (fun c20 => ?_) (fun c20 => ?_)
          · refine And.intro (rfl) (And.intro (⟨by omega, by omega⟩) ?_)
            intro v21 e21 l21 h21
            have e21 : v21 = σ15 1 v11.toNat := e21
            intro v22 e22 l22 h22
            have e22 : v22 = σ15 2 7 := e22
            intro z23 t23 e23 l23 h23
            try have w23 : t23 = 0 := by omega
            refine And.intro (rfl) (And.intro (⟨by omega, by omega⟩) ?_)
            have hF := hF.pt (t := 1) (j := v11.toNat) (v := z23) (by decide) (by decide)
            intro v25 e25 l25 h25
            have e25 : v25 = σ15 2 7 := e25
            have hE1 : (xput σ15 1 v11.toNat z23) 1 = up (σ 1) (tkv b n m (tkp b n m (tkp b n m p))).toNat (σ 1 (tkv b n m (tkp b n m (tkp b n m p))).toNat + (tkv b n m (tkp b n m (tkp b n m (tkp b n m p))))) := by
              show xput σ15 1 v11.toNat z23 1 = _
              rw [xput_up, hI, show v11.toNat = (tkv b n m (tkp b n m (tkp b n m p))).toNat from by omega, show z23 = σ 1 (tkv b n m (tkp b n m (tkp b n m p))).toNat + (tkv b n m (tkp b n m (tkp b n m (tkp b n m p)))) from by omega]
            have hh : 0 ≤ σ15 7 (13 * r5 + v11).toNat ∧ σ15 7 (13 * r5 + v11).toNat ≤ 4 := by rw [ixk (by omega) (by omega)]; exact hT.1.2.1.h4 hT.1.2.2 (by omega) (by omega)
            refine xMVf (sh := shT) (ci := 2) (τ := [5, 6, 7, 8, 9, 10, 11, 12, 13, 14, 15, 16, 17]) (E := xT kX2_addToHand) (t := 5) (r := [xvi r5, xvi v11, xvi v25]) (σ := (xput σ15 1 v11.toNat z23)) rfl rfl (fun Q26 hQ26 => sX2_addToHand (σ := xsel [5, 6, 7, 8, 9, 10, 11, 12, 13, 14, 15, 16, 17] (xput σ15 1 v11.toNat z23)) (p := r5) (kind := v11) (n := v25) (by omega) (by omega) (show -1000 ≤ σ15 7 (13 * r5 + v11).toNat + v25 ∧ σ15 7 (13 * r5 + v11).toNat + v25 ≤ 1000 from by omega) (fun ς26 f26 p26 => hQ26 _ _ ?_))
            have q26 : (xbk [5, 6, 7, 8, 9, 10, 11, 12, 13, 14, 15, 16, 17] (xput σ15 1 v11.toNat z23) ς26) 7 = up (σ15 7) (13 * r5 + v11).toNat (σ15 7 (13 * r5 + v11).toNat + v25) := p26
            have g26 : (xbk [5, 6, 7, 8, 9, 10, 11, 12, 13, 14, 15, 16, 17] (xput σ15 1 v11.toNat z23) ς26) 5 = σ15 5 := funext fun j => f26.2 j (by simp)
            replace f26 : Fr [5, 7, 8] [] (xput σ15 1 v11.toNat z23) (xbk [5, 6, 7, 8, 9, 10, 11, 12, 13, 14, 15, 16, 17] (xput σ15 1 v11.toNat z23) ς26) := f26.bk (by decide) (by decide)
            generalize xbk [5, 6, 7, 8, 9, 10, 11, 12, 13, 14, 15, 16, 17] (xput σ15 1 v11.toNat z23) ς26 = σ26 at f26 q26 g26 ⊢
            clear p26
            have hF := hF.tr f26 (by decide) (by decide)
            have hT := hT.hand (p := r5) (kind := v11) (n := v25) (by omega) (by omega) (by omega) (by have z := congrFun hI (tkv b n m (tkp b n m (tkp b n m p))).toNat; rw [show v11.toNat = (tkv b n m (tkp b n m (tkp b n m p))).toNat from by omega]; omega) (by rw [f26.1 1 (by decide) (by decide), hE1, hI, show v11 = (tkv b n m (tkp b n m (tkp b n m p))) from by omega, show v25 = (tkv b n m (tkp b n m (tkp b n m (tkp b n m p)))) from by omega]) q26 (f26.1 9 (by decide) (by decide)) (congrFun g26 0) (congrFun g26 1) (congrFun g26 2) (congrFun g26 8) (congrFun g26 9)
            replace hI : σ26 1 = up (σ 1) (tkv b n m (tkp b n m (tkp b n m p))).toNat (σ 1 (tkv b n m (tkp b n m (tkp b n m p))).toNat + (tkv b n m (tkp b n m (tkp b n m (tkp b n m p))))) := (f26.1 1 (by decide) (by decide)).trans hE1
            replace hJ : σ26 7 = up (σ 7) (13 * fnd nmR (σ 5 1).toNat (tkw b n m (tkp b n m p)) + tkv b n m (tkp b n m (tkp b n m p))).toNat (σ 7 (13 * fnd nmR (σ 5 1).toNat (tkw b n m (tkp b n m p)) + tkv b n m (tkp b n m (tkp b n m p))).toNat + (tkv b n m (tkp b n m (tkp b n m (tkp b n m p))))) := by rw [q26, hJ, show (13 * r5 + v11).toNat = (13 * fnd nmR (σ 5 1).toNat (tkw b n m (tkp b n m p)) + tkv b n m (tkp b n m (tkp b n m p))).toNat from by omega, show v25 = (tkv b n m (tkp b n m (tkp b n m (tkp b n m p)))) from by omega]
            replace hG : σ26 5 = σ 5 := g26.trans hG
            replace hH : σ26 6 = σ 6 := (f26.1 6 (by decide) (by decide)).trans hH
            have y2 : σ26 2 = σ15 2 := f26.1 2 (by decide) (by decide)
            have y3 : σ26 3 = σ15 3 := f26.1 3 (by decide) (by decide)
            have y4 : σ26 4 = σ15 4 := f26.1 4 (by decide) (by decide)
            replace hb : σ26 4 = b := y4.trans hb
            replace hw : WDS (σ26 3) := by rw [y3]; exact hw
            replace hs : σ26 2 2 = n := (congrFun y2 2).trans hs
            replace hm : σ26 2 3 = m := (congrFun y2 3).trans hm
            have tk5 := (congrFun y2 5).trans tk5
            replace tk6 := (congrFun y2 6).trans tk6
            replace tk4 := (congrFun y2 4).trans tk4
            replace hr9 : σ26 2 9 = 0 := (congrFun y2 9).trans (show σ15 2 9 = 0 from by omega)
            have uy := congrFun y2 4
            clear y2 y3 y4 tk7 tk8
            replace p15 : tkc b n m (tkp b n m (tkp b n m (tkp b n m p))) = 301 ∧ 1 ≤ tkv b n m (tkp b n m (tkp b n m (tkp b n m p))) ∧ tkv b n m (tkp b n m (tkp b n m (tkp b n m p))) ≤ 4 ∧ σ15 2 9 = 0 := by omega
            refine xMVf (sh := shT) (ci := 6) (τ := [2, 3, 4]) (E := xT kX6_advance) (t := 2) (r := []) (σ := σ26) rfl rfl (fun Q27 hQ27 => sX6_adv (σ := xsel [2, 3, 4] σ26) (b := b) (n := n) (m := m) (p := (tkp b n m (tkp b n m (tkp b n m (tkp b n m p))))) (show 0 ≤ σ26 2 4 ∧ σ26 2 4 ≤ σ26 2 2 ∧ σ26 2 2 ≤ 940 from by omega) hb (show σ26 2 2 = n from by omega) (show σ26 2 3 = m from by omega) (show σ26 2 4 = (tkp b n m (tkp b n m (tkp b n m (tkp b n m p)))) from by omega) hw (fun ς27 f27 p27 => hQ27 _ _ ?_))
            have hb : (xbk [2, 3, 4] σ26 ς27) 4 = b := (f27.1 2 (by decide) (by decide)).trans hb
            have hw : WDS ((xbk [2, 3, 4] σ26 ς27) 3) := by
              have e9 : (xbk [2, 3, 4] σ26 ς27) 3 = σ26 3 := f27.1 1 (by decide) (by decide)
              rw [e9]; exact hw
            have hs : (xbk [2, 3, 4] σ26 ς27) 2 2 = n := (f27.2 2 (by decide)).trans (show σ26 2 2 = n from by omega)
            have hm : (xbk [2, 3, 4] σ26 ς27) 2 3 = m := (f27.2 3 (by decide)).trans (show σ26 2 3 = m from by omega)
            have tk5 : (xbk [2, 3, 4] σ26 ς27) 2 5 = tkc b n m (tkp b n m (tkp b n m (tkp b n m (tkp b n m p)))) := p27.2.1
            have tk7 : tkc b n m (tkp b n m (tkp b n m (tkp b n m (tkp b n m p)))) = 301 → (xbk [2, 3, 4] σ26 ς27) 2 7 = tkv b n m (tkp b n m (tkp b n m (tkp b n m (tkp b n m p)))) ∧ 0 ≤ tkv b n m (tkp b n m (tkp b n m (tkp b n m (tkp b n m p)))) ∧ tkv b n m (tkp b n m (tkp b n m (tkp b n m (tkp b n m p)))) < 1000 := p27.2.2.1
            have tk8 : tkc b n m (tkp b n m (tkp b n m (tkp b n m (tkp b n m p)))) = 300 → WP ((xbk [2, 3, 4] σ26 ς27) 2 8) (tkw b n m (tkp b n m (tkp b n m (tkp b n m (tkp b n m p))))) := p27.2.2.2.1
            have tk6 : (xbk [2, 3, 4] σ26 ς27) 2 6 = tka b n m (tkp b n m (tkp b n m (tkp b n m (tkp b n m p)))) := p27.2.2.2.2.1
            have tk4 : (xbk [2, 3, 4] σ26 ς27) 2 4 = tkp b n m (tkp b n m (tkp b n m (tkp b n m (tkp b n m p)))) := p27.2.2.2.2.2
            have hr9 : (xbk [2, 3, 4] σ26 ς27) 2 9 = 0 := (f27.2 9 (by decide)).trans (show σ26 2 9 = 0 from by omega)
            replace p27 : 0 ≤ (xbk [2, 3, 4] σ26 ς27) 2 4 ∧ (xbk [2, 3, 4] σ26 ς27) 2 4 ≤ n := p27.1
            replace f27 : Fr [2] [] σ26 (xbk [2, 3, 4] σ26 ς27) := f27.bk (by decide) (by decide)
            generalize xbk [2, 3, 4] σ26 ς27 = σ27 at f27 hb hw hs hm tk5 tk7 tk8 tk6 tk4 hr9 p27 ⊢
            have hF := hF.tr f27 (by decide) (by decide)
            have hT := hT.fr f27 (by decide) (by decide) (by decide) (by decide)
            replace hG := (f27.1 5 (by decide) (by decide)).trans hG
            replace hH := (f27.1 6 (by decide) (by decide)).trans hH
            replace hI := (f27.1 1 (by decide) (by decide)).trans hI
            replace hJ := (f27.1 7 (by decide) (by decide)).trans hJ
            refine And.intro rfl ?_
            refine And.intro (by omega) ?_
            exact hQ _ _ hF ⟨hT, (show 0 ≤ σ27 2 4 ∧ σ27 2 4 ≤ σ27 2 2 ∧ σ27 2 2 ≤ 940 from by omega), by omega, (show (¬ tkc b n m (tkp b n m p) = 300 ∧ 1 = 0 ∧ (σ27 2 9) = 1 ∧ (σ27 2 10) = tka b n m (tkp b n m p)) ∨ (tkc b n m (tkp b n m p) = 300 ∧ fnd nmR (σ 5 1).toNat (tkw b n m (tkp b n m p)) = -1 ∧ 1 = 0 ∧ (σ27 2 9) = 3 ∧ (σ27 2 10) = tka b n m (tkp b n m p)) ∨ (tkc b n m (tkp b n m p) = 300 ∧ ¬ fnd nmR (σ 5 1).toNat (tkw b n m (tkp b n m p)) = -1 ∧ ¬ tkc b n m (tkp b n m (tkp b n m p)) = 301 ∧ 1 = 0 ∧ (σ27 2 9) = 1 ∧ (σ27 2 10) = tka b n m (tkp b n m (tkp b n m p))) ∨ (tkc b n m (tkp b n m p) = 300 ∧ ¬ fnd nmR (σ 5 1).toNat (tkw b n m (tkp b n m p)) = -1 ∧ tkc b n m (tkp b n m (tkp b n m p)) = 301 ∧ ¬ (tkv b n m (tkp b n m (tkp b n m p))) ≤ σ 5 0 - 1 ∧ 1 = 0 ∧ (σ27 2 9) = 2 ∧ (σ27 2 10) = tka b n m (tkp b n m (tkp b n m p))) ∨ (tkc b n m (tkp b n m p) = 300 ∧ ¬ fnd nmR (σ 5 1).toNat (tkw b n m (tkp b n m p)) = -1 ∧ tkc b n m (tkp b n m (tkp b n m p)) = 301 ∧ (tkv b n m (tkp b n m (tkp b n m p))) ≤ σ 5 0 - 1 ∧ 0 < σ 7 (13 * fnd nmR (σ 5 1).toNat (tkw b n m (tkp b n m p)) + tkv b n m (tkp b n m (tkp b n m p))).toNat ∧ 1 = 0 ∧ (σ27 2 9) = 3 ∧ (σ27 2 10) = tka b n m (tkp b n m (tkp b n m p))) ∨ (tkc b n m (tkp b n m p) = 300 ∧ ¬ fnd nmR (σ 5 1).toNat (tkw b n m (tkp b n m p)) = -1 ∧ tkc b n m (tkp b n m (tkp b n m p)) = 301 ∧ (tkv b n m (tkp b n m (tkp b n m p))) ≤ σ 5 0 - 1 ∧ σ 7 (13 * fnd nmR (σ 5 1).toNat (tkw b n m (tkp b n m p)) + tkv b n m (tkp b n m (tkp b n m p))).toNat ≤ 0 ∧ ¬ tkc b n m (tkp b n m (tkp b n m (tkp b n m p))) = 301 ∧ 1 = 0 ∧ (σ27 2 9) = 1 ∧ (σ27 2 10) = tka b n m (tkp b n m (tkp b n m (tkp b n m p)))) ∨ (tkc b n m (tkp b n m p) = 300 ∧ ¬ fnd nmR (σ 5 1).toNat (tkw b n m (tkp b n m p)) = -1 ∧ tkc b n m (tkp b n m (tkp b n m p)) = 301 ∧ (tkv b n m (tkp b n m (tkp b n m p))) ≤ σ 5 0 - 1 ∧ σ 7 (13 * fnd nmR (σ 5 1).toNat (tkw b n m (tkp b n m p)) + tkv b n m (tkp b n m (tkp b n m p))).toNat ≤ 0 ∧ tkc b n m (tkp b n m (tkp b n m (tkp b n m p))) = 301 ∧ ¬ (1 ≤ (tkv b n m (tkp b n m (tkp b n m (tkp b n m p)))) ∧ (tkv b n m (tkp b n m (tkp b n m (tkp b n m p)))) ≤ 4) ∧ 1 = 0 ∧ (σ27 2 9) = 2 ∧ (σ27 2 10) = tka b n m (tkp b n m (tkp b n m (tkp b n m p)))) ∨ (tkc b n m (tkp b n m p) = 300 ∧ ¬ fnd nmR (σ 5 1).toNat (tkw b n m (tkp b n m p)) = -1 ∧ tkc b n m (tkp b n m (tkp b n m p)) = 301 ∧ (tkv b n m (tkp b n m (tkp b n m p))) ≤ σ 5 0 - 1 ∧ σ 7 (13 * fnd nmR (σ 5 1).toNat (tkw b n m (tkp b n m p)) + tkv b n m (tkp b n m (tkp b n m p))).toNat ≤ 0 ∧ tkc b n m (tkp b n m (tkp b n m (tkp b n m p))) = 301 ∧ (1 ≤ (tkv b n m (tkp b n m (tkp b n m (tkp b n m p)))) ∧ (tkv b n m (tkp b n m (tkp b n m (tkp b n m p)))) ≤ 4) ∧ 4 < σ 1 (tkv b n m (tkp b n m (tkp b n m p))).toNat + (tkv b n m (tkp b n m (tkp b n m (tkp b n m p)))) ∧ 1 = 0 ∧ (σ27 2 9) = 5 ∧ (σ27 2 10) = tka b n m (tkp b n m (tkp b n m (tkp b n m p)))) ∨ (tkc b n m (tkp b n m p) = 300 ∧ ¬ fnd nmR (σ 5 1).toNat (tkw b n m (tkp b n m p)) = -1 ∧ tkc b n m (tkp b n m (tkp b n m p)) = 301 ∧ (tkv b n m (tkp b n m (tkp b n m p))) ≤ σ 5 0 - 1 ∧ σ 7 (13 * fnd nmR (σ 5 1).toNat (tkw b n m (tkp b n m p)) + tkv b n m (tkp b n m (tkp b n m p))).toNat ≤ 0 ∧ tkc b n m (tkp b n m (tkp b n m (tkp b n m p))) = 301 ∧ (1 ≤ (tkv b n m (tkp b n m (tkp b n m (tkp b n m p)))) ∧ (tkv b n m (tkp b n m (tkp b n m (tkp b n m p)))) ≤ 4) ∧ σ 1 (tkv b n m (tkp b n m (tkp b n m p))).toNat + (tkv b n m (tkp b n m (tkp b n m (tkp b n m p)))) ≤ 4 ∧ 1 = 1) from by (refine (Or.inr (Or.inr (Or.inr (Or.inr (Or.inr (Or.inr (Or.inr (Or.inr ?_)))))))); and_intros <;> omega)), fun _ => ⟨⟨⟨hb, hs, hm, hw⟩, ⟨tk5, tk7, tk8, tk6, tk4⟩, hr9⟩, hG, hH, hI, hJ⟩⟩
          · refine xMVf (sh := shT) (ci := 6) (τ := [2, 3, 4]) (E := xT kX6_fail) (t := 2) (r := [xvi 5]) (σ := σ15) rfl rfl (fun Q28 hQ28 => sX6_failF (σ := xsel [2, 3, 4] σ15) (kind := 5) (show σ15 2 9 = 0 from by omega) (fun r28 ς28 f28 p28 => hQ28 _ _ ?_))
            have hb : (xbk [2, 3, 4] σ15 ς28) 4 = b := (f28.1 2 (by decide) (by decide)).trans hb
            have hw : WDS ((xbk [2, 3, 4] σ15 ς28) 3) := by
              have e9 : (xbk [2, 3, 4] σ15 ς28) 3 = σ15 3 := f28.1 1 (by decide) (by decide)
              rw [e9]; exact hw
            have hs : (xbk [2, 3, 4] σ15 ς28) 2 2 = n := (f28.2 2 (by decide)).trans (show σ15 2 2 = n from by omega)
            have hm : (xbk [2, 3, 4] σ15 ς28) 2 3 = m := (f28.2 3 (by decide)).trans (show σ15 2 3 = m from by omega)
            replace p28 : r28 = 0 ∧ (xbk [2, 3, 4] σ15 ς28) 2 9 = 5 ∧ (xbk [2, 3, 4] σ15 ς28) 2 10 = tka b n m (tkp b n m (tkp b n m (tkp b n m p))) := ⟨p28.1, p28.2.1, p28.2.2.trans (show σ15 2 6 = _ from by omega)⟩
            have u4 : (xbk [2, 3, 4] σ15 ς28) 2 4 = σ15 2 4 := f28.2 4 (by decide)
            have u5 : (xbk [2, 3, 4] σ15 ς28) 2 5 = σ15 2 5 := f28.2 5 (by decide)
            have u6 : (xbk [2, 3, 4] σ15 ς28) 2 6 = σ15 2 6 := f28.2 6 (by decide)
            have u7 : (xbk [2, 3, 4] σ15 ς28) 2 7 = σ15 2 7 := f28.2 7 (by decide)
            have u8 : (xbk [2, 3, 4] σ15 ς28) 2 8 = σ15 2 8 := f28.2 8 (by decide)
            have uq28 : (xbk [2, 3, 4] σ15 ς28) 2 4 = σ15 2 4 := u4
            have tk5 := u5.trans tk5; replace tk6 := u6.trans tk6; replace tk4 := u4.trans tk4
            replace tk7 : tkc b n m (tkp b n m (tkp b n m (tkp b n m p))) = 301 → (xbk [2, 3, 4] σ15 ς28) 2 7 = tkv b n m (tkp b n m (tkp b n m (tkp b n m p))) ∧ 0 ≤ tkv b n m (tkp b n m (tkp b n m (tkp b n m p))) ∧ tkv b n m (tkp b n m (tkp b n m (tkp b n m p))) < 1000 := by rw [u7]; exact tk7
            replace tk8 : tkc b n m (tkp b n m (tkp b n m (tkp b n m p))) = 300 → WP ((xbk [2, 3, 4] σ15 ς28) 2 8) (tkw b n m (tkp b n m (tkp b n m (tkp b n m p)))) := by rw [u8]; exact tk8
            clear u4 u5 u6 u7 u8
            replace f28 : Fr [2] [] σ15 (xbk [2, 3, 4] σ15 ς28) := f28.bk (by decide) (by decide)
            generalize xbk [2, 3, 4] σ15 ς28 = σ28 at f28 hb hw hs hm tk5 tk7 tk8 tk6 tk4 p28 uq28 ⊢
            have hF := hF.tr f28 (by decide) (by decide)
            have hT := hT.fr f28 (by decide) (by decide) (by decide) (by decide)
            replace hG := (f28.1 5 (by decide) (by decide)).trans hG
            replace hH := (f28.1 6 (by decide) (by decide)).trans hH
            replace hI := (f28.1 1 (by decide) (by decide)).trans hI
            replace hJ := (f28.1 7 (by decide) (by decide)).trans hJ
            refine And.intro rfl ?_
            refine And.intro (by omega) ?_
            exact hQ _ _ hF ⟨hT, (show 0 ≤ σ28 2 4 ∧ σ28 2 4 ≤ σ28 2 2 ∧ σ28 2 2 ≤ 940 from by omega), by omega, (show (¬ tkc b n m (tkp b n m p) = 300 ∧ r28 = 0 ∧ (σ28 2 9) = 1 ∧ (σ28 2 10) = tka b n m (tkp b n m p)) ∨ (tkc b n m (tkp b n m p) = 300 ∧ fnd nmR (σ 5 1).toNat (tkw b n m (tkp b n m p)) = -1 ∧ r28 = 0 ∧ (σ28 2 9) = 3 ∧ (σ28 2 10) = tka b n m (tkp b n m p)) ∨ (tkc b n m (tkp b n m p) = 300 ∧ ¬ fnd nmR (σ 5 1).toNat (tkw b n m (tkp b n m p)) = -1 ∧ ¬ tkc b n m (tkp b n m (tkp b n m p)) = 301 ∧ r28 = 0 ∧ (σ28 2 9) = 1 ∧ (σ28 2 10) = tka b n m (tkp b n m (tkp b n m p))) ∨ (tkc b n m (tkp b n m p) = 300 ∧ ¬ fnd nmR (σ 5 1).toNat (tkw b n m (tkp b n m p)) = -1 ∧ tkc b n m (tkp b n m (tkp b n m p)) = 301 ∧ ¬ (tkv b n m (tkp b n m (tkp b n m p))) ≤ σ 5 0 - 1 ∧ r28 = 0 ∧ (σ28 2 9) = 2 ∧ (σ28 2 10) = tka b n m (tkp b n m (tkp b n m p))) ∨ (tkc b n m (tkp b n m p) = 300 ∧ ¬ fnd nmR (σ 5 1).toNat (tkw b n m (tkp b n m p)) = -1 ∧ tkc b n m (tkp b n m (tkp b n m p)) = 301 ∧ (tkv b n m (tkp b n m (tkp b n m p))) ≤ σ 5 0 - 1 ∧ 0 < σ 7 (13 * fnd nmR (σ 5 1).toNat (tkw b n m (tkp b n m p)) + tkv b n m (tkp b n m (tkp b n m p))).toNat ∧ r28 = 0 ∧ (σ28 2 9) = 3 ∧ (σ28 2 10) = tka b n m (tkp b n m (tkp b n m p))) ∨ (tkc b n m (tkp b n m p) = 300 ∧ ¬ fnd nmR (σ 5 1).toNat (tkw b n m (tkp b n m p)) = -1 ∧ tkc b n m (tkp b n m (tkp b n m p)) = 301 ∧ (tkv b n m (tkp b n m (tkp b n m p))) ≤ σ 5 0 - 1 ∧ σ 7 (13 * fnd nmR (σ 5 1).toNat (tkw b n m (tkp b n m p)) + tkv b n m (tkp b n m (tkp b n m p))).toNat ≤ 0 ∧ ¬ tkc b n m (tkp b n m (tkp b n m (tkp b n m p))) = 301 ∧ r28 = 0 ∧ (σ28 2 9) = 1 ∧ (σ28 2 10) = tka b n m (tkp b n m (tkp b n m (tkp b n m p)))) ∨ (tkc b n m (tkp b n m p) = 300 ∧ ¬ fnd nmR (σ 5 1).toNat (tkw b n m (tkp b n m p)) = -1 ∧ tkc b n m (tkp b n m (tkp b n m p)) = 301 ∧ (tkv b n m (tkp b n m (tkp b n m p))) ≤ σ 5 0 - 1 ∧ σ 7 (13 * fnd nmR (σ 5 1).toNat (tkw b n m (tkp b n m p)) + tkv b n m (tkp b n m (tkp b n m p))).toNat ≤ 0 ∧ tkc b n m (tkp b n m (tkp b n m (tkp b n m p))) = 301 ∧ ¬ (1 ≤ (tkv b n m (tkp b n m (tkp b n m (tkp b n m p)))) ∧ (tkv b n m (tkp b n m (tkp b n m (tkp b n m p)))) ≤ 4) ∧ r28 = 0 ∧ (σ28 2 9) = 2 ∧ (σ28 2 10) = tka b n m (tkp b n m (tkp b n m (tkp b n m p)))) ∨ (tkc b n m (tkp b n m p) = 300 ∧ ¬ fnd nmR (σ 5 1).toNat (tkw b n m (tkp b n m p)) = -1 ∧ tkc b n m (tkp b n m (tkp b n m p)) = 301 ∧ (tkv b n m (tkp b n m (tkp b n m p))) ≤ σ 5 0 - 1 ∧ σ 7 (13 * fnd nmR (σ 5 1).toNat (tkw b n m (tkp b n m p)) + tkv b n m (tkp b n m (tkp b n m p))).toNat ≤ 0 ∧ tkc b n m (tkp b n m (tkp b n m (tkp b n m p))) = 301 ∧ (1 ≤ (tkv b n m (tkp b n m (tkp b n m (tkp b n m p)))) ∧ (tkv b n m (tkp b n m (tkp b n m (tkp b n m p)))) ≤ 4) ∧ 4 < σ 1 (tkv b n m (tkp b n m (tkp b n m p))).toNat + (tkv b n m (tkp b n m (tkp b n m (tkp b n m p)))) ∧ r28 = 0 ∧ (σ28 2 9) = 5 ∧ (σ28 2 10) = tka b n m (tkp b n m (tkp b n m (tkp b n m p)))) ∨ (tkc b n m (tkp b n m p) = 300 ∧ ¬ fnd nmR (σ 5 1).toNat (tkw b n m (tkp b n m p)) = -1 ∧ tkc b n m (tkp b n m (tkp b n m p)) = 301 ∧ (tkv b n m (tkp b n m (tkp b n m p))) ≤ σ 5 0 - 1 ∧ σ 7 (13 * fnd nmR (σ 5 1).toNat (tkw b n m (tkp b n m p)) + tkv b n m (tkp b n m (tkp b n m p))).toNat ≤ 0 ∧ tkc b n m (tkp b n m (tkp b n m (tkp b n m p))) = 301 ∧ (1 ≤ (tkv b n m (tkp b n m (tkp b n m (tkp b n m p)))) ∧ (tkv b n m (tkp b n m (tkp b n m (tkp b n m p)))) ≤ 4) ∧ σ 1 (tkv b n m (tkp b n m (tkp b n m p))).toNat + (tkv b n m (tkp b n m (tkp b n m (tkp b n m p)))) ≤ 4 ∧ r28 = 1) from by (refine (Or.inr (Or.inr (Or.inr (Or.inr (Or.inr (Or.inr (Or.inr (Or.inl ?_)))))))); and_intros <;> omega)), fun hr => absurd hr (by omega)⟩
        · refine And.intro rfl ?_
          refine And.intro (by omega) ?_
          exact hQ _ _ hF ⟨hT, (show 0 ≤ σ15 2 4 ∧ σ15 2 4 ≤ σ15 2 2 ∧ σ15 2 2 ≤ 940 from by omega), by omega, (show (¬ tkc b n m (tkp b n m p) = 300 ∧ 0 = 0 ∧ (σ15 2 9) = 1 ∧ (σ15 2 10) = tka b n m (tkp b n m p)) ∨ (tkc b n m (tkp b n m p) = 300 ∧ fnd nmR (σ 5 1).toNat (tkw b n m (tkp b n m p)) = -1 ∧ 0 = 0 ∧ (σ15 2 9) = 3 ∧ (σ15 2 10) = tka b n m (tkp b n m p)) ∨ (tkc b n m (tkp b n m p) = 300 ∧ ¬ fnd nmR (σ 5 1).toNat (tkw b n m (tkp b n m p)) = -1 ∧ ¬ tkc b n m (tkp b n m (tkp b n m p)) = 301 ∧ 0 = 0 ∧ (σ15 2 9) = 1 ∧ (σ15 2 10) = tka b n m (tkp b n m (tkp b n m p))) ∨ (tkc b n m (tkp b n m p) = 300 ∧ ¬ fnd nmR (σ 5 1).toNat (tkw b n m (tkp b n m p)) = -1 ∧ tkc b n m (tkp b n m (tkp b n m p)) = 301 ∧ ¬ (tkv b n m (tkp b n m (tkp b n m p))) ≤ σ 5 0 - 1 ∧ 0 = 0 ∧ (σ15 2 9) = 2 ∧ (σ15 2 10) = tka b n m (tkp b n m (tkp b n m p))) ∨ (tkc b n m (tkp b n m p) = 300 ∧ ¬ fnd nmR (σ 5 1).toNat (tkw b n m (tkp b n m p)) = -1 ∧ tkc b n m (tkp b n m (tkp b n m p)) = 301 ∧ (tkv b n m (tkp b n m (tkp b n m p))) ≤ σ 5 0 - 1 ∧ 0 < σ 7 (13 * fnd nmR (σ 5 1).toNat (tkw b n m (tkp b n m p)) + tkv b n m (tkp b n m (tkp b n m p))).toNat ∧ 0 = 0 ∧ (σ15 2 9) = 3 ∧ (σ15 2 10) = tka b n m (tkp b n m (tkp b n m p))) ∨ (tkc b n m (tkp b n m p) = 300 ∧ ¬ fnd nmR (σ 5 1).toNat (tkw b n m (tkp b n m p)) = -1 ∧ tkc b n m (tkp b n m (tkp b n m p)) = 301 ∧ (tkv b n m (tkp b n m (tkp b n m p))) ≤ σ 5 0 - 1 ∧ σ 7 (13 * fnd nmR (σ 5 1).toNat (tkw b n m (tkp b n m p)) + tkv b n m (tkp b n m (tkp b n m p))).toNat ≤ 0 ∧ ¬ tkc b n m (tkp b n m (tkp b n m (tkp b n m p))) = 301 ∧ 0 = 0 ∧ (σ15 2 9) = 1 ∧ (σ15 2 10) = tka b n m (tkp b n m (tkp b n m (tkp b n m p)))) ∨ (tkc b n m (tkp b n m p) = 300 ∧ ¬ fnd nmR (σ 5 1).toNat (tkw b n m (tkp b n m p)) = -1 ∧ tkc b n m (tkp b n m (tkp b n m p)) = 301 ∧ (tkv b n m (tkp b n m (tkp b n m p))) ≤ σ 5 0 - 1 ∧ σ 7 (13 * fnd nmR (σ 5 1).toNat (tkw b n m (tkp b n m p)) + tkv b n m (tkp b n m (tkp b n m p))).toNat ≤ 0 ∧ tkc b n m (tkp b n m (tkp b n m (tkp b n m p))) = 301 ∧ ¬ (1 ≤ (tkv b n m (tkp b n m (tkp b n m (tkp b n m p)))) ∧ (tkv b n m (tkp b n m (tkp b n m (tkp b n m p)))) ≤ 4) ∧ 0 = 0 ∧ (σ15 2 9) = 2 ∧ (σ15 2 10) = tka b n m (tkp b n m (tkp b n m (tkp b n m p)))) ∨ (tkc b n m (tkp b n m p) = 300 ∧ ¬ fnd nmR (σ 5 1).toNat (tkw b n m (tkp b n m p)) = -1 ∧ tkc b n m (tkp b n m (tkp b n m p)) = 301 ∧ (tkv b n m (tkp b n m (tkp b n m p))) ≤ σ 5 0 - 1 ∧ σ 7 (13 * fnd nmR (σ 5 1).toNat (tkw b n m (tkp b n m p)) + tkv b n m (tkp b n m (tkp b n m p))).toNat ≤ 0 ∧ tkc b n m (tkp b n m (tkp b n m (tkp b n m p))) = 301 ∧ (1 ≤ (tkv b n m (tkp b n m (tkp b n m (tkp b n m p)))) ∧ (tkv b n m (tkp b n m (tkp b n m (tkp b n m p)))) ≤ 4) ∧ 4 < σ 1 (tkv b n m (tkp b n m (tkp b n m p))).toNat + (tkv b n m (tkp b n m (tkp b n m (tkp b n m p)))) ∧ 0 = 0 ∧ (σ15 2 9) = 5 ∧ (σ15 2 10) = tka b n m (tkp b n m (tkp b n m (tkp b n m p)))) ∨ (tkc b n m (tkp b n m p) = 300 ∧ ¬ fnd nmR (σ 5 1).toNat (tkw b n m (tkp b n m p)) = -1 ∧ tkc b n m (tkp b n m (tkp b n m p)) = 301 ∧ (tkv b n m (tkp b n m (tkp b n m p))) ≤ σ 5 0 - 1 ∧ σ 7 (13 * fnd nmR (σ 5 1).toNat (tkw b n m (tkp b n m p)) + tkv b n m (tkp b n m (tkp b n m p))).toNat ≤ 0 ∧ tkc b n m (tkp b n m (tkp b n m (tkp b n m p))) = 301 ∧ (1 ≤ (tkv b n m (tkp b n m (tkp b n m (tkp b n m p)))) ∧ (tkv b n m (tkp b n m (tkp b n m (tkp b n m p)))) ≤ 4) ∧ σ 1 (tkv b n m (tkp b n m (tkp b n m p))).toNat + (tkv b n m (tkp b n m (tkp b n m (tkp b n m p)))) ≤ 4 ∧ 0 = 1) from by (rcases p15 with q9 | q9 | q9 <;> (first | (exfalso; omega) | (refine (Or.inr (Or.inr (Or.inr (Or.inr (Or.inr (Or.inl ?_)))))); and_intros <;> omega) | (refine (Or.inr (Or.inr (Or.inr (Or.inr (Or.inr (Or.inr (Or.inl ?_))))))); and_intros <;> omega)))), fun hr => absurd hr (by omega)⟩
      · refine xMVf (sh := shT) (ci := 6) (τ := [2, 3, 4]) (E := xT kX6_fail) (t := 2) (r := [xvi 3]) (σ := σ9) rfl rfl (fun Q29 hQ29 => sX6_failF (σ := xsel [2, 3, 4] σ9) (kind := 3) (show σ9 2 9 = 0 from by omega) (fun r29 ς29 f29 p29 => hQ29 _ _ ?_))
        have hb : (xbk [2, 3, 4] σ9 ς29) 4 = b := (f29.1 2 (by decide) (by decide)).trans hb
        have hw : WDS ((xbk [2, 3, 4] σ9 ς29) 3) := by
          have e9 : (xbk [2, 3, 4] σ9 ς29) 3 = σ9 3 := f29.1 1 (by decide) (by decide)
          rw [e9]; exact hw
        have hs : (xbk [2, 3, 4] σ9 ς29) 2 2 = n := (f29.2 2 (by decide)).trans (show σ9 2 2 = n from by omega)
        have hm : (xbk [2, 3, 4] σ9 ς29) 2 3 = m := (f29.2 3 (by decide)).trans (show σ9 2 3 = m from by omega)
        replace p29 : r29 = 0 ∧ (xbk [2, 3, 4] σ9 ς29) 2 9 = 3 ∧ (xbk [2, 3, 4] σ9 ς29) 2 10 = tka b n m (tkp b n m (tkp b n m p)) := ⟨p29.1, p29.2.1, p29.2.2.trans (show σ9 2 6 = _ from by omega)⟩
        have u4 : (xbk [2, 3, 4] σ9 ς29) 2 4 = σ9 2 4 := f29.2 4 (by decide)
        have u5 : (xbk [2, 3, 4] σ9 ς29) 2 5 = σ9 2 5 := f29.2 5 (by decide)
        have u6 : (xbk [2, 3, 4] σ9 ς29) 2 6 = σ9 2 6 := f29.2 6 (by decide)
        have u7 : (xbk [2, 3, 4] σ9 ς29) 2 7 = σ9 2 7 := f29.2 7 (by decide)
        have u8 : (xbk [2, 3, 4] σ9 ς29) 2 8 = σ9 2 8 := f29.2 8 (by decide)
        have uq29 : (xbk [2, 3, 4] σ9 ς29) 2 4 = σ9 2 4 := u4
        have tk5 := u5.trans tk5; replace tk6 := u6.trans tk6; replace tk4 := u4.trans tk4
        replace tk7 : tkc b n m (tkp b n m (tkp b n m p)) = 301 → (xbk [2, 3, 4] σ9 ς29) 2 7 = tkv b n m (tkp b n m (tkp b n m p)) ∧ 0 ≤ tkv b n m (tkp b n m (tkp b n m p)) ∧ tkv b n m (tkp b n m (tkp b n m p)) < 1000 := by rw [u7]; exact tk7
        replace tk8 : tkc b n m (tkp b n m (tkp b n m p)) = 300 → WP ((xbk [2, 3, 4] σ9 ς29) 2 8) (tkw b n m (tkp b n m (tkp b n m p))) := by rw [u8]; exact tk8
        clear u4 u5 u6 u7 u8
        replace f29 : Fr [2] [] σ9 (xbk [2, 3, 4] σ9 ς29) := f29.bk (by decide) (by decide)
        generalize xbk [2, 3, 4] σ9 ς29 = σ29 at f29 hb hw hs hm tk5 tk7 tk8 tk6 tk4 p29 uq29 ⊢
        have hF := hF.tr f29 (by decide) (by decide)
        have hT := hT.fr f29 (by decide) (by decide) (by decide) (by decide)
        replace hG := (f29.1 5 (by decide) (by decide)).trans hG
        replace hH := (f29.1 6 (by decide) (by decide)).trans hH
        replace hI := (f29.1 1 (by decide) (by decide)).trans hI
        replace hJ := (f29.1 7 (by decide) (by decide)).trans hJ
        refine And.intro rfl ?_
        refine And.intro (by omega) ?_
        exact hQ _ _ hF ⟨hT, (show 0 ≤ σ29 2 4 ∧ σ29 2 4 ≤ σ29 2 2 ∧ σ29 2 2 ≤ 940 from by omega), by omega, (show (¬ tkc b n m (tkp b n m p) = 300 ∧ r29 = 0 ∧ (σ29 2 9) = 1 ∧ (σ29 2 10) = tka b n m (tkp b n m p)) ∨ (tkc b n m (tkp b n m p) = 300 ∧ fnd nmR (σ 5 1).toNat (tkw b n m (tkp b n m p)) = -1 ∧ r29 = 0 ∧ (σ29 2 9) = 3 ∧ (σ29 2 10) = tka b n m (tkp b n m p)) ∨ (tkc b n m (tkp b n m p) = 300 ∧ ¬ fnd nmR (σ 5 1).toNat (tkw b n m (tkp b n m p)) = -1 ∧ ¬ tkc b n m (tkp b n m (tkp b n m p)) = 301 ∧ r29 = 0 ∧ (σ29 2 9) = 1 ∧ (σ29 2 10) = tka b n m (tkp b n m (tkp b n m p))) ∨ (tkc b n m (tkp b n m p) = 300 ∧ ¬ fnd nmR (σ 5 1).toNat (tkw b n m (tkp b n m p)) = -1 ∧ tkc b n m (tkp b n m (tkp b n m p)) = 301 ∧ ¬ (tkv b n m (tkp b n m (tkp b n m p))) ≤ σ 5 0 - 1 ∧ r29 = 0 ∧ (σ29 2 9) = 2 ∧ (σ29 2 10) = tka b n m (tkp b n m (tkp b n m p))) ∨ (tkc b n m (tkp b n m p) = 300 ∧ ¬ fnd nmR (σ 5 1).toNat (tkw b n m (tkp b n m p)) = -1 ∧ tkc b n m (tkp b n m (tkp b n m p)) = 301 ∧ (tkv b n m (tkp b n m (tkp b n m p))) ≤ σ 5 0 - 1 ∧ 0 < σ 7 (13 * fnd nmR (σ 5 1).toNat (tkw b n m (tkp b n m p)) + tkv b n m (tkp b n m (tkp b n m p))).toNat ∧ r29 = 0 ∧ (σ29 2 9) = 3 ∧ (σ29 2 10) = tka b n m (tkp b n m (tkp b n m p))) ∨ (tkc b n m (tkp b n m p) = 300 ∧ ¬ fnd nmR (σ 5 1).toNat (tkw b n m (tkp b n m p)) = -1 ∧ tkc b n m (tkp b n m (tkp b n m p)) = 301 ∧ (tkv b n m (tkp b n m (tkp b n m p))) ≤ σ 5 0 - 1 ∧ σ 7 (13 * fnd nmR (σ 5 1).toNat (tkw b n m (tkp b n m p)) + tkv b n m (tkp b n m (tkp b n m p))).toNat ≤ 0 ∧ ¬ tkc b n m (tkp b n m (tkp b n m (tkp b n m p))) = 301 ∧ r29 = 0 ∧ (σ29 2 9) = 1 ∧ (σ29 2 10) = tka b n m (tkp b n m (tkp b n m (tkp b n m p)))) ∨ (tkc b n m (tkp b n m p) = 300 ∧ ¬ fnd nmR (σ 5 1).toNat (tkw b n m (tkp b n m p)) = -1 ∧ tkc b n m (tkp b n m (tkp b n m p)) = 301 ∧ (tkv b n m (tkp b n m (tkp b n m p))) ≤ σ 5 0 - 1 ∧ σ 7 (13 * fnd nmR (σ 5 1).toNat (tkw b n m (tkp b n m p)) + tkv b n m (tkp b n m (tkp b n m p))).toNat ≤ 0 ∧ tkc b n m (tkp b n m (tkp b n m (tkp b n m p))) = 301 ∧ ¬ (1 ≤ (tkv b n m (tkp b n m (tkp b n m (tkp b n m p)))) ∧ (tkv b n m (tkp b n m (tkp b n m (tkp b n m p)))) ≤ 4) ∧ r29 = 0 ∧ (σ29 2 9) = 2 ∧ (σ29 2 10) = tka b n m (tkp b n m (tkp b n m (tkp b n m p)))) ∨ (tkc b n m (tkp b n m p) = 300 ∧ ¬ fnd nmR (σ 5 1).toNat (tkw b n m (tkp b n m p)) = -1 ∧ tkc b n m (tkp b n m (tkp b n m p)) = 301 ∧ (tkv b n m (tkp b n m (tkp b n m p))) ≤ σ 5 0 - 1 ∧ σ 7 (13 * fnd nmR (σ 5 1).toNat (tkw b n m (tkp b n m p)) + tkv b n m (tkp b n m (tkp b n m p))).toNat ≤ 0 ∧ tkc b n m (tkp b n m (tkp b n m (tkp b n m p))) = 301 ∧ (1 ≤ (tkv b n m (tkp b n m (tkp b n m (tkp b n m p)))) ∧ (tkv b n m (tkp b n m (tkp b n m (tkp b n m p)))) ≤ 4) ∧ 4 < σ 1 (tkv b n m (tkp b n m (tkp b n m p))).toNat + (tkv b n m (tkp b n m (tkp b n m (tkp b n m p)))) ∧ r29 = 0 ∧ (σ29 2 9) = 5 ∧ (σ29 2 10) = tka b n m (tkp b n m (tkp b n m (tkp b n m p)))) ∨ (tkc b n m (tkp b n m p) = 300 ∧ ¬ fnd nmR (σ 5 1).toNat (tkw b n m (tkp b n m p)) = -1 ∧ tkc b n m (tkp b n m (tkp b n m p)) = 301 ∧ (tkv b n m (tkp b n m (tkp b n m p))) ≤ σ 5 0 - 1 ∧ σ 7 (13 * fnd nmR (σ 5 1).toNat (tkw b n m (tkp b n m p)) + tkv b n m (tkp b n m (tkp b n m p))).toNat ≤ 0 ∧ tkc b n m (tkp b n m (tkp b n m (tkp b n m p))) = 301 ∧ (1 ≤ (tkv b n m (tkp b n m (tkp b n m (tkp b n m p)))) ∧ (tkv b n m (tkp b n m (tkp b n m (tkp b n m p)))) ≤ 4) ∧ σ 1 (tkv b n m (tkp b n m (tkp b n m p))).toNat + (tkv b n m (tkp b n m (tkp b n m (tkp b n m p)))) ≤ 4 ∧ r29 = 1) from by (refine (Or.inr (Or.inr (Or.inr (Or.inr (Or.inl ?_))))); and_intros <;> omega)), fun hr => absurd hr (by omega)⟩
    · refine And.intro rfl ?_
      refine And.intro (by omega) ?_
      exact hQ _ _ hF ⟨hT, (show 0 ≤ σ9 2 4 ∧ σ9 2 4 ≤ σ9 2 2 ∧ σ9 2 2 ≤ 940 from by omega), by omega, (show (¬ tkc b n m (tkp b n m p) = 300 ∧ 0 = 0 ∧ (σ9 2 9) = 1 ∧ (σ9 2 10) = tka b n m (tkp b n m p)) ∨ (tkc b n m (tkp b n m p) = 300 ∧ fnd nmR (σ 5 1).toNat (tkw b n m (tkp b n m p)) = -1 ∧ 0 = 0 ∧ (σ9 2 9) = 3 ∧ (σ9 2 10) = tka b n m (tkp b n m p)) ∨ (tkc b n m (tkp b n m p) = 300 ∧ ¬ fnd nmR (σ 5 1).toNat (tkw b n m (tkp b n m p)) = -1 ∧ ¬ tkc b n m (tkp b n m (tkp b n m p)) = 301 ∧ 0 = 0 ∧ (σ9 2 9) = 1 ∧ (σ9 2 10) = tka b n m (tkp b n m (tkp b n m p))) ∨ (tkc b n m (tkp b n m p) = 300 ∧ ¬ fnd nmR (σ 5 1).toNat (tkw b n m (tkp b n m p)) = -1 ∧ tkc b n m (tkp b n m (tkp b n m p)) = 301 ∧ ¬ (tkv b n m (tkp b n m (tkp b n m p))) ≤ σ 5 0 - 1 ∧ 0 = 0 ∧ (σ9 2 9) = 2 ∧ (σ9 2 10) = tka b n m (tkp b n m (tkp b n m p))) ∨ (tkc b n m (tkp b n m p) = 300 ∧ ¬ fnd nmR (σ 5 1).toNat (tkw b n m (tkp b n m p)) = -1 ∧ tkc b n m (tkp b n m (tkp b n m p)) = 301 ∧ (tkv b n m (tkp b n m (tkp b n m p))) ≤ σ 5 0 - 1 ∧ 0 < σ 7 (13 * fnd nmR (σ 5 1).toNat (tkw b n m (tkp b n m p)) + tkv b n m (tkp b n m (tkp b n m p))).toNat ∧ 0 = 0 ∧ (σ9 2 9) = 3 ∧ (σ9 2 10) = tka b n m (tkp b n m (tkp b n m p))) ∨ (tkc b n m (tkp b n m p) = 300 ∧ ¬ fnd nmR (σ 5 1).toNat (tkw b n m (tkp b n m p)) = -1 ∧ tkc b n m (tkp b n m (tkp b n m p)) = 301 ∧ (tkv b n m (tkp b n m (tkp b n m p))) ≤ σ 5 0 - 1 ∧ σ 7 (13 * fnd nmR (σ 5 1).toNat (tkw b n m (tkp b n m p)) + tkv b n m (tkp b n m (tkp b n m p))).toNat ≤ 0 ∧ ¬ tkc b n m (tkp b n m (tkp b n m (tkp b n m p))) = 301 ∧ 0 = 0 ∧ (σ9 2 9) = 1 ∧ (σ9 2 10) = tka b n m (tkp b n m (tkp b n m (tkp b n m p)))) ∨ (tkc b n m (tkp b n m p) = 300 ∧ ¬ fnd nmR (σ 5 1).toNat (tkw b n m (tkp b n m p)) = -1 ∧ tkc b n m (tkp b n m (tkp b n m p)) = 301 ∧ (tkv b n m (tkp b n m (tkp b n m p))) ≤ σ 5 0 - 1 ∧ σ 7 (13 * fnd nmR (σ 5 1).toNat (tkw b n m (tkp b n m p)) + tkv b n m (tkp b n m (tkp b n m p))).toNat ≤ 0 ∧ tkc b n m (tkp b n m (tkp b n m (tkp b n m p))) = 301 ∧ ¬ (1 ≤ (tkv b n m (tkp b n m (tkp b n m (tkp b n m p)))) ∧ (tkv b n m (tkp b n m (tkp b n m (tkp b n m p)))) ≤ 4) ∧ 0 = 0 ∧ (σ9 2 9) = 2 ∧ (σ9 2 10) = tka b n m (tkp b n m (tkp b n m (tkp b n m p)))) ∨ (tkc b n m (tkp b n m p) = 300 ∧ ¬ fnd nmR (σ 5 1).toNat (tkw b n m (tkp b n m p)) = -1 ∧ tkc b n m (tkp b n m (tkp b n m p)) = 301 ∧ (tkv b n m (tkp b n m (tkp b n m p))) ≤ σ 5 0 - 1 ∧ σ 7 (13 * fnd nmR (σ 5 1).toNat (tkw b n m (tkp b n m p)) + tkv b n m (tkp b n m (tkp b n m p))).toNat ≤ 0 ∧ tkc b n m (tkp b n m (tkp b n m (tkp b n m p))) = 301 ∧ (1 ≤ (tkv b n m (tkp b n m (tkp b n m (tkp b n m p)))) ∧ (tkv b n m (tkp b n m (tkp b n m (tkp b n m p)))) ≤ 4) ∧ 4 < σ 1 (tkv b n m (tkp b n m (tkp b n m p))).toNat + (tkv b n m (tkp b n m (tkp b n m (tkp b n m p)))) ∧ 0 = 0 ∧ (σ9 2 9) = 5 ∧ (σ9 2 10) = tka b n m (tkp b n m (tkp b n m (tkp b n m p)))) ∨ (tkc b n m (tkp b n m p) = 300 ∧ ¬ fnd nmR (σ 5 1).toNat (tkw b n m (tkp b n m p)) = -1 ∧ tkc b n m (tkp b n m (tkp b n m p)) = 301 ∧ (tkv b n m (tkp b n m (tkp b n m p))) ≤ σ 5 0 - 1 ∧ σ 7 (13 * fnd nmR (σ 5 1).toNat (tkw b n m (tkp b n m p)) + tkv b n m (tkp b n m (tkp b n m p))).toNat ≤ 0 ∧ tkc b n m (tkp b n m (tkp b n m (tkp b n m p))) = 301 ∧ (1 ≤ (tkv b n m (tkp b n m (tkp b n m (tkp b n m p)))) ∧ (tkv b n m (tkp b n m (tkp b n m (tkp b n m p)))) ≤ 4) ∧ σ 1 (tkv b n m (tkp b n m (tkp b n m p))).toNat + (tkv b n m (tkp b n m (tkp b n m (tkp b n m p)))) ≤ 4 ∧ 0 = 1) from by (rcases p9 with q9 | q9 | q9 <;> (first | (exfalso; omega) | (refine (Or.inr (Or.inr (Or.inl ?_))); and_intros <;> omega) | (refine (Or.inr (Or.inr (Or.inr (Or.inl ?_)))); and_intros <;> omega)))), fun hr => absurd hr (by omega)⟩
  · refine And.intro rfl ?_
    refine And.intro (by omega) ?_
    exact hQ _ _ hF ⟨hT, (show 0 ≤ σ2 2 4 ∧ σ2 2 4 ≤ σ2 2 2 ∧ σ2 2 2 ≤ 940 from by omega), by omega, (show (¬ tkc b n m (tkp b n m p) = 300 ∧ 0 = 0 ∧ (σ2 2 9) = 1 ∧ (σ2 2 10) = tka b n m (tkp b n m p)) ∨ (tkc b n m (tkp b n m p) = 300 ∧ fnd nmR (σ 5 1).toNat (tkw b n m (tkp b n m p)) = -1 ∧ 0 = 0 ∧ (σ2 2 9) = 3 ∧ (σ2 2 10) = tka b n m (tkp b n m p)) ∨ (tkc b n m (tkp b n m p) = 300 ∧ ¬ fnd nmR (σ 5 1).toNat (tkw b n m (tkp b n m p)) = -1 ∧ ¬ tkc b n m (tkp b n m (tkp b n m p)) = 301 ∧ 0 = 0 ∧ (σ2 2 9) = 1 ∧ (σ2 2 10) = tka b n m (tkp b n m (tkp b n m p))) ∨ (tkc b n m (tkp b n m p) = 300 ∧ ¬ fnd nmR (σ 5 1).toNat (tkw b n m (tkp b n m p)) = -1 ∧ tkc b n m (tkp b n m (tkp b n m p)) = 301 ∧ ¬ (tkv b n m (tkp b n m (tkp b n m p))) ≤ σ 5 0 - 1 ∧ 0 = 0 ∧ (σ2 2 9) = 2 ∧ (σ2 2 10) = tka b n m (tkp b n m (tkp b n m p))) ∨ (tkc b n m (tkp b n m p) = 300 ∧ ¬ fnd nmR (σ 5 1).toNat (tkw b n m (tkp b n m p)) = -1 ∧ tkc b n m (tkp b n m (tkp b n m p)) = 301 ∧ (tkv b n m (tkp b n m (tkp b n m p))) ≤ σ 5 0 - 1 ∧ 0 < σ 7 (13 * fnd nmR (σ 5 1).toNat (tkw b n m (tkp b n m p)) + tkv b n m (tkp b n m (tkp b n m p))).toNat ∧ 0 = 0 ∧ (σ2 2 9) = 3 ∧ (σ2 2 10) = tka b n m (tkp b n m (tkp b n m p))) ∨ (tkc b n m (tkp b n m p) = 300 ∧ ¬ fnd nmR (σ 5 1).toNat (tkw b n m (tkp b n m p)) = -1 ∧ tkc b n m (tkp b n m (tkp b n m p)) = 301 ∧ (tkv b n m (tkp b n m (tkp b n m p))) ≤ σ 5 0 - 1 ∧ σ 7 (13 * fnd nmR (σ 5 1).toNat (tkw b n m (tkp b n m p)) + tkv b n m (tkp b n m (tkp b n m p))).toNat ≤ 0 ∧ ¬ tkc b n m (tkp b n m (tkp b n m (tkp b n m p))) = 301 ∧ 0 = 0 ∧ (σ2 2 9) = 1 ∧ (σ2 2 10) = tka b n m (tkp b n m (tkp b n m (tkp b n m p)))) ∨ (tkc b n m (tkp b n m p) = 300 ∧ ¬ fnd nmR (σ 5 1).toNat (tkw b n m (tkp b n m p)) = -1 ∧ tkc b n m (tkp b n m (tkp b n m p)) = 301 ∧ (tkv b n m (tkp b n m (tkp b n m p))) ≤ σ 5 0 - 1 ∧ σ 7 (13 * fnd nmR (σ 5 1).toNat (tkw b n m (tkp b n m p)) + tkv b n m (tkp b n m (tkp b n m p))).toNat ≤ 0 ∧ tkc b n m (tkp b n m (tkp b n m (tkp b n m p))) = 301 ∧ ¬ (1 ≤ (tkv b n m (tkp b n m (tkp b n m (tkp b n m p)))) ∧ (tkv b n m (tkp b n m (tkp b n m (tkp b n m p)))) ≤ 4) ∧ 0 = 0 ∧ (σ2 2 9) = 2 ∧ (σ2 2 10) = tka b n m (tkp b n m (tkp b n m (tkp b n m p)))) ∨ (tkc b n m (tkp b n m p) = 300 ∧ ¬ fnd nmR (σ 5 1).toNat (tkw b n m (tkp b n m p)) = -1 ∧ tkc b n m (tkp b n m (tkp b n m p)) = 301 ∧ (tkv b n m (tkp b n m (tkp b n m p))) ≤ σ 5 0 - 1 ∧ σ 7 (13 * fnd nmR (σ 5 1).toNat (tkw b n m (tkp b n m p)) + tkv b n m (tkp b n m (tkp b n m p))).toNat ≤ 0 ∧ tkc b n m (tkp b n m (tkp b n m (tkp b n m p))) = 301 ∧ (1 ≤ (tkv b n m (tkp b n m (tkp b n m (tkp b n m p)))) ∧ (tkv b n m (tkp b n m (tkp b n m (tkp b n m p)))) ≤ 4) ∧ 4 < σ 1 (tkv b n m (tkp b n m (tkp b n m p))).toNat + (tkv b n m (tkp b n m (tkp b n m (tkp b n m p)))) ∧ 0 = 0 ∧ (σ2 2 9) = 5 ∧ (σ2 2 10) = tka b n m (tkp b n m (tkp b n m (tkp b n m p)))) ∨ (tkc b n m (tkp b n m p) = 300 ∧ ¬ fnd nmR (σ 5 1).toNat (tkw b n m (tkp b n m p)) = -1 ∧ tkc b n m (tkp b n m (tkp b n m p)) = 301 ∧ (tkv b n m (tkp b n m (tkp b n m p))) ≤ σ 5 0 - 1 ∧ σ 7 (13 * fnd nmR (σ 5 1).toNat (tkw b n m (tkp b n m p)) + tkv b n m (tkp b n m (tkp b n m p))).toNat ≤ 0 ∧ tkc b n m (tkp b n m (tkp b n m (tkp b n m p))) = 301 ∧ (1 ≤ (tkv b n m (tkp b n m (tkp b n m (tkp b n m p)))) ∧ (tkv b n m (tkp b n m (tkp b n m (tkp b n m p)))) ≤ 4) ∧ σ 1 (tkv b n m (tkp b n m (tkp b n m p))).toNat + (tkv b n m (tkp b n m (tkp b n m (tkp b n m p)))) ≤ 4 ∧ 0 = 1) from by (rcases p2 with q9 | q9 | q9 <;> (first | (exfalso; omega) | (refine (Or.inl ?_); and_intros <;> omega) | (refine (Or.inr (Or.inl ?_)); and_intros <;> omega)))), fun hr => absurd hr (by omega)⟩

