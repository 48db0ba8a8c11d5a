set_option maxHeartbeats 4000000 in
set_option maxRecDepth 100000 in
theorem sX9_readPersonF {b nmR : Nat → Int} {n m p : Int} {σ : xS} {Q : Option xV → xS → Prop} (hp0 : TG σ) (hp1 : (0 ≤ σ 2 4 ∧ σ 2 4 ≤ σ 2 2 ∧ σ 2 2 ≤ 940)) (hp2 : RDt σ b n m p) (hp3 : NMR (σ 6) nmR (σ 5 1)) (hQ : ∀ r : Int, ∀ σ' : xS, Fr [2, 5, 6] [] σ σ' → (TG σ' ∧ (0 ≤ σ' 2 4 ∧ σ' 2 4 ≤ σ' 2 2 ∧ σ' 2 2 ≤ 940) ∧ (r = 0 ∨ r = 1) ∧ ((σ 5 1 = 6 ∧ r = 0 ∧ σ' 2 9 = 4 ∧ σ' 2 10 = tka b n m p) ∨ (¬ σ 5 1 = 6 ∧ ¬ tkc b n m (tkp b n m p) = 300 ∧ r = 0 ∧ σ' 2 9 = 1 ∧ σ' 2 10 = tka b n m (tkp b n m p)) ∨ (¬ σ 5 1 = 6 ∧ tkc b n m (tkp b n m p) = 300 ∧ ¬ fnd nmR (σ 5 1).toNat (tkw b n m (tkp b n m p)) = -1 ∧ r = 0 ∧ σ' 2 9 = 3 ∧ σ' 2 10 = tka b n m (tkp b n m p)) ∨ (¬ σ 5 1 = 6 ∧ tkc b n m (tkp b n m p) = 300 ∧ fnd nmR (σ 5 1).toNat (tkw b n m (tkp b n m p)) = -1 ∧ r = 1)) ∧ (r = 1 → RDt σ' b n m (tkp b n m (tkp b n m p)) ∧ σ' 5 = up (σ 5) 1 (σ 5 1 + 1) ∧ NMR (σ' 6) (up nmR (σ 5 1).toNat (tkw b n m (tkp b n m p))) (σ 5 1 + 1))) → Q (some (xvi r)) σ') : xT kX9_readPerson [xvr 0, xvr 5] σ Q := by
  refine ⟨Nat.le_of_ble_eq_true rfl, fun X hX => ?_⟩
  show X 0 [xvr 0, xvr 5] σ
  have hF : Fr [2, 5, 6] [] σ σ := Fr.rf
  refine hX 400 0 _ _ ?_
  have hT := hp0
  obtain ⟨⟨hb, hs, hm, hw⟩, hrc, hr9⟩ := id hp2
  have tk5 : σ 2 5 = tkc b n m p := hrc.1
  have tk7 : tkc b n m p = 301 → σ 2 7 = tkv b n m p ∧ 0 ≤ tkv b n m p ∧ tkv b n m p < 1000 := hrc.2.1
  have tk8 : tkc b n m p = 300 → WP (σ 2 8) (tkw b n m p) := hrc.2.2.1
  have tk6 : σ 2 6 = tka b n m p := hrc.2.2.2.1
  have tk4 : σ 2 4 = tkp b n m p := hrc.2.2.2.2
  have hG : σ 5 = σ 5 := rfl
  have hH : σ 6 = σ 6 := rfl
  have hN := hp3
  intro v1 e1 l1 h1
  have e1 : v1 = σ 5 1 := e1
  refine And.intro (fun c2 => ?_) (fun c2 => ?_)
  · refine xMVf (sh := shT) (ci := 6) (τ := [2, 3, 4]) (E := xT kX6_advance) (t := 2) (r := []) (σ := σ) rfl rfl (fun Q3 hQ3 => sX6_adv (σ := xsel [2, 3, 4] σ) (b := b) (n := n) (m := m) (p := (tkp b n m p)) (show 0 ≤ σ 2 4 ∧ σ 2 4 ≤ σ 2 2 ∧ σ 2 2 ≤ 940 from by omega) hb (show σ 2 2 = n from by omega) (show σ 2 3 = m from by omega) (show σ 2 4 = (tkp b n m p) from by omega) hw (fun ς3 f3 p3 => hQ3 _ _ ?_))
    have hb : (xbk [2, 3, 4] σ ς3) 4 = b := (f3.1 2 (by decide) (by decide)).trans hb
    have hw : WDS ((xbk [2, 3, 4] σ ς3) 3) := by
      have e9 : (xbk [2, 3, 4] σ ς3) 3 = σ 3 := f3.1 1 (by decide) (by decide)
      rw [e9]; exact hw
    have hs : (xbk [2, 3, 4] σ ς3) 2 2 = n := (f3.2 2 (by decide)).trans (show σ 2 2 = n from by omega)
    have hm : (xbk [2, 3, 4] σ ς3) 2 3 = m := (f3.2 3 (by decide)).trans (show σ 2 3 = m from by omega)
    have tk5 : (xbk [2, 3, 4] σ ς3) 2 5 = tkc b n m (tkp b n m p) := p3.2.1
    have tk7 : tkc b n m (tkp b n m p) = 301 → (xbk [2, 3, 4] σ ς3) 2 7 = tkv b n m (tkp b n m p) ∧ 0 ≤ tkv b n m (tkp b n m p) ∧ tkv b n m (tkp b n m p) < 1000 := p3.2.2.1
    have tk8 : tkc b n m (tkp b n m p) = 300 → WP ((xbk [2, 3, 4] σ ς3) 2 8) (tkw b n m (tkp b n m p)) := p3.2.2.2.1
    have tk6 : (xbk [2, 3, 4] σ ς3) 2 6 = tka b n m (tkp b n m p) := p3.2.2.2.2.1
    have tk4 : (xbk [2, 3, 4] σ ς3) 2 4 = tkp b n m (tkp b n m p) := p3.2.2.2.2.2
    have hr9 : (xbk [2, 3, 4] σ ς3) 2 9 = 0 := (f3.2 9 (by decide)).trans (show σ 2 9 = 0 from by omega)
    replace p3 : 0 ≤ (xbk [2, 3, 4] σ ς3) 2 4 ∧ (xbk [2, 3, 4] σ ς3) 2 4 ≤ n := p3.1
    replace f3 : Fr [2] [] σ (xbk [2, 3, 4] σ ς3) := f3.bk (by decide) (by decide)
    generalize xbk [2, 3, 4] σ ς3 = σ3 at f3 hb hw hs hm tk5 tk7 tk8 tk6 tk4 hr9 p3 ⊢
    have hF := hF.tr f3 (by decide) (by decide)
    have hT := hT.fr f3 (by decide) (by decide) (by decide) (by decide)
    replace hG := (f3.1 5 (by decide) (by decide)).trans hG
    replace hH := (f3.1 6 (by decide) (by decide)).trans hH
    have z2_3 : σ3 0 2 = σ 0 2 := f3.2 2 (by decide)
    refine xMVp (sh := shT) (ci := 6) (τ := [2, 3, 4]) (E := xT kX6_isAt) (t := 2) (r := [xvi 300]) (σ := σ3) rfl rfl xbk_sel (fun Q4 hQ4 => sX6_isAt (σ := xsel [2, 3, 4] σ3) (wanted := 300)  (fun r4 p4 => hQ4 _ ?_))
    have p4 : (r4 = 1 ∧ (σ3 2 5) = 300) ∨ (r4 = 0 ∧ ¬ (σ3 2 5) = 300) := p4
    refine And.intro (fun c5 => ?_) (fun c5 => ?_)
    · replace p4 : (σ3 2 5) = 300 := by
        rcases p4 with q | q
        · exact q.2
        · exact absurd q.1 (by omega)
      intro v6 e6 l6 h6
      have e6 : v6 = σ3 2 8 := e6
      refine xMVp (sh := shT) (ci := 2) (τ := [5, 6, 7, 8, 9, 10, 11, 12, 13, 14, 15, 16, 17]) (E := xT kX2_find) (t := 5) (r := [xvl v6]) (σ := σ3) rfl rfl xbk_sel (fun Q7 hQ7 => sX2_findF (σ := xsel [5, 6, 7, 8, 9, 10, 11, 12, 13, 14, 15, 16, 17] σ3) (name := v6) (show 0 ≤ σ3 5 1 ∧ σ3 5 1 ≤ 6 from hT.1.1.2.1) (fun r7 p7 => hQ7 _ ?_))
      replace p7 : r7 = fnd nmR (σ 5 1).toNat (tkw b n m (tkp b n m p)) := by
        have z : r7 = fnd (σ3 6) (σ3 5 1).toNat v6 := p7
        rw [show v6 = σ3 2 8 from by omega] at z
        rw [z]; exact FNM hN hH (congrFun hG 1) (hT.1.1.2.1).1 (tk8 (by omega))
      have hfr := fnd_r nmR (tkw b n m (tkp b n m p)) (σ 5 1).toNat
      refine And.intro (fun c8 => ?_) (fun c8 => ?_)
      · intro v9 e9 l9 h9
        have e9 : v9 = σ3 2 8 := e9
        have hn6 : 0 ≤ σ3 5 1 ∧ σ3 5 1 ≤ 6 := hT.1.1.2.1
        have hn5 : σ3 5 1 = σ 5 1 := congrFun hG 1
        refine xMVf (sh := shT) (ci := 2) (τ := [5, 6, 7, 8, 9, 10, 11, 12, 13, 14, 15, 16, 17]) (E := xT kX2_addPerson) (t := 5) (r := [xvl v9]) (σ := σ3) rfl rfl (fun Q10 hQ10 => sX2_addPersonF (σ := xsel [5, 6, 7, 8, 9, 10, 11, 12, 13, 14, 15, 16, 17] σ3) (name := v9) (show 0 ≤ σ3 5 1 ∧ σ3 5 1 ≤ 5 from by omega) (fun ς10 f10 p10 => hQ10 _ _ ?_))
        have q10 : (xbk [5, 6, 7, 8, 9, 10, 11, 12, 13, 14, 15, 16, 17] σ3 ς10) 5 = up (σ3 5) 1 (σ3 5 1 + 1) ∧ (xbk [5, 6, 7, 8, 9, 10, 11, 12, 13, 14, 15, 16, 17] σ3 ς10) 6 = up (σ3 6) (σ3 5 1).toNat v9 := p10
        replace f10 : Fr [5, 6] [] σ3 (xbk [5, 6, 7, 8, 9, 10, 11, 12, 13, 14, 15, 16, 17] σ3 ς10) := f10.bk (by decide) (by decide)
        generalize xbk [5, 6, 7, 8, 9, 10, 11, 12, 13, 14, 15, 16, 17] σ3 ς10 = σ10 at f10 q10 ⊢
        clear p10
        have hF := hF.tr f10 (by decide) (by decide)
        have k0 : σ10 5 0 = σ3 5 0 := by rw [q10.1]; exact up_n (by decide)
        have k1 : σ10 5 1 = σ3 5 1 + 1 := by rw [q10.1]; exact up_s
        have k2 : σ10 5 2 = σ3 5 2 := by rw [q10.1]; exact up_n (by decide)
        have k8 : σ10 5 8 = σ3 5 8 := by rw [q10.1]; exact up_n (by decide)
        have k9 : σ10 5 9 = σ3 5 9 := by rw [q10.1]; exact up_n (by decide)
        have hT := hT.g f10 (by decide) (by decide) (by decide) k0 (by omega) k2 k8 k9
        have e1 : σ3 5 1 = σ 5 1 := congrFun hG 1
        replace hN : NMR (σ10 6) (up nmR (σ 5 1).toNat (tkw b n m (tkp b n m p))) (σ 5 1 + 1) := by
          rw [q10.2, hH, e1]
          exact hN.a (by omega) (by rw [show v9 = σ3 2 8 from by omega]; exact tk8 (by omega))
        replace hG : σ10 5 = up (σ 5) 1 (σ 5 1 + 1) := by rw [q10.1, hG]
        replace hH : σ10 6 = σ10 6 := rfl
        have y2 : σ10 2 = σ3 2 := f10.1 2 (by decide) (by decide)
        have y3 : σ10 3 = σ3 3 := f10.1 3 (by decide) (by decide)
        have y4 : σ10 4 = σ3 4 := f10.1 4 (by decide) (by decide)
        replace hb : σ10 4 = b := y4.trans hb
        replace hw : WDS (σ10 3) := by rw [y3]; exact hw
        replace hs : σ10 2 2 = n := (congrFun y2 2).trans hs
        replace hm : σ10 2 3 = m := (congrFun y2 3).trans hm
        have tk5 := (congrFun y2 5).trans tk5
        replace tk6 := (congrFun y2 6).trans tk6
        replace tk4 := (congrFun y2 4).trans tk4
        replace hr9 : σ10 2 9 = 0 := (congrFun y2 9).trans (show σ3 2 9 = 0 from by omega)
        have uy := congrFun y2 4
        clear y2 y3 y4 tk7 tk8
        refine xMVf (sh := shT) (ci := 6) (τ := [2, 3, 4]) (E := xT kX6_advance) (t := 2) (r := []) (σ := σ10) rfl rfl (fun Q11 hQ11 => sX6_adv (σ := xsel [2, 3, 4] σ10) (b := b) (n := n) (m := m) (p := (tkp b n m (tkp b n m p))) (show 0 ≤ σ10 2 4 ∧ σ10 2 4 ≤ σ10 2 2 ∧ σ10 2 2 ≤ 940 from by omega) hb (show σ10 2 2 = n from by omega) (show σ10 2 3 = m from by omega) (show σ10 2 4 = (tkp b n m (tkp b n m p)) from by omega) hw (fun ς11 f11 p11 => hQ11 _ _ ?_))
        have hb : (xbk [2, 3, 4] σ10 ς11) 4 = b := (f11.1 2 (by decide) (by decide)).trans hb
        have hw : WDS ((xbk [2, 3, 4] σ10 ς11) 3) := by
          have e9 : (xbk [2, 3, 4] σ10 ς11) 3 = σ10 3 := f11.1 1 (by decide) (by decide)
          rw [e9]; exact hw
        have hs : (xbk [2, 3, 4] σ10 ς11) 2 2 = n := (f11.2 2 (by decide)).trans (show σ10 2 2 = n from by omega)
        have hm : (xbk [2, 3, 4] σ10 ς11) 2 3 = m := (f11.2 3 (by decide)).trans (show σ10 2 3 = m from by omega)
        have tk5 : (xbk [2, 3, 4] σ10 ς11) 2 5 = tkc b n m (tkp b n m (tkp b n m p)) := p11.2.1
        have tk7 : tkc b n m (tkp b n m (tkp b n m p)) = 301 → (xbk [2, 3, 4] σ10 ς11) 2 7 = tkv b n m (tkp b n m (tkp b n m p)) ∧ 0 ≤ tkv b n m (tkp b n m (tkp b n m p)) ∧ tkv b n m (tkp b n m (tkp b n m p)) < 1000 := p11.2.2.1
        have tk8 : tkc b n m (tkp b n m (tkp b n m p)) = 300 → WP ((xbk [2, 3, 4] σ10 ς11) 2 8) (tkw b n m (tkp b n m (tkp b n m p))) := p11.2.2.2.1
        have tk6 : (xbk [2, 3, 4] σ10 ς11) 2 6 = tka b n m (tkp b n m (tkp b n m p)) := p11.2.2.2.2.1
        have tk4 : (xbk [2, 3, 4] σ10 ς11) 2 4 = tkp b n m (tkp b n m (tkp b n m p)) := p11.2.2.2.2.2
        have hr9 : (xbk [2, 3, 4] σ10 ς11) 2 9 = 0 := (f11.2 9 (by decide)).trans (show σ10 2 9 = 0 from by omega)
        replace p11 : 0 ≤ (xbk [2, 3, 4] σ10 ς11) 2 4 ∧ (xbk [2, 3, 4] σ10 ς11) 2 4 ≤ n := p11.1
        replace f11 : Fr [2] [] σ10 (xbk [2, 3, 4] σ10 ς11) := f11.bk (by decide) (by decide)
        generalize xbk [2, 3, 4] σ10 ς11 = σ11 at f11 hb hw hs hm tk5 tk7 tk8 tk6 tk4 hr9 p11 ⊢
        have hF := hF.tr f11 (by decide) (by decide)
        have hT := hT.fr f11 (by decide) (by decide) (by decide) (by decide)
        replace hG := (f11.1 5 (by decide) (by decide)).trans hG
        replace hH := (f11.1 6 (by decide) (by decide)).trans hH
        have z2_11 : σ11 0 2 = σ10 0 2 := f11.2 2 (by decide)
        refine And.intro rfl ?_
        refine And.intro (by omega) ?_
        exact hQ _ _ hF ⟨hT, (show 0 ≤ σ11 2 4 ∧ σ11 2 4 ≤ σ11 2 2 ∧ σ11 2 2 ≤ 940 from by omega), by omega, (show (σ 5 1 = 6 ∧ 1 = 0 ∧ (σ11 2 9) = 4 ∧ (σ11 2 10) = tka b n m p) ∨ (¬ σ 5 1 = 6 ∧ ¬ tkc b n m (tkp b n m p) = 300 ∧ 1 = 0 ∧ (σ11 2 9) = 1 ∧ (σ11 2 10) = tka b n m (tkp b n m p)) ∨ (¬ σ 5 1 = 6 ∧ tkc b n m (tkp b n m p) = 300 ∧ ¬ fnd nmR (σ 5 1).toNat (tkw b n m (tkp b n m p)) = -1 ∧ 1 = 0 ∧ (σ11 2 9) = 3 ∧ (σ11 2 10) = tka b n m (tkp b n m p)) ∨ (¬ σ 5 1 = 6 ∧ tkc b n m (tkp b n m p) = 300 ∧ fnd nmR (σ 5 1).toNat (tkw b n m (tkp b n m p)) = -1 ∧ 1 = 1) from by omega), fun _ => ⟨⟨⟨hb, hs, hm, hw⟩, ⟨tk5, tk7, tk8, tk6, tk4⟩, hr9⟩, hG, (by rw [hH]; exact hN)⟩⟩
      · refine xMVf (sh := shT) (ci := 6) (τ := [2, 3, 4]) (E := xT kX6_fail) (t := 2) (r := [xvi 3]) (σ := σ3) rfl rfl (fun Q12 hQ12 => sX6_failF (σ := xsel [2, 3, 4] σ3) (kind := 3) (show σ3 2 9 = 0 from by omega) (fun r12 ς12 f12 p12 => hQ12 _ _ ?_))
        have hb : (xbk [2, 3, 4] σ3 ς12) 4 = b := (f12.1 2 (by decide) (by decide)).trans hb
        have hw : WDS ((xbk [2, 3, 4] σ3 ς12) 3) := by
          have e9 : (xbk [2, 3, 4] σ3 ς12) 3 = σ3 3 := f12.1 1 (by decide) (by decide)
          rw [e9]; exact hw
        have hs : (xbk [2, 3, 4] σ3 ς12) 2 2 = n := (f12.2 2 (by decide)).trans (show σ3 2 2 = n from by omega)
        have hm : (xbk [2, 3, 4] σ3 ς12) 2 3 = m := (f12.2 3 (by decide)).trans (show σ3 2 3 = m from by omega)
        replace p12 : r12 = 0 ∧ (xbk [2, 3, 4] σ3 ς12) 2 9 = 3 ∧ (xbk [2, 3, 4] σ3 ς12) 2 10 = tka b n m (tkp b n m p) := ⟨p12.1, p12.2.1, p12.2.2.trans (show σ3 2 6 = _ from by omega)⟩
        have u4 : (xbk [2, 3, 4] σ3 ς12) 2 4 = σ3 2 4 := f12.2 4 (by decide)
        have u5 : (xbk [2, 3, 4] σ3 ς12) 2 5 = σ3 2 5 := f12.2 5 (by decide)
        have u6 : (xbk [2, 3, 4] σ3 ς12) 2 6 = σ3 2 6 := f12.2 6 (by decide)
        have u7 : (xbk [2, 3, 4] σ3 ς12) 2 7 = σ3 2 7 := f12.2 7 (by decide)
        have u8 : (xbk [2, 3, 4] σ3 ς12) 2 8 = σ3 2 8 := f12.2 8 (by decide)
        have uq12 : (xbk [2, 3, 4] σ3 ς12) 2 4 = σ3 2 4 := u4
        have tk5 := u5.trans tk5; replace tk6 := u6.trans tk6; replace tk4 := u4.trans tk4
        replace tk7 : tkc b n m (tkp b n m p) = 301 → (xbk [2, 3, 4] σ3 ς12) 2 7 = tkv b n m (tkp b n m p) ∧ 0 ≤ tkv b n m (tkp b n m p) ∧ tkv b n m (tkp b n m p) < 1000 := by rw [u7]; exact tk7
        replace tk8 : tkc b n m (tkp b n m p) = 300 → WP ((xbk [2, 3, 4] σ3 ς12) 2 8) (tkw b n m (tkp b n m p)) := by rw [u8]; exact tk8
        clear u4 u5 u6 u7 u8
        replace f12 : Fr [2] [] σ3 (xbk [2, 3, 4] σ3 ς12) := f12.bk (by decide) (by decide)
        generalize xbk [2, 3, 4] σ3 ς12 = σ12 at f12 hb hw hs hm tk5 tk7 tk8 tk6 tk4 p12 uq12 ⊢
        have hF := hF.tr f12 (by decide) (by decide)
        have hT := hT.fr f12 (by decide) (by decide) (by decide) (by decide)
        replace hG := (f12.1 5 (by decide) (by decide)).trans hG
        replace hH := (f12.1 6 (by decide) (by decide)).trans hH
        have z2_12 : σ12 0 2 = σ3 0 2 := f12.2 2 (by decide)
        refine And.intro rfl ?_
        refine And.intro (by omega) ?_
        exact hQ _ _ hF ⟨hT, (show 0 ≤ σ12 2 4 ∧ σ12 2 4 ≤ σ12 2 2 ∧ σ12 2 2 ≤ 940 from by omega), by omega, (show (σ 5 1 = 6 ∧ r12 = 0 ∧ (σ12 2 9) = 4 ∧ (σ12 2 10) = tka b n m p) ∨ (¬ σ 5 1 = 6 ∧ ¬ tkc b n m (tkp b n m p) = 300 ∧ r12 = 0 ∧ (σ12 2 9) = 1 ∧ (σ12 2 10) = tka b n m (tkp b n m p)) ∨ (¬ σ 5 1 = 6 ∧ tkc b n m (tkp b n m p) = 300 ∧ ¬ fnd nmR (σ 5 1).toNat (tkw b n m (tkp b n m p)) = -1 ∧ r12 = 0 ∧ (σ12 2 9) = 3 ∧ (σ12 2 10) = tka b n m (tkp b n m p)) ∨ (¬ σ 5 1 = 6 ∧ tkc b n m (tkp b n m p) = 300 ∧ fnd nmR (σ 5 1).toNat (tkw b n m (tkp b n m p)) = -1 ∧ r12 = 1) from by omega), fun hr => absurd hr (by omega)⟩
    · replace p4 : ¬ (σ3 2 5) = 300 := by
        rcases p4 with q | q
        · exact absurd q.1 (by omega)
        · exact q.2
      refine xMVf (sh := shT) (ci := 6) (τ := [2, 3, 4]) (E := xT kX6_fail) (t := 2) (r := [xvi 1]) (σ := σ3) rfl rfl (fun Q13 hQ13 => sX6_failF (σ := xsel [2, 3, 4] σ3) (kind := 1) (show σ3 2 9 = 0 from by omega) (fun r13 ς13 f13 p13 => hQ13 _ _ ?_))
      have hb : (xbk [2, 3, 4] σ3 ς13) 4 = b := (f13.1 2 (by decide) (by decide)).trans hb
      have hw : WDS ((xbk [2, 3, 4] σ3 ς13) 3) := by
        have e9 : (xbk [2, 3, 4] σ3 ς13) 3 = σ3 3 := f13.1 1 (by decide) (by decide)
        rw [e9]; exact hw
      have hs : (xbk [2, 3, 4] σ3 ς13) 2 2 = n := (f13.2 2 (by decide)).trans (show σ3 2 2 = n from by omega)
      have hm : (xbk [2, 3, 4] σ3 ς13) 2 3 = m := (f13.2 3 (by decide)).trans (show σ3 2 3 = m from by omega)
      replace p13 : r13 = 0 ∧ (xbk [2, 3, 4] σ3 ς13) 2 9 = 1 ∧ (xbk [2, 3, 4] σ3 ς13) 2 10 = tka b n m (tkp b n m p) := ⟨p13.1, p13.2.1, p13.2.2.trans (show σ3 2 6 = _ from by omega)⟩
      have u4 : (xbk [2, 3, 4] σ3 ς13) 2 4 = σ3 2 4 := f13.2 4 (by decide)
      have u5 : (xbk [2, 3, 4] σ3 ς13) 2 5 = σ3 2 5 := f13.2 5 (by decide)
      have u6 : (xbk [2, 3, 4] σ3 ς13) 2 6 = σ3 2 6 := f13.2 6 (by decide)
      have u7 : (xbk [2, 3, 4] σ3 ς13) 2 7 = σ3 2 7 := f13.2 7 (by decide)
      have u8 : (xbk [2, 3, 4] σ3 ς13) 2 8 = σ3 2 8 := f13.2 8 (by decide)
      have uq13 : (xbk [2, 3, 4] σ3 ς13) 2 4 = σ3 2 4 := u4
      have tk5 := u5.trans tk5; replace tk6 := u6.trans tk6; replace tk4 := u4.trans tk4
      replace tk7 : tkc b n m (tkp b n m p) = 301 → (xbk [2, 3, 4] σ3 ς13) 2 7 = tkv b n m (tkp b n m p) ∧ 0 ≤ tkv b n m (tkp b n m p) ∧ tkv b n m (tkp b n m p) < 1000 := by rw [u7]; exact tk7
      replace tk8 : tkc b n m (tkp b n m p) = 300 → WP ((xbk [2, 3, 4] σ3 ς13) 2 8) (tkw b n m (tkp b n m p)) := by rw [u8]; exact tk8
      clear u4 u5 u6 u7 u8
      replace f13 : Fr [2] [] σ3 (xbk [2, 3, 4] σ3 ς13) := f13.bk (by decide) (by decide)
      generalize xbk [2, 3, 4] σ3 ς13 = σ13 at f13 hb hw hs hm tk5 tk7 tk8 tk6 tk4 p13 uq13 ⊢
      have hF := hF.tr f13 (by decide) (by decide)
      have hT := hT.fr f13 (by decide) (by decide) (by decide) (by decide)
      replace hG := (f13.1 5 (by decide) (by decide)).trans hG
      replace hH := (f13.1 6 (by decide) (by decide)).trans hH
      have z2_13 : σ13 0 2 = σ3 0 2 := f13.2 2 (by decide)
      refine And.intro rfl ?_
      refine And.intro (by omega) ?_
      exact hQ _ _ hF ⟨hT, (show 0 ≤ σ13 2 4 ∧ σ13 2 4 ≤ σ13 2 2 ∧ σ13 2 2 ≤ 940 from by omega), by omega, (show (σ 5 1 = 6 ∧ r13 = 0 ∧ (σ13 2 9) = 4 ∧ (σ13 2 10) = tka b n m p) ∨ (¬ σ 5 1 = 6 ∧ ¬ tkc b n m (tkp b n m p) = 300 ∧ r13 = 0 ∧ (σ13 2 9) = 1 ∧ (σ13 2 10) = tka b n m (tkp b n m p)) ∨ (¬ σ 5 1 = 6 ∧ tkc b n m (tkp b n m p) = 300 ∧ ¬ fnd nmR (σ 5 1).toNat (tkw b n m (tkp b n m p)) = -1 ∧ r13 = 0 ∧ (σ13 2 9) = 3 ∧ (σ13 2 10) = tka b n m (tkp b n m p)) ∨ (¬ σ 5 1 = 6 ∧ tkc b n m (tkp b n m p) = 300 ∧ fnd nmR (σ 5 1).toNat (tkw b n m (tkp b n m p)) = -1 ∧ r13 = 1) from by omega), fun hr => absurd hr (by omega)⟩
  · refine xMVf (sh := shT) (ci := 6) (τ := [2, 3, 4]) (E := xT kX6_fail) (t := 2) (r := [xvi 4]) (σ := σ) rfl rfl (fun Q14 hQ14 => sX6_failF (σ := xsel [2, 3, 4] σ) (kind := 4) (show σ 2 9 = 0 from by omega) (fun r14 ς14 f14 p14 => hQ14 _ _ ?_))
    have hb : (xbk [2, 3, 4] σ ς14) 4 = b := (f14.1 2 (by decide) (by decide)).trans hb
    have hw : WDS ((xbk [2, 3, 4] σ ς14) 3) := by
      have e9 : (xbk [2, 3, 4] σ ς14) 3 = σ 3 := f14.1 1 (by decide) (by decide)
      rw [e9]; exact hw
    have hs : (xbk [2, 3, 4] σ ς14) 2 2 = n := (f14.2 2 (by decide)).trans (show σ 2 2 = n from by omega)
    have hm : (xbk [2, 3, 4] σ ς14) 2 3 = m := (f14.2 3 (by decide)).trans (show σ 2 3 = m from by omega)
    replace p14 : r14 = 0 ∧ (xbk [2, 3, 4] σ ς14) 2 9 = 4 ∧ (xbk [2, 3, 4] σ ς14) 2 10 = tka b n m p := ⟨p14.1, p14.2.1, p14.2.2.trans (show σ 2 6 = _ from by omega)⟩
    have u4 : (xbk [2, 3, 4] σ ς14) 2 4 = σ 2 4 := f14.2 4 (by decide)
    have u5 : (xbk [2, 3, 4] σ ς14) 2 5 = σ 2 5 := f14.2 5 (by decide)
    have u6 : (xbk [2, 3, 4] σ ς14) 2 6 = σ 2 6 := f14.2 6 (by decide)
    have u7 : (xbk [2, 3, 4] σ ς14) 2 7 = σ 2 7 := f14.2 7 (by decide)
    have u8 : (xbk [2, 3, 4] σ ς14) 2 8 = σ 2 8 := f14.2 8 (by decide)
    have uq14 : (xbk [2, 3, 4] σ ς14) 2 4 = σ 2 4 := u4
    have tk5 := u5.trans tk5; replace tk6 := u6.trans tk6; replace tk4 := u4.trans tk4
    replace tk7 : tkc b n m p = 301 → (xbk [2, 3, 4] σ ς14) 2 7 = tkv b n m p ∧ 0 ≤ tkv b n m p ∧ tkv b n m p < 1000 := by rw [u7]; exact tk7
    replace tk8 : tkc b n m p = 300 → WP ((xbk [2, 3, 4] σ ς14) 2 8) (tkw b n m p) := by rw [u8]; exact tk8
    clear u4 u5 u6 u7 u8
    replace f14 : Fr [2] [] σ (xbk [2, 3, 4] σ ς14) := f14.bk (by decide) (by decide)
    generalize xbk [2, 3, 4] σ ς14 = σ14 at f14 hb hw hs hm tk5 tk7 tk8 tk6 tk4 p14 uq14 ⊢
    have hF := hF.tr f14 (by decide) (by decide)
    have hT := hT.fr f14 (by decide) (by decide) (by decide) (by decide)
    replace hG := (f14.1 5 (by decide) (by decide)).trans hG
    replace hH := (f14.1 6 (by decide) (by decide)).trans hH
    have z2_14 : σ14 0 2 = σ 0 2 := f14.2 2 (by decide)
    refine And.intro rfl ?_
    refine And.intro (by omega) ?_
    exact hQ _ _ hF ⟨hT, (show 0 ≤ σ14 2 4 ∧ σ14 2 4 ≤ σ14 2 2 ∧ σ14 2 2 ≤ 940 from by omega), by omega, (show (σ 5 1 = 6 ∧ r14 = 0 ∧ (σ14 2 9) = 4 ∧ (σ14 2 10) = tka b n m p) ∨ (¬ σ 5 1 = 6 ∧ ¬ tkc b n m (tkp b n m p) = 300 ∧ r14 = 0 ∧ (σ14 2 9) = 1 ∧ (σ14 2 10) = tka b n m (tkp b n m p)) ∨ (¬ σ 5 1 = 6 ∧ tkc b n m (tkp b n m p) = 300 ∧ ¬ fnd nmR (σ 5 1).toNat (tkw b n m (tkp b n m p)) = -1 ∧ r14 = 0 ∧ (σ14 2 9) = 3 ∧ (σ14 2 10) = tka b n m (tkp b n m p)) ∨ (¬ σ 5 1 = 6 ∧ tkc b n m (tkp b n m p) = 300 ∧ fnd nmR (σ 5 1).toNat (tkw b n m (tkp b n m p)) = -1 ∧ r14 = 1) from by omega), fun hr => absurd hr (by omega)⟩

