set_option maxHeartbeats 4000000 in
set_option maxRecDepth 100000 in
theorem sX9_readHeapF {b nmR : Nat → Int} {n m p : Int} {σ : xS} {Q : Option xV → xS → Prop} (hp0 : TG σ) (hp1 : (0 ≤ σ 2 4 ∧ σ 2 4 ≤ σ 2 2 ∧ σ 2 2 ≤ 940)) (hp2 : RDt σ b n m p) (hp3 : σ 5 8 = 0) (hQ : ∀ r : Int, ∀ σ' : xS, Fr [1, 2, 5, 9] [] σ σ' → (TG σ' ∧ (0 ≤ σ' 2 4 ∧ σ' 2 4 ≤ σ' 2 2 ∧ σ' 2 2 ≤ 940) ∧ (r = 0 ∨ r = 1) ∧ ∃ k : Nat, HGD b n m p (σ 5 0) (σ 1) k ∧ ((k = 0 ∧ ¬ tkc b n m (hps b n m p k) = 301 ∧ r = 0 ∧ σ' 2 9 = 1 ∧ σ' 2 10 = tka b n m (hps b n m p k)) ∨ (tkc b n m (hps b n m p k) = 301 ∧ ¬ tkv b n m (hps b n m p k) < σ 5 0 ∧ r = 0 ∧ σ' 2 9 = 2 ∧ σ' 2 10 = tka b n m (hps b n m p k)) ∨ (tkc b n m (hps b n m p k) = 301 ∧ tkv b n m (hps b n m p k) < σ 5 0 ∧ hpl b n m p (σ 1) k (tkv b n m (hps b n m p k)).toNat = 4 ∧ r = 0 ∧ σ' 2 9 = 5 ∧ σ' 2 10 = tka b n m (hps b n m p k)) ∨ (0 < k ∧ ¬ tkc b n m (hps b n m p k) = 301 ∧ r = 1)) ∧ (r = 1 → RDt σ' b n m (hps b n m p k) ∧ σ' 1 = hpl b n m p (σ 1) k ∧ σ' 5 = up (σ 5) 9 (σ 5 9 + (k : Nat)) ∧ σ' 9 = hhp b n m p (σ 9) (σ 5 9) k ∧ σ' 6 = σ 6 ∧ σ' 7 = σ 7)) → Q (some (xvi r)) σ') : xT kX9_readHeap [xvr 0, xvr 5] σ Q := by
  refine ⟨Nat.le_of_ble_eq_true rfl, fun X hX => ?_⟩
  show X 0 [xvr 0, xvr 5, xvu, xvu] σ
  have hF : Fr [1, 2, 5, 9] [] σ σ := Fr.rf
  refine hX 400 0 _ _ ?_
  have hT := hp0
  obtain ⟨⟨hb, hs, hm, hw⟩, hrc, hr9⟩ := id hp2
  have tk5 : σ 2 5 = tkc b n m p := hrc.1
  have tk7 : tkc b n m p = 301 → σ 2 7 = tkv b n m p ∧ 0 ≤ tkv b n m p ∧ tkv b n m p < 1000 := hrc.2.1
  have tk8 : tkc b n m p = 300 → WP (σ 2 8) (tkw b n m p) := hrc.2.2.1
  have tk6 : σ 2 6 = tka b n m p := hrc.2.2.2.1
  have tk4 : σ 2 4 = tkp b n m p := hrc.2.2.2.2
  have hG : σ 5 = σ 5 := rfl
  have hH : σ 6 = σ 6 := rfl
  have hI : σ 1 = σ 1 := rfl
  have hC : σ 9 = σ 9 := rfl
  have hJ : σ 7 = σ 7 := rfl
  have h0u : 0 ≤ σ 5 9 := by have z : 0 ≤ σ 5 8 ∧ σ 5 8 ≤ σ 5 9 ∧ σ 5 9 ≤ 52 := hp0.1.1.2.2.1; omega
  refine xMVf (sh := shT) (ci := 6) (τ := [2, 3, 4]) (E := xT kX6_advance) (t := 2) (r := []) (σ := σ) rfl rfl (fun Q1 hQ1 => sX6_adv (σ := xsel [2, 3, 4] σ) (b := b) (n := n) (m := m) (p := (tkp b n m p)) (show 0 ≤ σ 2 4 ∧ σ 2 4 ≤ σ 2 2 ∧ σ 2 2 ≤ 940 from by omega) hb (show σ 2 2 = n from by omega) (show σ 2 3 = m from by omega) (show σ 2 4 = (tkp b n m p) from by omega) hw (fun ς1 f1 p1 => hQ1 _ _ ?_))
  have hb : (xbk [2, 3, 4] σ ς1) 4 = b := (f1.1 2 (by decide) (by decide)).trans hb
  have hw : WDS ((xbk [2, 3, 4] σ ς1) 3) := by
    have e9 : (xbk [2, 3, 4] σ ς1) 3 = σ 3 := f1.1 1 (by decide) (by decide)
    rw [e9]; exact hw
  have hs : (xbk [2, 3, 4] σ ς1) 2 2 = n := (f1.2 2 (by decide)).trans (show σ 2 2 = n from by omega)
  have hm : (xbk [2, 3, 4] σ ς1) 2 3 = m := (f1.2 3 (by decide)).trans (show σ 2 3 = m from by omega)
  have tk5 : (xbk [2, 3, 4] σ ς1) 2 5 = tkc b n m (tkp b n m p) := p1.2.1
  have tk7 : tkc b n m (tkp b n m p) = 301 → (xbk [2, 3, 4] σ ς1) 2 7 = tkv b n m (tkp b n m p) ∧ 0 ≤ tkv b n m (tkp b n m p) ∧ tkv b n m (tkp b n m p) < 1000 := p1.2.2.1
  have tk8 : tkc b n m (tkp b n m p) = 300 → WP ((xbk [2, 3, 4] σ ς1) 2 8) (tkw b n m (tkp b n m p)) := p1.2.2.2.1
  have tk6 : (xbk [2, 3, 4] σ ς1) 2 6 = tka b n m (tkp b n m p) := p1.2.2.2.2.1
  have tk4 : (xbk [2, 3, 4] σ ς1) 2 4 = tkp b n m (tkp b n m p) := p1.2.2.2.2.2
  have hr9 : (xbk [2, 3, 4] σ ς1) 2 9 = 0 := (f1.2 9 (by decide)).trans (show σ 2 9 = 0 from by omega)
  replace p1 : 0 ≤ (xbk [2, 3, 4] σ ς1) 2 4 ∧ (xbk [2, 3, 4] σ ς1) 2 4 ≤ n := p1.1
  replace f1 : Fr [2] [] σ (xbk [2, 3, 4] σ ς1) := f1.bk (by decide) (by decide)
  generalize xbk [2, 3, 4] σ ς1 = σ1 at f1 hb hw hs hm tk5 tk7 tk8 tk6 tk4 hr9 p1 ⊢
  have hF := hF.tr f1 (by decide) (by decide)
  have hT := hT.fr f1 (by decide) (by decide) (by decide) (by decide)
  replace hG := (f1.1 5 (by decide) (by decide)).trans hG
  replace hH := (f1.1 6 (by decide) (by decide)).trans hH
  replace hI := (f1.1 1 (by decide) (by decide)).trans hI
  replace hC := (f1.1 9 (by decide) (by decide)).trans hC
  replace hJ := (f1.1 7 (by decide) (by decide)).trans hJ
  refine And.intro (Nat.le_of_ble_eq_true rfl) ?_
  show xw _ _ _ _ _ _ _ _ _ _ [xvr 0, xvr 5, xvi 0, xvu] _ _
  have lp_9 : ∀ (m9 : Nat) (i : Int) (u2_3 : xV) (s1 : xS), ((53 - i).toNat) = m9 → (Fr [1, 2, 5, 9] [] σ s1 ∧ TG s1 ∧ (0 ≤ s1 2 4 ∧ s1 2 4 ≤ s1 2 2 ∧ s1 2 2 ≤ 940) ∧ ∃ k : Nat, (k : Int) = i ∧ HGD b n m p (σ 5 0) (σ 1) k ∧ RDt s1 b n m (hps b n m p k) ∧ s1 1 = hpl b n m p (σ 1) k ∧ s1 5 = up (σ 5) 9 (σ 5 9 + (k : Nat)) ∧ s1 9 = hhp b n m p (σ 9) (σ 5 9) k ∧ s1 6 = σ 6 ∧ s1 7 = σ 7) → X 9 [xvr 0, xvr 5, xvi i, u2_3] s1 := by
    intro m9
    induction m9 using Nat.strongRecOn with
    | _ m9 ih_9 =>
    intro i u2_3 s1 hm_9 hv_9
    obtain ⟨hF, hT, hrd, k, hk, hGD, hRD, hI, hG, hC, hH, hJ⟩ := hv_9
    obtain ⟨⟨hb, hs, hm, hw⟩, hrc, hr9⟩ := id hRD
    have tk5 : s1 2 5 = tkc b n m (hps b n m p k) := hrc.1
    have tk7 : tkc b n m (hps b n m p k) = 301 → s1 2 7 = tkv b n m (hps b n m p k) ∧ 0 ≤ tkv b n m (hps b n m p k) ∧ tkv b n m (hps b n m p k) < 1000 := hrc.2.1
    have tk8 : tkc b n m (hps b n m p k) = 300 → WP (s1 2 8) (tkw b n m (hps b n m p k)) := hrc.2.2.1
    have tk6 : s1 2 6 = tka b n m (hps b n m p k) := hrc.2.2.2.1
    have tk4 : s1 2 4 = tkp b n m (hps b n m p k) := hrc.2.2.2.2
    have h952 : s1 5 9 = σ 5 9 + (k : Nat) := (congrFun hG 9).trans up_s
    have h953 : 0 ≤ s1 5 8 ∧ s1 5 8 ≤ s1 5 9 ∧ s1 5 9 ≤ 52 := hT.1.1.2.2.1
    have h954 : 0 ≤ σ 5 9 := h0u
    refine hX 400 9 _ _ ?_
    -- the loop
    have lp_32 : ∀ (_ : Unit), (i ≤ 52 ∧ (i = 0 ∨ tkc b n m (hps b n m p k) = 301)) → X 32 [xvr 0, xvr 5, xvi i, u2_3] s1 := by
      intro _ hv_32
      refine hX 400 32 _ _ ?_
      have hk0 : 0 ≤ s1 5 0 ∧ s1 5 0 ≤ 13 := hT.1.1.1
      have hk1 : s1 5 0 = σ 5 0 := (congrFun hG 0).trans (up_n (by decide))
      intro v4 e4 l4 h4
      have e4 : v4 = s1 5 0 := e4
      intro z5 t5 e5 l5 h5
      try have w5 : t5 = 0 := by omega
      refine xMVf (sh := shT) (ci := 6) (τ := [2, 3, 4]) (E := xT kX6_isNumber) (t := 2) (r := [xvi 0, xvi z5]) (σ := s1) rfl rfl (fun Q6 hQ6 => sX6_isNumberF (σ := xsel [2, 3, 4] s1) (least := 0) (greatest := z5) (show s1 2 9 = 0 from by omega) (fun r6 ς6 f6 p6 => hQ6 _ _ ?_))
      have hb : (xbk [2, 3, 4] s1 ς6) 4 = b := (f6.1 2 (by decide) (by decide)).trans hb
      have hw : WDS ((xbk [2, 3, 4] s1 ς6) 3) := by
        have e9 : (xbk [2, 3, 4] s1 ς6) 3 = s1 3 := f6.1 1 (by decide) (by decide)
        rw [e9]; exact hw
      have hs : (xbk [2, 3, 4] s1 ς6) 2 2 = n := (f6.2 2 (by decide)).trans (show s1 2 2 = n from by omega)
      have hm : (xbk [2, 3, 4] s1 ς6) 2 3 = m := (f6.2 3 (by decide)).trans (show s1 2 3 = m from by omega)
      have o6 : (r6 = 1 ∧ s1 2 5 = 301 ∧ 0 ≤ s1 2 7 ∧ s1 2 7 ≤ z5 ∧ (xbk [2, 3, 4] s1 ς6) 2 9 = 0) ∨ (r6 = 0 ∧ ¬ s1 2 5 = 301 ∧ (xbk [2, 3, 4] s1 ς6) 2 9 = 1 ∧ (xbk [2, 3, 4] s1 ς6) 2 10 = s1 2 6) ∨ (r6 = 0 ∧ s1 2 5 = 301 ∧ ¬ (0 ≤ s1 2 7 ∧ s1 2 7 ≤ z5) ∧ (xbk [2, 3, 4] s1 ς6) 2 9 = 2 ∧ (xbk [2, 3, 4] s1 ς6) 2 10 = s1 2 6) := p6
      replace p6 : (r6 = 1 ∧ tkc b n m (hps b n m p k) = 301 ∧ 0 ≤ tkv b n m (hps b n m p k) ∧ tkv b n m (hps b n m p k) ≤ z5 ∧ (xbk [2, 3, 4] s1 ς6) 2 9 = 0) ∨ (r6 = 0 ∧ ¬ tkc b n m (hps b n m p k) = 301 ∧ (xbk [2, 3, 4] s1 ς6) 2 9 = 1 ∧ (xbk [2, 3, 4] s1 ς6) 2 10 = tka b n m (hps b n m p k)) ∨ (r6 = 0 ∧ tkc b n m (hps b n m p k) = 301 ∧ ¬ (0 ≤ tkv b n m (hps b n m p k) ∧ tkv b n m (hps b n m p k) ≤ z5) ∧ (xbk [2, 3, 4] s1 ς6) 2 9 = 2 ∧ (xbk [2, 3, 4] s1 ς6) 2 10 = tka b n m (hps b n m p k)) := by
        rcases o6 with q | q | q
        · have z := tk7 (by omega); omega
        · omega
        · have z := tk7 (by omega); omega
      clear o6
      have u4 : (xbk [2, 3, 4] s1 ς6) 2 4 = s1 2 4 := f6.2 4 (by decide)
      have u5 : (xbk [2, 3, 4] s1 ς6) 2 5 = s1 2 5 := f6.2 5 (by decide)
      have u6 : (xbk [2, 3, 4] s1 ς6) 2 6 = s1 2 6 := f6.2 6 (by decide)
      have u7 : (xbk [2, 3, 4] s1 ς6) 2 7 = s1 2 7 := f6.2 7 (by decide)
      have u8 : (xbk [2, 3, 4] s1 ς6) 2 8 = s1 2 8 := f6.2 8 (by decide)
      have uq6 : (xbk [2, 3, 4] s1 ς6) 2 4 = s1 2 4 := u4
      have tk5 := u5.trans tk5; replace tk6 := u6.trans tk6; replace tk4 := u4.trans tk4
      replace tk7 : tkc b n m (hps b n m p k) = 301 → (xbk [2, 3, 4] s1 ς6) 2 7 = tkv b n m (hps b n m p k) ∧ 0 ≤ tkv b n m (hps b n m p k) ∧ tkv b n m (hps b n m p k) < 1000 := by rw [u7]; exact tk7
      replace tk8 : tkc b n m (hps b n m p k) = 300 → WP ((xbk [2, 3, 4] s1 ς6) 2 8) (tkw b n m (hps b n m p k)) := by rw [u8]; exact tk8
      clear u4 u5 u6 u7 u8
      replace f6 : Fr [2] [] s1 (xbk [2, 3, 4] s1 ς6) := f6.bk (by decide) (by decide)
      generalize xbk [2, 3, 4] s1 ς6 = σ6 at f6 hb hw hs hm tk5 tk7 tk8 tk6 tk4 p6 uq6 ⊢
      have hF := hF.tr f6 (by decide) (by decide)
      have hT := hT.fr f6 (by decide) (by decide) (by decide) (by decide)
      replace hG := (f6.1 5 (by decide) (by decide)).trans hG
      replace hH := (f6.1 6 (by decide) (by decide)).trans hH
      replace hI := (f6.1 1 (by decide) (by decide)).trans hI
      replace hC := (f6.1 9 (by decide) (by decide)).trans hC
      replace hJ := (f6.1 7 (by decide) (by decide)).trans hJ
      refine And.intro (fun c7 => ?_) (fun c7 => ?_)
      · intro v8 e8 l8 h8
        have e8 : v8 = σ6 2 7 := e8
        refine And.intro (Nat.le_of_ble_eq_true rfl) ?_
        show xw _ _ _ _ _ _ _ _ _ _ [xvr 0, xvr 5, xvi i, xvi v8] _ _
        have yk : v8 = (tkv b n m (hps b n m p k)) := by omega
        have hi4 : 0 ≤ σ6 1 v8.toNat ∧ σ6 1 v8.toNat ≤ 4 := ⟨by have := (hT.2.1 v8.toNat (by omega)).1; have z2 : 0 ≤ gsf (σ6 7) (σ6 9) (σ6 5 8) (σ6 5 9) v8.toNat := gsf_nn hT.1.2.1 (by omega); omega, (hT.2.1 v8.toNat (by omega)).2⟩
        refine And.intro (rfl) (And.intro (⟨by omega, by omega⟩) ?_)
        intro v9 e9 l9 h9
        have e9 : v9 = σ6 1 v8.toNat := e9
        refine And.intro (fun c10 => ?_) (fun c10 => ?_)
        · have hne : ¬ hpl b n m p (σ 1) k (tkv b n m (hps b n m p k)).toNat = 4 := by rw [← hI, ← yk]; omega
          refine And.intro (rfl) (And.intro (⟨by omega, by omega⟩) ?_)
          intro v11 e11 l11 h11
          have e11 : v11 = σ6 1 v8.toNat := e11
          intro z12 t12 e12 l12 h12
          try have w12 : t12 = 0 := by omega
          refine And.intro (rfl) (And.intro (⟨by omega, by omega⟩) ?_)
          have hF := hF.pt (t := 1) (j := v8.toNat) (v := z12) (by decide) (by decide)
          have hE1 : (xput σ6 1 v8.toNat z12) 1 = up (σ6 1) v8.toNat (σ6 1 v8.toNat + 1) := by
            show xput σ6 1 v8.toNat z12 1 = _
            rw [xput_up, show z12 = σ6 1 v8.toNat + 1 from by omega]
          have g0 : σ6 5 0 = σ 5 0 := (congrFun hG 0).trans (up_n (by decide))
          have g8 : σ6 5 8 = 0 := ((congrFun hG 8).trans (up_n (by decide))).trans hp3
          have g9 : σ6 5 9 = σ 5 9 + (k : Nat) := (congrFun hG 9).trans up_s
          have h51 := hT.h51 g8 (kd := v8.toNat) (by omega) (by omega)
          have h50 : 0 ≤ σ6 5 9 := by have := hT.1.1.2.2.1; have z : 0 ≤ σ6 5 8 ∧ σ6 5 8 ≤ σ6 5 9 ∧ σ6 5 9 ≤ 52 := this; omega
          refine xMVf (sh := shT) (ci := 2) (τ := [5, 6, 7, 8, 9, 10, 11, 12, 13, 14, 15, 16, 17]) (E := xT kX2_addToHeap) (t := 5) (r := [xvi v8]) (σ := (xput σ6 1 v8.toNat z12)) rfl rfl (fun Q14 hQ14 => sX2_addToHeapF (σ := xsel [5, 6, 7, 8, 9, 10, 11, 12, 13, 14, 15, 16, 17] (xput σ6 1 v8.toNat z12)) (kind := v8) (show 0 ≤ σ6 5 9 ∧ σ6 5 9 ≤ 51 from ⟨h50, h51⟩) (fun ς14 f14 p14 => hQ14 _ _ ?_))
          have q14 : (xbk [5, 6, 7, 8, 9, 10, 11, 12, 13, 14, 15, 16, 17] (xput σ6 1 v8.toNat z12) ς14) 5 = up (σ6 5) 9 (σ6 5 9 + 1) ∧ (xbk [5, 6, 7, 8, 9, 10, 11, 12, 13, 14, 15, 16, 17] (xput σ6 1 v8.toNat z12) ς14) 9 = up (σ6 9) (σ6 5 9).toNat v8 := p14
          replace f14 : Fr [5, 9] [] (xput σ6 1 v8.toNat z12) (xbk [5, 6, 7, 8, 9, 10, 11, 12, 13, 14, 15, 16, 17] (xput σ6 1 v8.toNat z12) ς14) := f14.bk (by decide) (by decide)
          generalize xbk [5, 6, 7, 8, 9, 10, 11, 12, 13, 14, 15, 16, 17] (xput σ6 1 v8.toNat z12) ς14 = σ14 at f14 q14 ⊢
          clear p14
          have hF := hF.tr f14 (by decide) (by decide)
          have k0 : σ14 5 0 = σ6 5 0 := by rw [q14.1]; exact up_n (by decide)
          have k1 : σ14 5 1 = σ6 5 1 := by rw [q14.1]; exact up_n (by decide)
          have k2 : σ14 5 2 = σ6 5 2 := by rw [q14.1]; exact up_n (by decide)
          have k8 : σ14 5 8 = σ6 5 8 := by rw [q14.1]; exact up_n (by decide)
          have k9 : σ14 5 9 = σ6 5 9 + 1 := by rw [q14.1]; exact up_s
          have hT := hT.heap (kind := v8) (by omega) (by omega) ((f14.1 1 (by decide) (by decide)).trans hE1) (f14.1 7 (by decide) (by decide)) (Or.inl ⟨by omega, k9, q14.2⟩) k0 k1 k2 k8 (by omega)
          replace hI : σ14 1 = hpl b n m p (σ 1) (k + 1) := by rw [f14.1 1 (by decide) (by decide), hE1, hI, yk]; rfl
          replace hC : σ14 9 = hhp b n m p (σ 9) (σ 5 9) (k + 1) := by rw [q14.2, hC, g9, yk]; rfl
          replace hG : σ14 5 = up (σ 5) 9 (σ 5 9 + ((k + 1 : Nat) : Int)) := by rw [q14.1, g9, hG, up_up, show σ 5 9 + (k : Int) + 1 = σ 5 9 + ((k + 1 : Nat) : Int) from by omega]
          replace hH : σ14 6 = σ 6 := (f14.1 6 (by decide) (by decide)).trans hH
          replace hJ : σ14 7 = σ 7 := (f14.1 7 (by decide) (by decide)).trans hJ
          have y2 : σ14 2 = σ6 2 := f14.1 2 (by decide) (by decide)
          have y3 : σ14 3 = σ6 3 := f14.1 3 (by decide) (by decide)
          have y4 : σ14 4 = σ6 4 := f14.1 4 (by decide) (by decide)
          replace hb : σ14 4 = b := y4.trans hb
          replace hw : WDS (σ14 3) := by rw [y3]; exact hw
          replace hs : σ14 2 2 = n := (congrFun y2 2).trans hs
          replace hm : σ14 2 3 = m := (congrFun y2 3).trans hm
          have tk5 := (congrFun y2 5).trans tk5
          replace tk6 := (congrFun y2 6).trans tk6
          replace tk4 := (congrFun y2 4).trans tk4
          replace hr9 : σ14 2 9 = 0 := (congrFun y2 9).trans (show σ6 2 9 = 0 from by omega)
          have uy := congrFun y2 4
          clear y2 y3 y4 tk7 tk8
          refine xMVf (sh := shT) (ci := 6) (τ := [2, 3, 4]) (E := xT kX6_advance) (t := 2) (r := []) (σ := σ14) rfl rfl (fun Q15 hQ15 => sX6_adv (σ := xsel [2, 3, 4] σ14) (b := b) (n := n) (m := m) (p := (tkp b n m (hps b n m p k))) (show 0 ≤ σ14 2 4 ∧ σ14 2 4 ≤ σ14 2 2 ∧ σ14 2 2 ≤ 940 from by omega) hb (show σ14 2 2 = n from by omega) (show σ14 2 3 = m from by omega) (show σ14 2 4 = (tkp b n m (hps b n m p k)) from by omega) hw (fun ς15 f15 p15 => hQ15 _ _ ?_))
          have hb : (xbk [2, 3, 4] σ14 ς15) 4 = b := (f15.1 2 (by decide) (by decide)).trans hb
          have hw : WDS ((xbk [2, 3, 4] σ14 ς15) 3) := by
            have e9 : (xbk [2, 3, 4] σ14 ς15) 3 = σ14 3 := f15.1 1 (by decide) (by decide)
            rw [e9]; exact hw
          have hs : (xbk [2, 3, 4] σ14 ς15) 2 2 = n := (f15.2 2 (by decide)).trans (show σ14 2 2 = n from by omega)
          have hm : (xbk [2, 3, 4] σ14 ς15) 2 3 = m := (f15.2 3 (by decide)).trans (show σ14 2 3 = m from by omega)
          have tk5 : (xbk [2, 3, 4] σ14 ς15) 2 5 = tkc b n m (tkp b n m (hps b n m p k)) := p15.2.1
          have tk7 : tkc b n m (tkp b n m (hps b n m p k)) = 301 → (xbk [2, 3, 4] σ14 ς15) 2 7 = tkv b n m (tkp b n m (hps b n m p k)) ∧ 0 ≤ tkv b n m (tkp b n m (hps b n m p k)) ∧ tkv b n m (tkp b n m (hps b n m p k)) < 1000 := p15.2.2.1
          have tk8 : tkc b n m (tkp b n m (hps b n m p k)) = 300 → WP ((xbk [2, 3, 4] σ14 ς15) 2 8) (tkw b n m (tkp b n m (hps b n m p k))) := p15.2.2.2.1
          have tk6 : (xbk [2, 3, 4] σ14 ς15) 2 6 = tka b n m (tkp b n m (hps b n m p k)) := p15.2.2.2.2.1
          have tk4 : (xbk [2, 3, 4] σ14 ς15) 2 4 = tkp b n m (tkp b n m (hps b n m p k)) := p15.2.2.2.2.2
          have hr9 : (xbk [2, 3, 4] σ14 ς15) 2 9 = 0 := (f15.2 9 (by decide)).trans (show σ14 2 9 = 0 from by omega)
          replace p15 : 0 ≤ (xbk [2, 3, 4] σ14 ς15) 2 4 ∧ (xbk [2, 3, 4] σ14 ς15) 2 4 ≤ n := p15.1
          replace f15 : Fr [2] [] σ14 (xbk [2, 3, 4] σ14 ς15) := f15.bk (by decide) (by decide)
          generalize xbk [2, 3, 4] σ14 ς15 = σ15 at f15 hb hw hs hm tk5 tk7 tk8 tk6 tk4 hr9 p15 ⊢
          have hF := hF.tr f15 (by decide) (by decide)
          have hT := hT.fr f15 (by decide) (by decide) (by decide) (by decide)
          replace hG := (f15.1 5 (by decide) (by decide)).trans hG
          replace hH := (f15.1 6 (by decide) (by decide)).trans hH
          replace hI := (f15.1 1 (by decide) (by decide)).trans hI
          replace hC := (f15.1 9 (by decide) (by decide)).trans hC
          replace hJ := (f15.1 7 (by decide) (by decide)).trans hJ
          intro z16 t16 e16 l16 h16
          try have w16 : t16 = 0 := by omega
          show xw _ _ _ _ _ _ _ _ _ _ [xvr 0, xvr 5, xvi z16, xvi v8] _ _
          exact ih_9 _ (show (53 - z16).toNat < m9 from by omega) z16 (xvi v8) σ15 rfl ⟨hF, hT, (show 0 ≤ σ15 2 4 ∧ σ15 2 4 ≤ σ15 2 2 ∧ σ15 2 2 ≤ 940 from by omega), k + 1, by omega, hGD.s ⟨by omega, by omega, hne⟩, ⟨⟨hb, hs, hm, hw⟩, ⟨tk5, tk7, tk8, tk6, tk4⟩, hr9⟩, hI, hG, hC, hH, hJ⟩
        · have hfour : hpl b n m p (σ 1) k (tkv b n m (hps b n m p k)).toNat = 4 := by rw [← hI, ← yk]; omega
          refine xMVf (sh := shT) (ci := 6) (τ := [2, 3, 4]) (E := xT kX6_fail) (t := 2) (r := [xvi 5]) (σ := σ6) rfl rfl (fun Q17 hQ17 => sX6_failF (σ := xsel [2, 3, 4] σ6) (kind := 5) (show σ6 2 9 = 0 from by omega) (fun r17 ς17 f17 p17 => hQ17 _ _ ?_))
          have hb : (xbk [2, 3, 4] σ6 ς17) 4 = b := (f17.1 2 (by decide) (by decide)).trans hb
          have hw : WDS ((xbk [2, 3, 4] σ6 ς17) 3) := by
            have e9 : (xbk [2, 3, 4] σ6 ς17) 3 = σ6 3 := f17.1 1 (by decide) (by decide)
            rw [e9]; exact hw
          have hs : (xbk [2, 3, 4] σ6 ς17) 2 2 = n := (f17.2 2 (by decide)).trans (show σ6 2 2 = n from by omega)
          have hm : (xbk [2, 3, 4] σ6 ς17) 2 3 = m := (f17.2 3 (by decide)).trans (show σ6 2 3 = m from by omega)
          replace p17 : r17 = 0 ∧ (xbk [2, 3, 4] σ6 ς17) 2 9 = 5 ∧ (xbk [2, 3, 4] σ6 ς17) 2 10 = tka b n m (hps b n m p k) := ⟨p17.1, p17.2.1, p17.2.2.trans (show σ6 2 6 = _ from by omega)⟩
          have u4 : (xbk [2, 3, 4] σ6 ς17) 2 4 = σ6 2 4 := f17.2 4 (by decide)
          have u5 : (xbk [2, 3, 4] σ6 ς17) 2 5 = σ6 2 5 := f17.2 5 (by decide)
          have u6 : (xbk [2, 3, 4] σ6 ς17) 2 6 = σ6 2 6 := f17.2 6 (by decide)
          have u7 : (xbk [2, 3, 4] σ6 ς17) 2 7 = σ6 2 7 := f17.2 7 (by decide)
          have u8 : (xbk [2, 3, 4] σ6 ς17) 2 8 = σ6 2 8 := f17.2 8 (by decide)
          have uq17 : (xbk [2, 3, 4] σ6 ς17) 2 4 = σ6 2 4 := u4
          have tk5 := u5.trans tk5; replace tk6 := u6.trans tk6; replace tk4 := u4.trans tk4
          replace tk7 : tkc b n m (hps b n m p k) = 301 → (xbk [2, 3, 4] σ6 ς17) 2 7 = tkv b n m (hps b n m p k) ∧ 0 ≤ tkv b n m (hps b n m p k) ∧ tkv b n m (hps b n m p k) < 1000 := by rw [u7]; exact tk7
          replace tk8 : tkc b n m (hps b n m p k) = 300 → WP ((xbk [2, 3, 4] σ6 ς17) 2 8) (tkw b n m (hps b n m p k)) := by rw [u8]; exact tk8
          clear u4 u5 u6 u7 u8
          replace f17 : Fr [2] [] σ6 (xbk [2, 3, 4] σ6 ς17) := f17.bk (by decide) (by decide)
          generalize xbk [2, 3, 4] σ6 ς17 = σ17 at f17 hb hw hs hm tk5 tk7 tk8 tk6 tk4 p17 uq17 ⊢
          have hF := hF.tr f17 (by decide) (by decide)
          have hT := hT.fr f17 (by decide) (by decide) (by decide) (by decide)
          replace hG := (f17.1 5 (by decide) (by decide)).trans hG
          replace hH := (f17.1 6 (by decide) (by decide)).trans hH
          replace hI := (f17.1 1 (by decide) (by decide)).trans hI
          replace hC := (f17.1 9 (by decide) (by decide)).trans hC
          replace hJ := (f17.1 7 (by decide) (by decide)).trans hJ
          refine And.intro rfl ?_
          refine And.intro (by omega) ?_
          exact hQ _ _ hF ⟨hT, (show 0 ≤ σ17 2 4 ∧ σ17 2 4 ≤ σ17 2 2 ∧ σ17 2 2 ≤ 940 from by omega), by omega, k, hGD, (show (k = 0 ∧ ¬ tkc b n m (hps b n m p k) = 301 ∧ r17 = 0 ∧ (σ17 2 9) = 1 ∧ (σ17 2 10) = tka b n m (hps b n m p k)) ∨ (tkc b n m (hps b n m p k) = 301 ∧ ¬ tkv b n m (hps b n m p k) < σ 5 0 ∧ r17 = 0 ∧ (σ17 2 9) = 2 ∧ (σ17 2 10) = tka b n m (hps b n m p k)) ∨ (tkc b n m (hps b n m p k) = 301 ∧ tkv b n m (hps b n m p k) < σ 5 0 ∧ hpl b n m p (σ 1) k (tkv b n m (hps b n m p k)).toNat = 4 ∧ r17 = 0 ∧ (σ17 2 9) = 5 ∧ (σ17 2 10) = tka b n m (hps b n m p k)) ∨ (0 < k ∧ ¬ tkc b n m (hps b n m p k) = 301 ∧ r17 = 1) from by omega), fun hr => absurd hr (by omega)⟩
      · refine And.intro rfl ?_
        refine And.intro (by omega) ?_
        exact hQ _ _ hF ⟨hT, (show 0 ≤ σ6 2 4 ∧ σ6 2 4 ≤ σ6 2 2 ∧ σ6 2 2 ≤ 940 from by omega), by omega, k, hGD, (show (k = 0 ∧ ¬ tkc b n m (hps b n m p k) = 301 ∧ 0 = 0 ∧ (σ6 2 9) = 1 ∧ (σ6 2 10) = tka b n m (hps b n m p k)) ∨ (tkc b n m (hps b n m p k) = 301 ∧ ¬ tkv b n m (hps b n m p k) < σ 5 0 ∧ 0 = 0 ∧ (σ6 2 9) = 2 ∧ (σ6 2 10) = tka b n m (hps b n m p k)) ∨ (tkc b n m (hps b n m p k) = 301 ∧ tkv b n m (hps b n m p k) < σ 5 0 ∧ hpl b n m p (σ 1) k (tkv b n m (hps b n m p k)).toNat = 4 ∧ 0 = 0 ∧ (σ6 2 9) = 5 ∧ (σ6 2 10) = tka b n m (hps b n m p k)) ∨ (0 < k ∧ ¬ tkc b n m (hps b n m p k) = 301 ∧ 0 = 1) from by omega), fun hr => absurd hr (by omega)⟩
    have lp_106 : ∀ (_ : Unit), (0 < i ∧ ¬ tkc b n m (hps b n m p k) = 301) → X 106 [xvr 0, xvr 5, xvi i, u2_3] s1 := by
      intro _ hv_106
      refine hX 400 106 _ _ ?_
      refine And.intro rfl ?_
      refine And.intro (by omega) ?_
      exact hQ _ _ hF ⟨hT, (show 0 ≤ s1 2 4 ∧ s1 2 4 ≤ s1 2 2 ∧ s1 2 2 ≤ 940 from by omega), by omega, k, hGD, (show (k = 0 ∧ ¬ tkc b n m (hps b n m p k) = 301 ∧ 1 = 0 ∧ (s1 2 9) = 1 ∧ (s1 2 10) = tka b n m (hps b n m p k)) ∨ (tkc b n m (hps b n m p k) = 301 ∧ ¬ tkv b n m (hps b n m p k) < σ 5 0 ∧ 1 = 0 ∧ (s1 2 9) = 2 ∧ (s1 2 10) = tka b n m (hps b n m p k)) ∨ (tkc b n m (hps b n m p k) = 301 ∧ tkv b n m (hps b n m p k) < σ 5 0 ∧ hpl b n m p (σ 1) k (tkv b n m (hps b n m p k)).toNat = 4 ∧ 1 = 0 ∧ (s1 2 9) = 5 ∧ (s1 2 10) = tka b n m (hps b n m p k)) ∨ (0 < k ∧ ¬ tkc b n m (hps b n m p k) = 301 ∧ 1 = 1) from by omega), fun _ => ⟨⟨⟨hb, hs, hm, hw⟩, ⟨tk5, tk7, tk8, tk6, tk4⟩, hr9⟩, hI, hG, hC, hH, hJ⟩⟩
    refine And.intro (fun c19 => ?_) (fun c19 => ?_)
    · exact lp_106 () (show 0 < i ∧ ¬ tkc b n m (hps b n m p k) = 301 from by first | trivial | omega | (refine ⟨by assumption, ?_⟩; omega) | (refine ⟨?_, ?_⟩ <;> omega))
    · refine And.intro (fun c20 => ?_) (fun c20 => ?_)
      · exact lp_32 () (show i ≤ 52 ∧ (i = 0 ∨ tkc b n m (hps b n m p k) = 301) from by first | trivial | omega | (refine ⟨by assumption, ?_⟩; omega) | (refine ⟨?_, ?_⟩ <;> omega))
      · refine xMVp (sh := shT) (ci := 6) (τ := [2, 3, 4]) (E := xT kX6_isAt) (t := 2) (r := [xvi 301]) (σ := s1) rfl rfl xbk_sel (fun Q21 hQ21 => sX6_isAt (σ := xsel [2, 3, 4] s1) (wanted := 301)  (fun r21 p21 => hQ21 _ ?_))
        have p21 : (r21 = 1 ∧ (s1 2 5) = 301) ∨ (r21 = 0 ∧ ¬ (s1 2 5) = 301) := p21
        refine And.intro (fun c22 => ?_) (fun c22 => ?_)
        · replace p21 : ¬ (s1 2 5) = 301 := by
            rcases p21 with q | q
            · exact absurd q.1 (by omega)
            · exact q.2
          exact lp_106 () (show 0 < i ∧ ¬ tkc b n m (hps b n m p k) = 301 from by first | trivial | omega | (refine ⟨by assumption, ?_⟩; omega) | (refine ⟨?_, ?_⟩ <;> omega))
        · replace p21 : (s1 2 5) = 301 := by
            rcases p21 with q | q
            · exact q.2
            · exact absurd q.1 (by omega)
          exact lp_32 () (show i ≤ 52 ∧ (i = 0 ∨ tkc b n m (hps b n m p k) = 301) from by first | trivial | omega | (refine ⟨by assumption, ?_⟩; omega) | (refine ⟨?_, ?_⟩ <;> omega))
  exact lp_9 _ 0 (xvu) σ1 rfl ⟨hF, hT, (show 0 ≤ σ1 2 4 ∧ σ1 2 4 ≤ σ1 2 2 ∧ σ1 2 2 ≤ 940 from by omega), 0, by omega, HGD.z, ⟨⟨hb, hs, hm, hw⟩, ⟨tk5, tk7, tk8, tk6, tk4⟩, hr9⟩, hI, hG.trans up_id0.symm, hC, hH, hJ⟩

