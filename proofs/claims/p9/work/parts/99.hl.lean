theorem cd_o2 {f g : Nat → Int} {p : Nat} (hp : p < 6) (e : ∀ i, 60 + 13 * p ≤ i → i < 60 + 13 * p + 13 → g i = f i) : cd g p = cd f p := sm_congr (fun i hi => e _ (by omega) (by omega))
set_option maxHeartbeats 4000000 in
set_option maxRecDepth 100000 in
theorem sX2_giveG {f : Nat → Int} {σ : xS} {p q kind : Int} {Q : Option xV → xS → Prop} (hp0 : GR σ f) (hp1 : VX f) (hp2 : 0 ≤ p ∧ p ≤ 5) (hp3 : 0 ≤ q ∧ q ≤ 5) (hp4 : 0 ≤ kind ∧ kind ≤ 12) (hp5 : p < f 1) (hp6 : ¬ p = q) (hp7 : σ 13 3 = f (60 + 13 * q.toNat + kind.toNat)) (hp8 : 0 < f (60 + 13 * q.toNat + kind.toNat)) (hQ : ∀ r : Int, ∀ σ' : xS, Fr [2, 3, 5, 7, 9, 10, 11, 12, 13] [16] σ σ' → (GR σ' (booksF (gvI f p.toNat q.toNat kind.toNat) p.toNat kind.toNat) ∧ r = p ∧ σ' 13 5 = lyX (σ 13 5) (gvI f p.toNat q.toNat kind.toNat) p.toNat kind.toNat ∧ ∀ j, j ≠ 5 → σ' 13 j = σ 13 j) → Q (some (xvi r)) σ') : xT kX2_give [xvr 0, xvi p, xvi q, xvi kind, xvr 13] σ Q := by
  refine ⟨Nat.le_of_ble_eq_true rfl, fun X hX => ?_⟩
  show X 0 [xvr 0, xvi p, xvi q, xvi kind, xvr 13, xvu, xvu] σ
  have hF : Fr [2, 3, 5, 7, 9, 10, 11, 12, 13] [16] σ σ := Fr.rf
  refine hX 400 0 _ _ ?_
  obtain ⟨hkq, h4q⟩ := kn_r hp1.1 (p := q.toNat) (k := kind.toNat) (by omega) (by omega)
  refine And.intro (rfl) (And.intro (⟨by omega, by omega⟩) ?_)
  intro v1 e1 l1 h1
  have e1 : v1 = σ 13 3 := e1
  refine And.intro (Nat.le_of_ble_eq_true rfl) ?_
  show xw _ _ _ _ _ _ _ _ _ _ [xvr 0, xvi p, xvi q, xvi kind, xvr 13, xvi v1, xvu] _ _
  refine xMVp (sh := shH) (ci := 3) (τ := [0, 1, 2, 3, 4, 5, 6, 7, 8, 9, 10, 11, 12]) (E := xT kX3_sureOf) (t := 9) (r := [xvi q, xvi kind]) (σ := σ) rfl rfl xbk_sel (fun Q2 hQ2 => sX3_sureOf (σ := xsel [0, 1, 2, 3, 4, 5, 6, 7, 8, 9, 10, 11, 12] σ) (p := q) (kind := kind) hp3 hp4 (fun r2 p2 => hQ2 _ ?_))
  have p2 : r2 = σ 10 (13 * q + kind).toNat := p2
  rw [hp0.vk hp3 hp4] at p2
  refine And.intro (Nat.le_of_ble_eq_true rfl) ?_
  show xw _ _ _ _ _ _ _ _ _ _ [xvr 0, xvi p, xvi q, xvi kind, xvr 13, xvi v1, xvi r2] _ _
  have lp_17 : ∀ (m17 : Nat) (i : Int) (s1 : xS), ((5 - i).toNat) = m17 → (Fr [2, 3, 5, 7, 9, 10, 11, 12, 13] [16] σ s1 ∧ Fr [9, 10, 11, 12] [] σ s1 ∧ GR s1 (itL f q.toNat kind (i - f (151 + 13 * q.toNat + kind.toNat)).toNat) ∧ (f (151 + 13 * q.toNat + kind.toNat) ≤ i ∧ i ≤ f (60 + 13 * q.toNat + kind.toNat))) → X 17 [xvr 0, xvi p, xvi q, xvi kind, xvr 13, xvi v1, xvi i] s1 := by
    intro m17
    induction m17 using Nat.strongRecOn with
    | _ m17 ih_17 =>
    intro i s1 hm_17 hv_17
    obtain ⟨hF, hZ, hG, hv_17⟩ := hv_17
    refine hX 400 17 _ _ ?_
    refine And.intro (fun c4 => ?_) (fun c4 => ?_)
    · replace hZ : Fr [2, 3, 9, 10, 11, 12] [] σ s1 := Fr.rf.tr hZ (by decide) (by decide)
      replace hG : GR s1 (itL f q.toNat kind (f (60 + 13 * q.toNat + kind.toNat) - f (151 + 13 * q.toNat + kind.toNat)).toNat) := by rw [show f (60 + 13 * q.toNat + kind.toNat) - f (151 + 13 * q.toNat + kind.toNat) = i - f (151 + 13 * q.toNat + kind.toNat) from by omega]; exact hG
      obtain ⟨vX, vk, vh, vo, vq⟩ := itL_v (kind := kind) hp1 (k := q.toNat) (by omega) hp4 (f (60 + 13 * q.toNat + kind.toNat) - f (151 + 13 * q.toNat + kind.toNat)).toNat (show f (151 + 13 * q.toNat + kind.toNat) + ((f (60 + 13 * q.toNat + kind.toNat) - f (151 + 13 * q.toNat + kind.toNat)).toNat : Int) ≤ f (60 + 13 * q.toNat + kind.toNat) from by omega)
      unfold kn at vk vo
      unfold hd at vh
      have vh1 := vh q.toNat kind.toNat (by omega) (by omega)
      have vh2 := vh p.toNat kind.toNat (by omega) (by omega)
      have v52q := vX.1.cd52 (p := q.toNat) (by omega)
      have v52p := vX.1.cd52 (p := p.toNat) (by omega)
      have krp := kn_r vX.1 (p := p.toNat) (k := kind.toNat) (by omega) (by omega)
      have vw := vX.1.w q.toNat (by omega)
      have hgi : gvI f p.toNat q.toNat kind.toNat = gvF (itL f q.toNat kind (f (60 + 13 * q.toNat + kind.toNat) - f (151 + 13 * q.toNat + kind.toNat)).toNat) p.toNat q.toNat kind.toNat (f (60 + 13 * q.toNat + kind.toNat)) := by unfold gvI; rw [show ((kind.toNat : Nat) : Int) = kind from by omega]
      have q1 := vq 1 (by omega)
      generalize hg0 : (itL f q.toNat kind (f (60 + 13 * q.toNat + kind.toNat) - f (151 + 13 * q.toNat + kind.toNat)).toNat) = g at *
      have hgv : f (60 + 13 * q.toNat + kind.toNat) = g (60 + 13 * q.toNat + kind.toNat) := vh1.symm
      refine xMVf (sh := shH) (ci := 3) (τ := [0, 1, 2, 3, 4, 5, 6, 7, 8, 9, 10, 11, 12]) (E := xT kX3_setSure) (t := 9) (r := [xvi q, xvi kind, xvi 0]) (σ := s1) rfl rfl (fun Q5 hQ5 => sX3_setSureG (σ := xsel [0, 1, 2, 3, 4, 5, 6, 7, 8, 9, 10, 11, 12] s1) (f := g) (p := q) (kind := kind) (cards := 0) hp3 hp4 hG.sel (fun ς5 f5 p5 => hQ5 _ _ ?_))
      replace f5 : Fr [10] [] s1 (xbk [0, 1, 2, 3, 4, 5, 6, 7, 8, 9, 10, 11, 12] s1 ς5) := f5.bk0 (by decide) (by decide) (by decide)
      replace p5 : GR (xbk [0, 1, 2, 3, 4, 5, 6, 7, 8, 9, 10, 11, 12] s1 ς5) (up g (151 + 13 * q.toNat + kind.toNat) 0) := p5.bk
      generalize xbk [0, 1, 2, 3, 4, 5, 6, 7, 8, 9, 10, 11, 12] s1 ς5 = σ5 at f5 p5 ⊢
      have hF := hF.tr f5 (by decide) (by decide)
      have hG := p5
      have hZ := hZ.tr f5 (by decide) (by decide)
      refine xMVf (sh := shH) (ci := 3) (τ := [0, 1, 2, 3, 4, 5, 6, 7, 8, 9, 10, 11, 12]) (E := xT kX3_barAll) (t := 9) (r := [xvi q, xvi kind]) (σ := σ5) rfl rfl (fun Q6 hQ6 => sX3_barAllG (σ := xsel [0, 1, 2, 3, 4, 5, 6, 7, 8, 9, 10, 11, 12] σ5) (f := up g (151 + 13 * q.toNat + kind.toNat) 0) (p := q) (kind := kind) hp3 hp4 hG.sel (fun ς6 f6 p6 => hQ6 _ _ ?_))
      replace f6 : Fr [11] [] σ5 (xbk [0, 1, 2, 3, 4, 5, 6, 7, 8, 9, 10, 11, 12] σ5 ς6) := f6.bk0 (by decide) (by decide) (by decide)
      replace p6 : GR (xbk [0, 1, 2, 3, 4, 5, 6, 7, 8, 9, 10, 11, 12] σ5 ς6) (barsF (up g (151 + 13 * q.toNat + kind.toNat) 0) q.toNat (fun m => orF m kind)) := p6.bk
      generalize xbk [0, 1, 2, 3, 4, 5, 6, 7, 8, 9, 10, 11, 12] σ5 ς6 = σ6 at f6 p6 ⊢
      have hF := hF.tr f6 (by decide) (by decide)
      have hG := p6
      have hZ := hZ.tr f6 (by decide) (by decide)
      have bo : ∀ i, i < 235 ∨ 547 ≤ i → (barsF (up g (151 + 13 * q.toNat + kind.toNat) 0) q.toNat (fun m => orF m kind)) i = up g (151 + 13 * q.toNat + kind.toNat) 0 i := fun i hi => barsF_o (by omega) (by rw [up_n (by omega)]; exact vw.2) hi
      have b1 := bo (151 + 13 * p.toNat + kind.toNat) (by omega); rw [up_n (by omega)] at b1
      have b2 := bo (60 + 13 * q.toNat + kind.toNat) (by omega); rw [up_n (by omega)] at b2
      have b3 := bo (60 + 13 * p.toNat + kind.toNat) (by omega); rw [up_n (by omega)] at b3
      have b4 := bo (559 + p.toNat) (by omega); rw [up_n (by omega)] at b4
      have bcq : cd (barsF (up g (151 + 13 * q.toNat + kind.toNat) 0) q.toNat (fun m => orF m kind)) q.toNat = cd g q.toNat := cd_o (by omega) (fun i _ _ => (bo i (by omega)).trans (up_n (by omega)))
      have bcp : cd (barsF (up g (151 + 13 * q.toNat + kind.toNat) 0) q.toNat (fun m => orF m kind)) p.toNat = cd g p.toNat := cd_o (by omega) (fun i _ _ => (bo i (by omega)).trans (up_n (by omega)))
      generalize hB : (barsF (up g (151 + 13 * q.toNat + kind.toNat) 0) q.toNat (fun m => orF m kind)) = B at *
      refine xMVp (sh := shH) (ci := 3) (τ := [0, 1, 2, 3, 4, 5, 6, 7, 8, 9, 10, 11, 12]) (E := xT kX3_sureOf) (t := 9) (r := [xvi p, xvi kind]) (σ := σ6) rfl rfl xbk_sel (fun Q7 hQ7 => sX3_sureOf (σ := xsel [0, 1, 2, 3, 4, 5, 6, 7, 8, 9, 10, 11, 12] σ6) (p := p) (kind := kind) hp2 hp4 (fun r7 p7 => hQ7 _ ?_))
      have p7 : r7 = σ6 10 (13 * p + kind).toNat := p7
      rw [hG.vk hp2 hp4, b1] at p7
      intro z8 t8 e8 l8 h8
      try have w8 : t8 = 0 := by omega
      refine xMVf (sh := shH) (ci := 3) (τ := [0, 1, 2, 3, 4, 5, 6, 7, 8, 9, 10, 11, 12]) (E := xT kX3_setSure) (t := 9) (r := [xvi p, xvi kind, xvi z8]) (σ := σ6) rfl rfl (fun Q9 hQ9 => sX3_setSureG (σ := xsel [0, 1, 2, 3, 4, 5, 6, 7, 8, 9, 10, 11, 12] σ6) (f := B) (p := p) (kind := kind) (cards := z8) hp2 hp4 hG.sel (fun ς9 f9 p9 => hQ9 _ _ ?_))
      replace f9 : Fr [10] [] σ6 (xbk [0, 1, 2, 3, 4, 5, 6, 7, 8, 9, 10, 11, 12] σ6 ς9) := f9.bk0 (by decide) (by decide) (by decide)
      replace p9 : GR (xbk [0, 1, 2, 3, 4, 5, 6, 7, 8, 9, 10, 11, 12] σ6 ς9) (up B (151 + 13 * p.toNat + kind.toNat) z8) := p9.bk
      generalize xbk [0, 1, 2, 3, 4, 5, 6, 7, 8, 9, 10, 11, 12] σ6 ς9 = σ9 at f9 p9 ⊢
      have hF := hF.tr f9 (by decide) (by decide)
      have hG : GR σ9 (up B (151 + 13 * p.toNat + kind.toNat) (g (151 + 13 * p.toNat + kind.toNat) + g (60 + 13 * q.toNat + kind.toNat))) := by rw [show g (151 + 13 * p.toNat + kind.toNat) + g (60 + 13 * q.toNat + kind.toNat) = z8 from by omega]; exact p9
      have hZ := hZ.tr f9 (by decide) (by decide)
      intro z10 t10 e10 l10 h10
      try have w10 : t10 = 0 := by omega
      have c1 : (up B (151 + 13 * p.toNat + kind.toNat) (g (151 + 13 * p.toNat + kind.toNat) + g (60 + 13 * q.toNat + kind.toNat))) (60 + 13 * q.toNat + kind.toNat) = g (60 + 13 * q.toNat + kind.toNat) := (up_n (by omega)).trans b2
      have c2 : cd (up B (151 + 13 * p.toNat + kind.toNat) (g (151 + 13 * p.toNat + kind.toNat) + g (60 + 13 * q.toNat + kind.toNat))) q.toNat = cd g q.toNat := (cd_o (by omega) (fun i _ _ => up_n (by omega))).trans bcq
      refine xMVf (sh := shH) (ci := 2) (τ := [0, 1, 2, 3, 4, 5, 6, 7, 8, 9, 10, 11, 12]) (E := xT kX2_addToHand) (t := 0) (r := [xvi q, xvi kind, xvi z10]) (σ := σ9) rfl rfl (fun Q11 hQ11 => sX2_addToHandG (σ := xsel [0, 1, 2, 3, 4, 5, 6, 7, 8, 9, 10, 11, 12] σ9) (f := (up B (151 + 13 * p.toNat + kind.toNat) (g (151 + 13 * p.toNat + kind.toNat) + g (60 + 13 * q.toNat + kind.toNat)))) (p := q) (kind := kind) (n := z10) hp3 hp4 hG.sel (by rw [c1]; omega) (by rw [c2]; omega) (fun ς11 f11 p11 => hQ11 _ _ ?_))
      replace f11 : Fr [2, 3] [] σ9 (xbk [0, 1, 2, 3, 4, 5, 6, 7, 8, 9, 10, 11, 12] σ9 ς11) := f11.bk0 (by decide) (by decide) (by decide)
      replace p11 : GR (xbk [0, 1, 2, 3, 4, 5, 6, 7, 8, 9, 10, 11, 12] σ9 ς11) (up (up B (151 + 13 * p.toNat + kind.toNat) (g (151 + 13 * p.toNat + kind.toNat) + g (60 + 13 * q.toNat + kind.toNat))) (60 + 13 * q.toNat + kind.toNat) ((up B (151 + 13 * p.toNat + kind.toNat) (g (151 + 13 * p.toNat + kind.toNat) + g (60 + 13 * q.toNat + kind.toNat))) (60 + 13 * q.toNat + kind.toNat) + z10)) := p11.bk
      generalize xbk [0, 1, 2, 3, 4, 5, 6, 7, 8, 9, 10, 11, 12] σ9 ς11 = σ11 at f11 p11 ⊢
      have hF := hF.tr f11 (by decide) (by decide)
      have hG : GR σ11 (up (up B (151 + 13 * p.toNat + kind.toNat) (g (151 + 13 * p.toNat + kind.toNat) + g (60 + 13 * q.toNat + kind.toNat))) (60 + 13 * q.toNat + kind.toNat) (g (60 + 13 * q.toNat + kind.toNat) + - g (60 + 13 * q.toNat + kind.toNat))) := by rw [c1] at p11; rw [show g (60 + 13 * q.toNat + kind.toNat) + - g (60 + 13 * q.toNat + kind.toNat) = g (60 + 13 * q.toNat + kind.toNat) + z10 from by omega]; exact p11
      have hZ := hZ.tr f11 (by decide) (by decide)
      have c3 : (up (up B (151 + 13 * p.toNat + kind.toNat) (g (151 + 13 * p.toNat + kind.toNat) + g (60 + 13 * q.toNat + kind.toNat))) (60 + 13 * q.toNat + kind.toNat) (g (60 + 13 * q.toNat + kind.toNat) + - g (60 + 13 * q.toNat + kind.toNat))) (60 + 13 * p.toNat + kind.toNat) = g (60 + 13 * p.toNat + kind.toNat) := (up_n (by omega)).trans ((up_n (by omega)).trans b3)
      have c4 : cd (up (up B (151 + 13 * p.toNat + kind.toNat) (g (151 + 13 * p.toNat + kind.toNat) + g (60 + 13 * q.toNat + kind.toNat))) (60 + 13 * q.toNat + kind.toNat) (g (60 + 13 * q.toNat + kind.toNat) + - g (60 + 13 * q.toNat + kind.toNat))) p.toNat = cd g p.toNat := (cd_o2 (p := p.toNat) (by omega) (fun i a b => up_n (by omega))).trans ((cd_o (by omega) (fun i _ _ => up_n (by omega))).trans bcp)
      refine xMVf (sh := shH) (ci := 2) (τ := [0, 1, 2, 3, 4, 5, 6, 7, 8, 9, 10, 11, 12]) (E := xT kX2_addToHand) (t := 0) (r := [xvi p, xvi kind, xvi v1]) (σ := σ11) rfl rfl (fun Q12 hQ12 => sX2_addToHandG (σ := xsel [0, 1, 2, 3, 4, 5, 6, 7, 8, 9, 10, 11, 12] σ11) (f := (up (up B (151 + 13 * p.toNat + kind.toNat) (g (151 + 13 * p.toNat + kind.toNat) + g (60 + 13 * q.toNat + kind.toNat))) (60 + 13 * q.toNat + kind.toNat) (g (60 + 13 * q.toNat + kind.toNat) + - g (60 + 13 * q.toNat + kind.toNat)))) (p := p) (kind := kind) (n := v1) hp2 hp4 hG.sel (by rw [c3]; omega) (by rw [c4]; omega) (fun ς12 f12 p12 => hQ12 _ _ ?_))
      replace f12 : Fr [2, 3] [] σ11 (xbk [0, 1, 2, 3, 4, 5, 6, 7, 8, 9, 10, 11, 12] σ11 ς12) := f12.bk0 (by decide) (by decide) (by decide)
      replace p12 : GR (xbk [0, 1, 2, 3, 4, 5, 6, 7, 8, 9, 10, 11, 12] σ11 ς12) (up (up (up B (151 + 13 * p.toNat + kind.toNat) (g (151 + 13 * p.toNat + kind.toNat) + g (60 + 13 * q.toNat + kind.toNat))) (60 + 13 * q.toNat + kind.toNat) (g (60 + 13 * q.toNat + kind.toNat) + - g (60 + 13 * q.toNat + kind.toNat))) (60 + 13 * p.toNat + kind.toNat) ((up (up B (151 + 13 * p.toNat + kind.toNat) (g (151 + 13 * p.toNat + kind.toNat) + g (60 + 13 * q.toNat + kind.toNat))) (60 + 13 * q.toNat + kind.toNat) (g (60 + 13 * q.toNat + kind.toNat) + - g (60 + 13 * q.toNat + kind.toNat))) (60 + 13 * p.toNat + kind.toNat) + v1)) := p12.bk
      generalize xbk [0, 1, 2, 3, 4, 5, 6, 7, 8, 9, 10, 11, 12] σ11 ς12 = σ12 at f12 p12 ⊢
      have hF := hF.tr f12 (by decide) (by decide)
      have hG : GR σ12 (up (up (up B (151 + 13 * p.toNat + kind.toNat) (g (151 + 13 * p.toNat + kind.toNat) + g (60 + 13 * q.toNat + kind.toNat))) (60 + 13 * q.toNat + kind.toNat) (g (60 + 13 * q.toNat + kind.toNat) + - g (60 + 13 * q.toNat + kind.toNat))) (60 + 13 * p.toNat + kind.toNat) (g (60 + 13 * p.toNat + kind.toNat) + g (60 + 13 * q.toNat + kind.toNat))) := by rw [c3] at p12; rw [show g (60 + 13 * p.toNat + kind.toNat) + g (60 + 13 * q.toNat + kind.toNat) = g (60 + 13 * p.toNat + kind.toNat) + v1 from by omega]; exact p12
      have hZ := hZ.tr f12 (by decide) (by decide)
      refine And.intro (rfl) (And.intro (⟨by omega, by omega⟩) ?_)
      intro v13 e13 l13 h13
      have e13 : v13 = σ12 7 p.toNat := e13
      have hgt : v13 = g (559 + p.toNat) := by
        have z := hG.1 _ _ _ _ (mp_gv (j := p.toNat) (by omega))
        rw [up_n (show 559 + p.toNat ≠ (60 + 13 * p.toNat + kind.toNat) by omega), up_n (show 559 + p.toNat ≠ (60 + 13 * q.toNat + kind.toNat) by omega), up_n (show 559 + p.toNat ≠ (151 + 13 * p.toNat + kind.toNat) by omega), b4] at z
        omega
      intro z14 t14 e14 l14 h14
      try have w14 : t14 = 0 := by omega
      refine And.intro (rfl) (And.intro (⟨by omega, by omega⟩) ?_)
      have hF := hF.pt (t := 7) (j := p.toNat) (v := z14) (by decide) (by decide)
      have hF := hF.p (j := 16) (v := 0) (by decide)
      have hG := (hG.num (mp_gv (j := p.toNat) (by omega)) (v := wr (g (559 + p.toNat) + g (60 + 13 * q.toNat + kind.toNat))) (w := z14) (by unfold wr; omega) (by decide) (by omega)).num (i := 6) (t := 0) (j := 16) (c := 0) (v := 0) (w := 0) (by decide) (by decide) (by decide) (by decide)
      have hE : up (up (up (up (up B (151 + 13 * p.toNat + kind.toNat) (g (151 + 13 * p.toNat + kind.toNat) + g (60 + 13 * q.toNat + kind.toNat))) (60 + 13 * q.toNat + kind.toNat) (g (60 + 13 * q.toNat + kind.toNat) + - g (60 + 13 * q.toNat + kind.toNat))) (60 + 13 * p.toNat + kind.toNat) (g (60 + 13 * p.toNat + kind.toNat) + g (60 + 13 * q.toNat + kind.toNat))) (559 + p.toNat) (wr (g (559 + p.toNat) + g (60 + 13 * q.toNat + kind.toNat)))) 6 0 = gvF g p.toNat q.toNat kind.toNat (f (60 + 13 * q.toNat + kind.toNat)) := by
        unfold gvF
        rw [show ((kind.toNat : Nat) : Int) = kind from by omega, hB, hgv, upx_cm (i := (151 + 13 * p.toNat + kind.toNat)) (j := (60 + 13 * q.toNat + kind.toNat)) (by omega), upx_cm (i := (151 + 13 * p.toNat + kind.toNat)) (j := (60 + 13 * p.toNat + kind.toNat)) (by omega), show g (60 + 13 * q.toNat + kind.toNat) + - g (60 + 13 * q.toNat + kind.toNat) = g (60 + 13 * q.toNat + kind.toNat) - g (60 + 13 * q.toNat + kind.toNat) from by omega]
      rw [hE] at hG
      obtain ⟨hVg, _⟩ := hp1.gi (a := p.toNat) (b := q.toNat) (kind := kind.toNat) (by omega) (by omega) (by omega) (by omega) (by omega) (by omega)
      rw [hgi] at hVg
      refine xMVf (sh := shH) (ci := 2) (τ := [0, 1, 2, 3, 4, 5, 6, 7, 8, 9, 10, 11, 12]) (E := xT kX2_layDown) (t := 0) (r := [xvi p, xvi kind]) (σ := (xput (xput σ12 7 p.toNat z14) 0 16 0)) rfl rfl (fun Q17 hQ17 => sX2_layDownG (σ := xsel [0, 1, 2, 3, 4, 5, 6, 7, 8, 9, 10, 11, 12] (xput (xput σ12 7 p.toNat z14) 0 16 0)) (f := gvF g p.toNat q.toNat kind.toNat (f (60 + 13 * q.toNat + kind.toNat))) (p := p) (kind := kind) hG.sel hVg hp2 hp4 (fun r17 ς17 f17 p17 => hQ17 _ _ ?_))
      replace f17 : Fr [2, 3, 5, 9, 10, 11, 12] [] (xput (xput σ12 7 p.toNat z14) 0 16 0) (xbk [0, 1, 2, 3, 4, 5, 6, 7, 8, 9, 10, 11, 12] (xput (xput σ12 7 p.toNat z14) 0 16 0) ς17) := f17.bk0 (by decide) (by decide) (by decide)
      replace p17 : GR (xbk [0, 1, 2, 3, 4, 5, 6, 7, 8, 9, 10, 11, 12] (xput (xput σ12 7 p.toNat z14) 0 16 0) ς17) (booksF (gvF g p.toNat q.toNat kind.toNat (f (60 + 13 * q.toNat + kind.toNat))) p.toNat kind.toNat) ∧ r17 = if (gvF g p.toNat q.toNat kind.toNat (f (60 + 13 * q.toNat + kind.toNat))) (60 + 13 * p.toNat + kind.toNat) < 4 then 0 else 1 := ⟨p17.1.bk, p17.2⟩
      generalize xbk [0, 1, 2, 3, 4, 5, 6, 7, 8, 9, 10, 11, 12] (xput (xput σ12 7 p.toNat z14) 0 16 0) ς17 = σ17 at f17 p17 ⊢
      have hF := hF.tr f17 (by decide) (by decide)
      rw [← hgi] at p17
      have hG5 := p17.1
      have hr5 := p17.2
      have x13 : ∀ j, σ17 13 j = σ 13 j := fun j => (congrFun (f17.1 13 (by decide) (by decide)) j).trans (congrFun (hZ.1 13 (by decide) (by decide)) j)
      refine And.intro (fun c18 => ?_) (fun c18 => ?_)
      · refine hX 400 126 _ _ ?_
        refine And.intro rfl ?_
        exact hQ _ _ hF ⟨hG5, rfl, by
          unfold lyX
          rw [if_pos (by omega)]
          exact x13 5, fun j _ => x13 j⟩
      · refine And.intro (rfl) (And.intro (⟨by omega, by omega⟩) ?_)
        have hF := hF.pt (t := 13) (j := 5) (v := kind) (by decide) (by decide)
        refine hX 400 126 _ _ ?_
        refine And.intro rfl ?_
        exact hQ _ _ hF ⟨hG5.fr (ts := [13]) (js := []) (Fr.rf.pt (t := 13) (j := 5) (v := kind) (by decide) (by decide)), rfl, by
          unfold lyX
          rw [if_neg (by omega)]
          show kind = _
          omega, fun j h5 => (xput_o h5).trans (x13 j)⟩
    · obtain ⟨_, vk, _⟩ := itL_v (kind := kind) hp1 (k := q.toNat) (by omega) hp4 (i - f (151 + 13 * q.toNat + kind.toNat)).toNat (show f (151 + 13 * q.toNat + kind.toNat) + ((i - f (151 + 13 * q.toNat + kind.toNat)).toNat : Int) ≤ f (60 + 13 * q.toNat + kind.toNat) from by omega)
      unfold kn at vk
      refine xMVf (sh := shH) (ci := 3) (τ := [0, 1, 2, 3, 4, 5, 6, 7, 8, 9, 10, 11, 12]) (E := xT kX3_reveal) (t := 9) (r := [xvi q, xvi kind]) (σ := s1) rfl rfl (fun Q20 hQ20 => sX3_revealG (σ := xsel [0, 1, 2, 3, 4, 5, 6, 7, 8, 9, 10, 11, 12] s1) (f := itL f q.toNat kind (i - f (151 + 13 * q.toNat + kind.toNat)).toNat) (p := q) (kind := kind) hp3 hp4 hG.sel (by omega) (fun ς20 f20 p20 => hQ20 _ _ ?_))
      replace f20 : Fr [9, 10, 11, 12] [] s1 (xbk [0, 1, 2, 3, 4, 5, 6, 7, 8, 9, 10, 11, 12] s1 ς20) := f20.bk0 (by decide) (by decide) (by decide)
      replace p20 : GR (xbk [0, 1, 2, 3, 4, 5, 6, 7, 8, 9, 10, 11, 12] s1 ς20) (learnF (itL f q.toNat kind (i - f (151 + 13 * q.toNat + kind.toNat)).toNat) q.toNat kind) := p20.bk
      generalize xbk [0, 1, 2, 3, 4, 5, 6, 7, 8, 9, 10, 11, 12] s1 ς20 = σ20 at f20 p20 ⊢
      have hF := hF.tr f20 (by decide) (by decide)
      intro z21 t21 e21 l21 h21
      try have w21 : t21 = 0 := by omega
      show xw _ _ _ _ _ _ _ _ _ _ [xvr 0, xvi p, xvi q, xvi kind, xvr 13, xvi v1, xvi z21] _ _
      exact ih_17 _ (show (5 - z21).toNat < m17 from by omega) z21 σ20 rfl ⟨hF, hZ.tr f20 (by decide) (by decide), (by rw [show (z21 - f (151 + 13 * q.toNat + kind.toNat)).toNat = (i - f (151 + 13 * q.toNat + kind.toNat)).toNat + 1 from by omega]; exact p20), by omega⟩
  exact lp_17 _ r2 σ rfl ⟨hF, Fr.rf, (by rw [show (r2 - f (151 + 13 * q.toNat + kind.toNat)).toNat = 0 from by omega]; exact hp0), by omega⟩
