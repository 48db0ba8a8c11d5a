/-! The class's Knowledge against the row. -/
theorem sX3_revealG {σ : xS} {f : Nat → Int} {p kind : Int} {Q : Option xV → xS → Prop} (hp0 : 0 ≤ p ∧ p ≤ 5) (hp1 : 0 ≤ kind ∧ kind ≤ 12) (hg : GR σ f) (hn : 0 ≤ f (151 + 13 * p.toNat + kind.toNat) ∧ f (151 + 13 * p.toNat + kind.toNat) ≤ 1000) (hQ : ∀ σ' : xS, Fr [9, 10, 11, 12] [] σ σ' → GR σ' (learnF f p.toNat kind) → Q none σ') : xT kX3_reveal [xvr 9, xvi p, xvi kind] σ Q :=
  sX3_revealF hp0 hp1 hg.n9 hg.ko (by rw [hg.vk hp0 hp1]; omega) (fun σ' hF hR => hQ σ' hF (hg.learn hp0 hp1 hF hR))
theorem sX3_addOtherG {σ : xS} {f : Nat → Int} {p : Int} {Q : Option xV → xS → Prop} (hp0 : 0 ≤ p ∧ p ≤ 5) (hp1 : σ 9 2 ≤ 51) (hg : GR σ f) (hQ : ∀ σ' : xS, Fr [9, 11] [] σ σ' → (GR σ' (addsF f p.toNat 0) ∧ σ' 9 2 = σ 9 2 + 1) → Q none σ') : xT kX3_addOther [xvr 9, xvi p] σ Q :=
  sX3_addOtherF hp0 ⟨hg.n9.1, hp1⟩ (fun σ' hF hR => hQ σ' hF ⟨hg.add hp0 hp1 hF hR, hR.1⟩)
theorem sX3_barAllG {σ : xS} {f : Nat → Int} {p kind : Int} {Q : Option xV → xS → Prop} (hp0 : 0 ≤ p ∧ p ≤ 5) (hp1 : 0 ≤ kind ∧ kind ≤ 12) (hg : GR σ f) (hQ : ∀ σ' : xS, Fr [11] [] σ σ' → GR σ' (barsF f p.toNat (fun m => orF m kind)) → Q none σ') : xT kX3_barAll [xvr 9, xvi p, xvi kind] σ Q :=
  sX3_barAllF hp0 hp1 hg.n9 hg.ko (fun σ' hF hR => hQ σ' hF (hg.bar hp0 hp1 hF hR.1))
theorem sX3_setSureG {σ : xS} {f : Nat → Int} {p kind cards : Int} {Q : Option xV → xS → Prop} (hp0 : 0 ≤ p ∧ p ≤ 5) (hp1 : 0 ≤ kind ∧ kind ≤ 12) (hg : GR σ f) (hQ : ∀ σ' : xS, Fr [10] [] σ σ' → GR σ' (up f (151 + 13 * p.toNat + kind.toNat) cards) → Q none σ') : xT kX3_setSure [xvr 9, xvi p, xvi kind, xvi cards] σ Q :=
  sX3_setSure hp0 hp1 (fun σ' hF hR => hQ σ' hF (hg.known hp0 hp1 hF hR))
set_option maxHeartbeats 4000000 in
set_option maxRecDepth 100000 in
theorem sX2_addToHandF {σ : xS} {p kind n : Int} {Q : Option xV → xS → Prop} (hp0 : 0 ≤ p ∧ p ≤ 5) (hp1 : 0 ≤ kind ∧ kind ≤ 12) (hp2 : -1000 ≤ σ 2 (13 * p + kind).toNat + n ∧ σ 2 (13 * p + kind).toNat + n ≤ 1000) (hp3 : -1000 ≤ σ 3 p.toNat + n ∧ σ 3 p.toNat + n ≤ 1000) (hQ : ∀ σ' : xS, Fr [2, 3] [] σ σ' → (σ' 2 = up (σ 2) (13 * p + kind).toNat (σ 2 (13 * p + kind).toNat + n) ∧ σ' 3 = up (σ 3) p.toNat (σ 3 p.toNat + n)) → Q none σ') : xT kX2_addToHand [xvr 0, xvi p, xvi kind, xvi n] σ Q := by
  refine ⟨Nat.le_of_ble_eq_true rfl, fun X hX => ?_⟩
  show X 0 [xvr 0, xvi p, xvi kind, xvi n] σ
  have hF : Fr [2, 3] [] σ σ := Fr.rf
  refine hX 400 0 _ _ ?_
  intro z1 t1 e1 l1 h1
  try have w1 : t1 = 0 := by omega
  intro z2 t2 e2 l2 h2
  try have w2 : t2 = 0 := by omega
  refine And.intro (rfl) (And.intro (⟨by omega, by omega⟩) ?_)
  intro v3 e3 l3 h3
  have e3 : v3 = σ 2 z2.toNat := e3
  rw [show z2 = 13 * p + kind from by omega] at e3
  intro z4 t4 e4 l4 h4
  try have w4 : t4 = 0 := by omega
  refine And.intro (rfl) (And.intro (⟨by omega, by omega⟩) ?_)
  have hF := hF.pt (t := 2) (j := z2.toNat) (v := z4) (by decide) (by decide)
  refine And.intro (rfl) (And.intro (⟨by omega, by omega⟩) ?_)
  intro v6 e6 l6 h6
  have e6 : v6 = σ 3 p.toNat := e6
  intro z7 t7 e7 l7 h7
  try have w7 : t7 = 0 := by omega
  refine And.intro (rfl) (And.intro (⟨by omega, by omega⟩) ?_)
  have hF := hF.pt (t := 3) (j := p.toNat) (v := z7) (by decide) (by decide)
  refine And.intro rfl (And.intro rfl ?_)
  exact hQ _ hF ⟨(by show xput (xput σ 2 z2.toNat z4) 3 p.toNat z7 2 = _; rw [xput_ne (by decide), xput_up, show z2 = 13 * p + kind from by omega, show z4 = σ 2 (13 * p + kind).toNat + n from by omega]), (by show xput (xput σ 2 z2.toNat z4) 3 p.toNat z7 3 = _; rw [xput_up, xput_ne (by decide), show z7 = σ 3 p.toNat + n from by omega])⟩
theorem sX2_addToHandG {σ : xS} {f : Nat → Int} {p kind n : Int} {Q : Option xV → xS → Prop} (hp0 : 0 ≤ p ∧ p ≤ 5) (hp1 : 0 ≤ kind ∧ kind ≤ 12) (hg : GR σ f) (h1 : -1000 ≤ f (60 + 13 * p.toNat + kind.toNat) + n ∧ f (60 + 13 * p.toNat + kind.toNat) + n ≤ 1000) (h2 : -1000 ≤ cd f p.toNat + n ∧ cd f p.toNat + n ≤ 1000) (hQ : ∀ σ' : xS, Fr [2, 3] [] σ σ' → GR σ' (up f (60 + 13 * p.toNat + kind.toNat) (f (60 + 13 * p.toNat + kind.toNat) + n)) → Q none σ') : xT kX2_addToHand [xvr 0, xvi p, xvi kind, xvi n] σ Q :=
  sX2_addToHandF hp0 hp1 (by rw [hg.vh hp0 hp1]; exact h1) (by rw [hg.vc hp0]; exact h2) (fun σ' hF hR => hQ σ' hF (hg.hand hp0 hp1 hF hR.1 hR.2))
theorem cd_o {f g : Nat → Int} {p : Nat} (hp : p < 6) (e : ∀ i, 60 ≤ i → i < 138 → g i = f i) : cd g p = cd f p := sm_congr (fun i hi => e _ (by omega) (by omega))
theorem kn_r {f : Nat → Int} (h : V0 f) {p k : Nat} (hp : p < 6) (hk : k < 13) : (0 ≤ f (151 + 13 * p + k) ∧ f (151 + 13 * p + k) ≤ f (60 + 13 * p + k)) ∧ (0 ≤ f (60 + 13 * p + k) ∧ f (60 + 13 * p + k) ≤ 4) := ⟨⟨(h.2.2.1 p k hp hk).1, (h.2.2.1 p k hp hk).2.1⟩, h.hand hp hk⟩
set_option maxHeartbeats 4000000 in
set_option maxRecDepth 100000 in
theorem sX2_layDownG {f : Nat → Int} {σ : xS} {p kind : Int} {Q : Option xV → xS → Prop} (hp0 : GR σ f) (hp1 : VX f) (hp2 : 0 ≤ p ∧ p ≤ 5) (hp3 : 0 ≤ kind ∧ kind ≤ 12) (hQ : ∀ r : Int, ∀ σ' : xS, Fr [2, 3, 5, 9, 10, 11, 12] [] σ σ' → (GR σ' (booksF f p.toNat kind.toNat) ∧ r = if f (60 + 13 * p.toNat + kind.toNat) < 4 then 0 else 1) → Q (some (xvi r)) σ') : xT kX2_layDown [xvr 0, xvi p, xvi kind] σ Q := by
  refine ⟨Nat.le_of_ble_eq_true rfl, fun X hX => ?_⟩
  show X 0 [xvr 0, xvi p, xvi kind, xvu] σ
  have hF : Fr [2, 3, 5, 9, 10, 11, 12] [] σ σ := Fr.rf
  refine hX 400 0 _ _ ?_
  have hh := hp0.vh hp2 hp3
  have hu := hp0.vk hp2 hp3
  obtain ⟨hk, h4⟩ := kn_r hp1.1 (p := p.toNat) (k := kind.toNat) (by omega) (by omega)
  refine sX2_held (σ := σ) (p := p) (kind := kind) (show 0 ≤ p ∧ p ≤ 5 from by omega) (show 0 ≤ kind ∧ kind ≤ 12 from by omega) (fun r1 p1 => ?_)
  have p1 : r1 = σ 2 (13 * p + kind).toNat := p1
  refine And.intro (fun c2 => ?_) (fun c2 => ?_)
  · refine sX3_sureOf (σ := σ) (p := p) (kind := kind) (show 0 ≤ p ∧ p ≤ 5 from by omega) (show 0 ≤ kind ∧ kind ≤ 12 from by omega) (fun r3 p3 => ?_)
    have p3 : r3 = σ 10 (13 * p + kind).toNat := p3
    refine And.intro (Nat.le_of_ble_eq_true rfl) ?_
    show xw _ _ _ _ _ _ _ _ _ _ [xvr 0, xvi p, xvi kind, xvi r3] _ _
    have lp_22 : ∀ (m22 : Nat) (i : Int) (s1 : xS), ((5 - i).toNat) = m22 → (Fr [2, 3, 5, 9, 10, 11, 12] [] σ s1 ∧ GR s1 (itL f p.toNat kind (i - f (151 + 13 * p.toNat + kind.toNat)).toNat) ∧ (f (151 + 13 * p.toNat + kind.toNat) ≤ i ∧ i ≤ 4)) → X 22 [xvr 0, xvi p, xvi kind, xvi i] s1 := by
      intro m22
      induction m22 using Nat.strongRecOn with
      | _ m22 ih_22 =>
      intro i s1 hm_22 hv_22
      obtain ⟨hF, hG, hv_22⟩ := hv_22
      refine hX 400 22 _ _ ?_
      refine And.intro (fun c5 => ?_) (fun c5 => ?_)
      · replace hG : GR s1 (itL f p.toNat kind (4 - f (151 + 13 * p.toNat + kind.toNat)).toNat) := by rw [show 4 - f (151 + 13 * p.toNat + kind.toNat) = i - f (151 + 13 * p.toNat + kind.toNat) from by omega]; exact hG
        obtain ⟨vX, _, vh, _, _⟩ := itL_v (kind := kind) hp1 (k := p.toNat) (by omega) hp3 (4 - f (151 + 13 * p.toNat + kind.toNat)).toNat (show f (151 + 13 * p.toNat + kind.toNat) + ((4 - f (151 + 13 * p.toNat + kind.toNat)).toNat : Int) ≤ f (60 + 13 * p.toNat + kind.toNat) from by omega)
        have vh0 : (itL f p.toNat kind (4 - f (151 + 13 * p.toNat + kind.toNat)).toNat) (60 + 13 * p.toNat + kind.toNat) = f (60 + 13 * p.toNat + kind.toNat) := vh p.toNat kind.toNat (by omega) (by omega)
        have v52 := vX.1.cd52 (p := p.toNat) (by omega)
        generalize hg : (itL f p.toNat kind (4 - f (151 + 13 * p.toNat + kind.toNat)).toNat) = g at *
        refine sX3_setSureG (σ := s1) (p := p) (kind := kind) (cards := 0) hp2 hp3 hG (fun σ6 f6 hG2 => ?_)
        have hF := hF.tr f6 (by decide) (by decide)
        refine sX2_addToHandG (σ := σ6) (p := p) (kind := kind) (n := -4) hp2 hp3 hG2 (by rw [up_n (by omega)]; omega) (by rw [cd_o (f := g) (by omega) (fun i a b => up_n (by omega))]; omega) (fun σ7 f7 hG3 => ?_)
        have hF := hF.tr f7 (by decide) (by decide)
        rw [up_n (show (60 + 13 * p.toNat + kind.toNat) ≠ (151 + 13 * p.toNat + kind.toNat) from by omega), show g (60 + 13 * p.toNat + kind.toNat) + -4 = g (60 + 13 * p.toNat + kind.toNat) - 4 from by omega] at hG3
        refine And.intro (rfl) (And.intro (⟨by omega, by omega⟩) ?_)
        have hF := hF.pt (t := 5) (j := kind.toNat) (v := p) (by decide) (by decide)
        refine And.intro rfl ?_
        refine And.intro (by omega) ?_
        have hG4 := hG3.num (mp_bk (j := kind.toNat) (by omega)) (v := (p.toNat : Int) + 1) (w := p) (by omega) (by decide) (by omega)
        exact hQ _ _ hF ⟨by
          unfold booksF bkF
          rw [if_neg (by omega), show ((kind.toNat : Nat) : Int) = kind from by omega, hg]
          exact hG4, by rw [if_neg (by omega)]⟩
      · obtain ⟨_, vk, _⟩ := itL_v (kind := kind) hp1 (k := p.toNat) (by omega) hp3 (i - f (151 + 13 * p.toNat + kind.toNat)).toNat (show f (151 + 13 * p.toNat + kind.toNat) + ((i - f (151 + 13 * p.toNat + kind.toNat)).toNat : Int) ≤ f (60 + 13 * p.toNat + kind.toNat) from by omega)
        unfold kn at vk
        refine sX3_revealG (σ := s1) (p := p) (kind := kind) hp2 hp3 hG (by omega) (fun σ9 f9 p9 => ?_)
        have hF := hF.tr f9 (by decide) (by decide)
        intro z10 t10 e10 l10 h10
        try have w10 : t10 = 0 := by omega
        show xw _ _ _ _ _ _ _ _ _ _ [xvr 0, xvi p, xvi kind, xvi z10] _ _
        exact ih_22 _ (show (5 - z10).toNat < m22 from by omega) z10 σ9 rfl ⟨hF, (by rw [show (z10 - f (151 + 13 * p.toNat + kind.toNat)).toNat = (i - f (151 + 13 * p.toNat + kind.toNat)).toNat + 1 from by omega]; exact p9), by omega⟩
    exact lp_22 _ r3 σ rfl ⟨hF, (by rw [show (r3 - f (151 + 13 * p.toNat + kind.toNat)).toNat = 0 from by omega]; exact hp0), by omega⟩
  · refine And.intro rfl ?_
    refine And.intro (by omega) ?_
    exact hQ _ _ hF ⟨by unfold booksF; rw [if_pos (by omega)]; exact hp0, by rw [if_pos (by omega)]⟩
