set_option maxHeartbeats 4000000 in
set_option maxRecDepth 100000 in
theorem sX2_addToHand {σ : xS} {p kind n : Int} {Q : Option xV → xS → Prop} (hp0 : 0 ≤ p ∧ p ≤ 5) (hp1 : 0 ≤ kind ∧ kind ≤ 12) (hp2 : -1000 ≤ σ 2 (13 * p + kind).toNat + n ∧ σ 2 (13 * p + kind).toNat + n ≤ 1000) (hQ : ∀ σ' : xS, Fr [2, 3] [] σ σ' → (σ' 2 = up (σ 2) (13 * p + kind).toNat (σ 2 (13 * p + kind).toNat + n)) → Q none σ') : xT kX2_addToHand [xvr 0, xvi p, xvi kind, xvi n] σ Q := by
  refine ⟨Nat.le_of_ble_eq_true rfl, fun X hX => ?_⟩
  show X 0 [xvr 0, xvi p, xvi kind, xvi n] σ
  have hF : Fr [2, 3] [] σ σ := Fr.rf
  refine hX 400 0 _ _ ?_
  intro z1 t1 e1 l1 h1
  try have w1 : t1 = 0 := by omega
  intro z2 t2 e2 l2 h2
  try have w2 : t2 = 0 := by omega
  refine And.intro (rfl) (And.intro (⟨by omega, by omega⟩) ?_)
  intro v3 e3 l3 h3
  have e3 : v3 = σ 2 z2.toNat := e3
  rw [show z2 = 13 * p + kind from by omega] at e3
  intro z4 t4 e4 l4 h4
  try have w4 : t4 = 0 := by omega
  refine And.intro (rfl) (And.intro (⟨by omega, by omega⟩) ?_)
  have hF := hF.pt (t := 2) (j := z2.toNat) (v := z4) (by decide) (by decide)
  refine And.intro (rfl) (And.intro (⟨by omega, by omega⟩) ?_)
  intro v6 e6 l6 h6
  have e6 : v6 = σ 3 p.toNat := e6
  intro z7 t7 e7 l7 h7
  try have w7 : t7 = 0 := by omega
  refine And.intro (rfl) (And.intro (⟨by omega, by omega⟩) ?_)
  have hF := hF.pt (t := 3) (j := p.toNat) (v := z7) (by decide) (by decide)
  refine And.intro rfl (And.intro rfl ?_)
  exact hQ _ hF (by show xput σ 2 z2.toNat z4 2 = _; rw [xput_up, show z2 = 13 * p + kind from by omega, show z4 = σ 2 (13 * p + kind).toNat + n from by omega])
set_option maxHeartbeats 4000000 in
set_option maxRecDepth 100000 in
theorem sX2_addToHeap {σ : xS} {kind : Int} {Q : Option xV → xS → Prop} (hp0 : 0 ≤ σ 0 9 ∧ σ 0 9 ≤ 52) (hQ : ∀ σ' : xS, Fr [4] [9] σ σ' → ((σ 0 9 < 52 ∧ σ' 0 9 = σ 0 9 + 1 ∧ σ' 4 = up (σ 4) (σ 0 9).toNat kind) ∨ (σ 0 9 = 52 ∧ σ' 0 9 = 52 ∧ σ' 4 = σ 4)) → Q none σ') : xT kX2_addToHeap [xvr 0, xvi kind] σ Q := by
  refine ⟨Nat.le_of_ble_eq_true rfl, fun X hX => ?_⟩
  show X 0 [xvr 0, xvi kind] σ
  have hF : Fr [4] [9] σ σ := Fr.rf
  refine hX 400 0 _ _ ?_
  intro v1 e1 l1 h1
  have e1 : v1 = σ 0 9 := e1
  refine And.intro (fun c2 => ?_) (fun c2 => ?_)
  · refine hX 400 29 _ _ ?_
    refine And.intro rfl (And.intro rfl ?_)
    exact hQ _ hF (Or.inr ⟨by omega, by omega, rfl⟩)
  · intro v3 e3 l3 h3
    have e3 : v3 = σ 0 9 := e3
    refine And.intro (rfl) (And.intro (⟨by omega, by omega⟩) ?_)
    have hF := hF.pt (t := 4) (j := v3.toNat) (v := kind) (by decide) (by decide)
    intro v5 e5 l5 h5
    have e5 : v5 = σ 0 9 := e5
    intro z6 t6 e6 l6 h6
    try have w6 : t6 = 0 := by omega
    have hF := hF.p (j := 9) (v := z6) (by decide)
    refine hX 400 29 _ _ ?_
    refine And.intro rfl (And.intro rfl ?_)
    exact hQ _ hF (Or.inl ⟨by omega, (show z6 = σ 0 9 + 1 from by omega), (by show xput σ 4 v3.toNat kind 4 = _; rw [xput_up, show v3 = σ 0 9 from by omega])⟩)
set_option maxHeartbeats 4000000 in
set_option maxRecDepth 100000 in
theorem sX2_addPerson {σ : xS} {name : Int} {Q : Option xV → xS → Prop} (hp0 : 0 ≤ σ 0 1 ∧ σ 0 1 ≤ 6) (hQ : ∀ σ' : xS, Fr [1] [1] σ σ' → ((0 ≤ σ' 0 1 ∧ σ' 0 1 ≤ 6)) → Q none σ') : xT kX2_addPerson [xvr 0, xvl name] σ Q := by
  refine ⟨Nat.le_of_ble_eq_true rfl, fun X hX => ?_⟩
  show X 0 [xvr 0, xvl name, xvu] σ
  have hF : Fr [1] [1] σ σ := Fr.rf
  refine hX 400 0 _ _ ?_
  intro v1 e1 l1 h1
  have e1 : v1 = σ 0 1 := e1
  refine And.intro (fun c2 => ?_) (fun c2 => ?_)
  · refine hX 400 29 _ _ ?_
    refine And.intro rfl (And.intro rfl ?_)
    exact hQ _ hF (show (0 ≤ (σ 0 1) ∧ (σ 0 1) ≤ 6) from by first | trivial | omega)
  · intro v3 e3 l3 h3
    have e3 : v3 = σ 0 1 := e3
    refine And.intro rfl (And.intro (⟨by omega, by omega⟩) ?_)
    have hF := hF.pt (t := 1) (j := v3.toNat) (v := name) (by decide) (by decide)
    intro v5 e5 l5 h5
    have e5 : v5 = σ 0 1 := e5
    intro z6 t6 e6 l6 h6
    try have w6 : t6 = 0 := by omega
    have hF := hF.p (j := 1) (v := z6) (by decide)
    refine hX 400 29 _ _ ?_
    refine And.intro rfl (And.intro rfl ?_)
    exact hQ _ hF (show (0 ≤ (z6) ∧ (z6) ≤ 6) from by first | trivial | omega)
set_option maxHeartbeats 4000000 in
set_option maxRecDepth 100000 in
theorem sX2_takeCardsAway {σ : xS} {Q : Option xV → xS → Prop} (hQ : ∀ σ' : xS, Fr [2, 3] [8, 9] σ σ' → ((∀ i : Nat, i < 78 → σ' 2 i = 0) ∧ σ' 0 8 = 0 ∧ σ' 0 9 = 0) → Q none σ') : xT kX2_takeCardsAway [xvr 0] σ Q := by
  refine ⟨Nat.le_of_ble_eq_true rfl, fun X hX => ?_⟩
  show X 0 [xvr 0] σ
  have hF : Fr [2, 3] [8, 9] σ σ := Fr.rf
  refine hX 400 0 _ _ ?_
  refine And.intro (by decide) ?_
  generalize hfl1 : xfl σ 2 78 0 = σ1
  have f1 : Fr [2] [] σ σ1 := hfl1 ▸ Fr.fl (by decide)
  have v1 : ∀ j : Nat, j < 78 → σ1 2 j = 0 := fun j hj => by rw [← hfl1]; exact xfl_in hj
  have hF := hF.tr f1 (by decide) (by decide)
  have c2 := v1
  refine And.intro (by decide) ?_
  generalize hfl2 : xfl σ1 3 6 0 = σ2
  have f2 : Fr [3] [] σ1 σ2 := hfl2 ▸ Fr.fl (by decide)
  have v2 : ∀ j : Nat, j < 6 → σ2 3 j = 0 := fun j hj => by rw [← hfl2]; exact xfl_in hj
  have hF := hF.tr f2 (by decide) (by decide)
  have hF := hF.p (j := 8) (v := 0) (by decide)
  have hF := hF.p (j := 9) (v := 0) (by decide)
  refine And.intro rfl (And.intro rfl ?_)
  exact hQ _ hF ⟨(fun i hi => (show σ2 2 i = 0 from by rw [f2.1 2 (by decide) (by decide)]; exact c2 i hi)), rfl, rfl⟩
set_option maxHeartbeats 4000000 in
set_option maxRecDepth 100000 in
theorem sX2_clear {σ : xS} {Q : Option xV → xS → Prop} (hQ : ∀ σ' : xS, Fr [2, 3] [0, 1, 2, 3, 8, 9] σ σ' → (σ' 0 0 = 0 ∧ σ' 0 1 = 0 ∧ (∀ i : Nat, i < 78 → σ' 2 i = 0) ∧ σ' 0 8 = 0 ∧ σ' 0 9 = 0) → Q none σ') : xT kX2_clear [xvr 0] σ Q := by
  refine ⟨Nat.le_of_ble_eq_true rfl, fun X hX => ?_⟩
  show X 0 [xvr 0] σ
  have hF : Fr [2, 3] [0, 1, 2, 3, 8, 9] σ σ := Fr.rf
  refine hX 400 0 _ _ ?_
  have hF := hF.p (j := 0) (v := 0) (by decide)
  have hF := hF.p (j := 1) (v := 0) (by decide)
  refine And.intro (by omega) ?_
  have hF := hF.p (j := 2) (v := 0) (by decide)
  have hF := hF.p (j := 3) (v := 0) (by decide)
  refine sX2_takeCardsAway (σ := (xput (xput (xput (xput σ 0 0 0) 0 1 0) 0 2 0) 0 3 0))   (fun σ5 f5 p5 => ?_)
  have hF := hF.tr f5 (by decide) (by decide)
  have p5 : (∀ i : Nat, i < 78 → σ5 2 i = 0) ∧ σ5 0 8 = 0 ∧ σ5 0 9 = 0 := p5
  refine And.intro rfl (And.intro rfl ?_)
  exact hQ _ hF ⟨f5.2 0 (by decide), f5.2 1 (by decide), p5⟩
set_option maxHeartbeats 4000000 in
set_option maxRecDepth 100000 in
theorem sX2_layDown {σ : xS} {p kind : Int} {Q : Option xV → xS → Prop} (hp0 : CG σ) (hp1 : 0 ≤ p ∧ p ≤ 5) (hp2 : 0 ≤ kind ∧ kind ≤ 12) (hQ : ∀ r : Int, ∀ σ' : xS, Fr [2, 3, 5, 9, 10, 11, 12] [] σ σ' → (CG σ' ∧ (r = 0 ∨ r = 1)) → Q (some (xvi r)) σ') : xT kX2_layDown [xvr 0, xvi p, xvi kind] σ Q := by
  refine ⟨Nat.le_of_ble_eq_true rfl, fun X hX => ?_⟩
  show X 0 [xvr 0, xvi p, xvi kind, xvu] σ
  have hF : Fr [2, 3, 5, 9, 10, 11, 12] [] σ σ := Fr.rf
  refine hX 400 0 _ _ ?_
  have hh := hp0.hI hp1 hp2; have hu := hp0.uI hp1 hp2
  refine sX2_held (σ := σ) (p := p) (kind := kind) (show 0 ≤ p ∧ p ≤ 5 from by omega) (show 0 ≤ kind ∧ kind ≤ 12 from by omega) (fun r1 p1 => ?_)
  have p1 : r1 = σ 2 (13 * p + kind).toNat := p1
  refine And.intro (fun c2 => ?_) (fun c2 => ?_)
  · refine sX3_sureOf (σ := σ) (p := p) (kind := kind) (show 0 ≤ p ∧ p ≤ 5 from by omega) (show 0 ≤ kind ∧ kind ≤ 12 from by omega) (fun r3 p3 => ?_)
    have p3 : r3 = σ 10 (13 * p + kind).toNat := p3
    refine And.intro (Nat.le_of_ble_eq_true rfl) ?_
    show xw _ _ _ _ _ _ _ _ _ _ [xvr 0, xvi p, xvi kind, xvi r3] _ _
    have lp_22 : ∀ (m22 : Nat) (i : Int) (s1 : xS), ((5 - i).toNat) = m22 → (Fr [2, 3, 5, 9, 10, 11, 12] [] σ s1 ∧ (∀ j, j ≠ (13 * p + kind).toNat → s1 10 j = σ 10 j) ∧ (0 ≤ s1 10 (13 * p + kind).toNat ∧ s1 10 (13 * p + kind).toNat ≤ i) ∧ (0 ≤ s1 9 2 ∧ s1 9 2 ≤ 52) ∧ s1 2 = σ 2 ∧ (0 ≤ i ∧ i ≤ 5)) → X 22 [xvr 0, xvi p, xvi kind, xvi i] s1 := by
      intro m22
      induction m22 using Nat.strongRecOn with
      | _ m22 ih_22 =>
      intro i s1 hm_22 hv_22
      obtain ⟨hF, hO, h10, h92, h2s, hv_22⟩ := hv_22
      refine hX 400 22 _ _ ?_
      refine And.intro (fun c5 => ?_) (fun c5 => ?_)
      · refine sX3_setSure (σ := s1) (p := p) (kind := kind) (cards := 0) (by omega) (by omega) (fun σ6 f6 p6 => ?_)
        have hF := hF.tr f6 (by decide) (by decide)
        have k2 : σ6 2 = σ 2 := (f6.1 2 (by decide) (by decide)).trans h2s
        have k92 : σ6 9 2 = s1 9 2 := congrFun (f6.1 9 (by decide) (by decide)) 2
        refine sX2_addToHand (σ := σ6) (p := p) (kind := kind) (n := -4) (by omega) (by omega) (by rw [k2]; omega) (fun σ7 f7 p7 => ?_)
        have hF := hF.tr f7 (by decide) (by decide)
        rw [k2] at p7
        have k10 : σ7 10 = up (s1 10) (13 * p + kind).toNat 0 := (f7.1 10 (by decide) (by decide)).trans p6
        have k9 : σ7 9 2 = σ6 9 2 := congrFun (f7.1 9 (by decide) (by decide)) 2
        have hCG : CG σ7 := hp0.hand (p := p) (kind := kind) (by omega) (by omega) (hp0.1.eq (hF.2 0 (by decide)) (hF.2 1 (by decide)) (hF.1 4 (by decide) (by decide)) (hF.2 8 (by decide)) (hF.2 9 (by decide))) p7 (fun j hj => by rw [k10, up_n hj]; exact hO j hj) (by omega) (by rw [k10, up_s]; omega) (by rw [p7, hF.1 4 (by decide) (by decide), hF.2 8 (by decide), hF.2 9 (by decide)]; exact CSx_up hp0.2.1.2 (by omega) (by omega) (by omega)) (by omega)
        refine And.intro (rfl) (And.intro (⟨by omega, by omega⟩) ?_)
        have hF := hF.pt (t := 5) (j := kind.toNat) (v := p) (by decide) (by decide)
        refine And.intro rfl ?_
        refine And.intro (by omega) ?_
        exact hQ _ _ hF ⟨hCG.fr (ts := [5]) (js := []) (Fr.rf.pt (by decide) (by decide)) (by decide) (by decide) (by decide) (by decide) (by decide) (by decide) (by decide) (by decide), by omega⟩
      · refine sX3_reveal (σ := s1) (p := p) (kind := kind) (by omega) (by omega) (by omega) (by omega) (fun σ9 f9 p9 => ?_)
        have hF := hF.tr f9 (by decide) (by decide)
        have x22 : (∀ j, j ≠ (13 * p + kind).toNat → σ9 10 j = σ 10 j) ∧ (0 ≤ σ9 10 (13 * p + kind).toNat ∧ σ9 10 (13 * p + kind).toNat ≤ i + 1) ∧ (0 ≤ σ9 9 2 ∧ σ9 9 2 ≤ 52) ∧ σ9 2 = σ 2 := by
          refine ⟨fun j hj => ?_, ?_, p9.1, (f9.1 2 (by decide) (by decide)).trans h2s⟩
          · rcases p9.2 with q | q
            · rw [q]; exact hO j hj
            · rw [q, up_n hj]; exact hO j hj
          · rcases p9.2 with q | q
            · rw [q]; omega
            · rw [q, up_s]; omega
        intro z10 t10 e10 l10 h10
        try have w10 : t10 = 0 := by omega
        show xw _ _ _ _ _ _ _ _ _ _ [xvr 0, xvi p, xvi kind, xvi z10] _ _
        exact ih_22 _ (show (5 - z10).toNat < m22 from by omega) z10 σ9 rfl ⟨hF, x22.1, (by have := x22.2.1; omega), x22.2.2.1, x22.2.2.2, by omega⟩
    exact lp_22 _ r3 σ rfl ⟨hF, (fun _ _ => rfl), by omega, hp0.2.2.2, rfl, by omega⟩
  · refine And.intro rfl ?_
    refine And.intro (by omega) ?_
    exact hQ _ _ hF ⟨hp0, by omega⟩
set_option maxHeartbeats 4000000 in
set_option maxRecDepth 100000 in
theorem sX2_drawCard {σ : xS} {p shown : Int} {Q : Option xV → xS → Prop} (hp0 : CG σ) (hp1 : 0 ≤ p ∧ p ≤ 5) (hp2 : σ 0 8 < σ 0 9) (hQ : ∀ r : Int, ∀ σ' : xS, Fr [2, 3, 5, 8, 9, 10, 11, 12] [8] σ σ' → (CG σ' ∧ σ' 0 8 = σ 0 8 + 1 ∧ (r = 0 ∨ r = 1)) → Q (some (xvi r)) σ') : xT kX2_drawCard [xvr 0, xvi p, xvi shown] σ Q := by
  refine ⟨Nat.le_of_ble_eq_true rfl, fun X hX => ?_⟩
  show X 0 [xvr 0, xvi p, xvi shown, xvu] σ
  have hF : Fr [2, 3, 5, 8, 9, 10, 11, 12] [8] σ σ := Fr.rf
  refine hX 400 0 _ _ ?_
  have hr := hp0.1.2.2.1
  intro v1 e1 l1 h1
  have e1 : v1 = σ 0 8 := e1
  refine And.intro (rfl) (And.intro (⟨by omega, by omega⟩) ?_)
  intro v2 e2 l2 h2
  have e2 : v2 = σ 4 v1.toNat := e2
  have hc := hp0.1.2.2.2 (σ 0 8).toNat (by omega)
  have hce : v2 = σ 4 (σ 0 8).toNat := by rw [e2, show v1 = σ 0 8 from by omega]
  rw [← hce] at hc
  refine And.intro (Nat.le_of_ble_eq_true rfl) ?_
  show xw _ _ _ _ _ _ _ _ _ _ [xvr 0, xvi p, xvi shown, xvi v2] _ _
  intro v3 e3 l3 h3
  have e3 : v3 = σ 0 8 := e3
  intro z4 t4 e4 l4 h4
  try have w4 : t4 = 0 := by omega
  have hF := hF.p (j := 8) (v := z4) (by decide)
  have hh := hp0.hI (p := p) (kind := v2) (by omega) (by omega); have hu := hp0.uI (p := p) (kind := v2) (by omega) (by omega)
  refine sX2_addToHand (σ := (xput σ 0 8 z4)) (p := p) (kind := v2) (n := 1) (by omega) (by omega) (show -1000 ≤ σ 2 (13 * p + v2).toNat + 1 ∧ σ 2 (13 * p + v2).toNat + 1 ≤ 1000 from by omega) (fun σ6 f6 p6 => ?_)
  have hF := hF.tr f6 (by decide) (by decide)
  have p6 : σ6 2 = up (σ 2) (13 * p + v2).toNat (σ 2 (13 * p + v2).toNat + 1) := p6
  have k8 : σ6 0 8 = σ 0 8 + 1 := (f6.2 8 (by decide)).trans (show z4 = σ 0 8 + 1 from by omega)
  have k10 : σ6 10 = σ 10 := f6.1 10 (by decide) (by decide)
  have k92 : σ6 9 2 = σ 9 2 := congrFun (f6.1 9 (by decide) (by decide)) 2
  have hR : CRx σ6 := by
    obtain ⟨g1, g2, g3, g4⟩ := hp0.1
    unfold CRx
    rw [hF.2 0 (by decide), hF.2 1 (by decide), hF.2 9 (by decide), hF.1 4 (by decide) (by decide), k8]
    exact ⟨g1, g2, by omega, g4⟩
  have hS : CSx (σ6 2) (σ6 4) (σ6 0 8) (σ6 0 9) := by
    rw [p6, hF.1 4 (by decide) (by decide), k8, hF.2 9 (by decide)]
    exact hp0.2.1.2.draw (by omega) (by omega) (by omega) (by omega) (by omega) hce.symm rfl
  refine And.intro (rfl) (And.intro (⟨by omega, by omega⟩) ?_)
  have hF := hF.pt (t := 8) (j := p.toNat) (v := v2) (by decide) (by decide)
  have lp_69 : ∀ (s1 : xS), (Fr [2, 3, 5, 8, 9, 10, 11, 12] [8] σ s1 ∧ CG s1 ∧ s1 0 8 = σ 0 8 + 1) → X 69 [xvr 0, xvi p, xvi shown, xvi v2] s1 := by
    intro s1 hv_69
    obtain ⟨hF, hCG, k8x⟩ := hv_69
    refine hX 400 69 _ _ ?_
    refine sX2_layDown (σ := s1) (p := p) (kind := v2) hCG (by omega) (by omega) (fun r9 σ9 f9 p9 => ?_)
    have hF := hF.tr f9 (by decide) (by decide)
    have k8y : σ9 0 8 = σ 0 8 + 1 := (f9.2 8 (by decide)).trans k8x
    have p9 : CG σ9 ∧ (r9 = 0 ∨ r9 = 1) := p9
    refine And.intro rfl ?_
    refine And.intro (by omega) ?_
    exact hQ _ _ hF ⟨p9.1, k8y, p9.2⟩
  refine And.intro (fun c10 => ?_) (fun c10 => ?_)
  · refine sX3_addOther (σ := (xput σ6 8 p.toNat v2)) (p := p) (show 0 ≤ σ6 9 2 ∧ σ6 9 2 ≤ 52 from by have := hp0.2.2.2; omega) (fun σ11 f11 p11 => ?_)
    have hF := hF.tr f11 (by decide) (by decide)
    have q10 : σ11 10 = σ 10 := (f11.1 10 (by decide) (by decide)).trans k10
    have hCG : CG σ11 := hp0.hand (p := p) (kind := v2) (by omega) (by omega) (hR.eq (f11.2 0 (by decide)) (f11.2 1 (by decide)) (f11.1 4 (by decide) (by decide)) (f11.2 8 (by decide)) (f11.2 9 (by decide))) ((f11.1 2 (by decide) (by decide)).trans p6) (fun j hj => by rw [q10]) (by omega) (by rw [q10]; omega) (by rw [f11.1 2 (by decide) (by decide), f11.1 4 (by decide) (by decide), f11.2 8 (by decide), f11.2 9 (by decide)]; exact hS) p11
    have k8x : σ11 0 8 = σ 0 8 + 1 := (f11.2 8 (by decide)).trans k8
    exact lp_69 σ11 ⟨hF, hCG, k8x⟩
  · refine sX3_sureOf (σ := (xput σ6 8 p.toNat v2)) (p := p) (kind := v2) (by omega) (by omega) (fun r12 p12 => ?_)
    have p12 : r12 = σ 10 (13 * p + v2).toNat := p12.trans (by show σ6 10 _ = _; rw [k10])
    intro z13 t13 e13 l13 h13
    try have w13 : t13 = 0 := by omega
    refine sX3_setSure (σ := (xput σ6 8 p.toNat v2)) (p := p) (kind := v2) (cards := z13) (by omega) (by omega) (fun σ14 f14 p14 => ?_)
    have hF := hF.tr f14 (by decide) (by decide)
    have p14 : σ14 10 = up (σ6 10) (13 * p + v2).toNat z13 := p14
    have hCG : CG σ14 := hp0.hand (p := p) (kind := v2) (by omega) (by omega) (hR.eq (f14.2 0 (by decide)) (f14.2 1 (by decide)) (f14.1 4 (by decide) (by decide)) (f14.2 8 (by decide)) (f14.2 9 (by decide))) ((f14.1 2 (by decide) (by decide)).trans p6) (fun j hj => by rw [p14, up_n hj, k10]) (by omega) (by rw [p14, up_s]; omega) (by rw [f14.1 2 (by decide) (by decide), f14.1 4 (by decide) (by decide), f14.2 8 (by decide), f14.2 9 (by decide)]; exact hS) (by rw [f14.1 9 (by decide) (by decide)]; show 0 ≤ σ6 9 2 ∧ σ6 9 2 ≤ 52; have := hp0.2.2.2; omega)
    have k8x : σ14 0 8 = σ 0 8 + 1 := (f14.2 8 (by decide)).trans k8
    exact lp_69 σ14 ⟨hF, hCG, k8x⟩
