set_option maxHeartbeats 4000000 in
set_option maxRecDepth 100000 in
theorem sX2_sayNo {σ : xS} {p q kind : Int} {Q : Option xV → xS → Prop} (hp0 : CG σ) (hp1 : 0 ≤ p ∧ p ≤ 5) (hp2 : 0 ≤ q ∧ q ≤ 5) (hp3 : 0 ≤ kind ∧ kind ≤ 12) (hQ : ∀ r : Int, ∀ σ' : xS, Fr [2, 3, 5, 6, 7, 8, 9, 10, 11, 12, 13] [8, 14, 15, 16] σ σ' → (CG σ' ∧ (0 ≤ r ∧ r ≤ 5)) → Q (some (xvi r)) σ') : xT kX2_sayNo [xvr 0, xvi p, xvi q, xvi kind, xvr 13] σ Q := by
  refine ⟨Nat.le_of_ble_eq_true rfl, fun X hX => ?_⟩
  show X 0 [xvr 0, xvi p, xvi q, xvi kind, xvr 13, xvu, xvu] σ
  have hF : Fr [2, 3, 5, 6, 7, 8, 9, 10, 11, 12, 13] [8, 14, 15, 16] σ σ := Fr.rf
  refine hX 400 0 _ _ ?_
  have hu := hp0.uI hp2 hp3; have hh := hp0.hI hp2 hp3; have hz9 := hp0.2.2.2
  refine xMVf (sh := shH) (ci := 3) (τ := [0, 1, 2, 3, 4, 5, 6, 7, 8, 9, 10, 11, 12]) (E := xT kX3_denies) (t := 9) (r := [xvi q, xvi kind]) (σ := σ) rfl rfl (fun Q1 hQ1 => sX3_denies (σ := xsel [0, 1, 2, 3, 4, 5, 6, 7, 8, 9, 10, 11, 12] σ) (p := q) (kind := kind) (show 0 ≤ q ∧ q ≤ 5 from by omega) (show 0 ≤ kind ∧ kind ≤ 12 from by omega) (show 0 ≤ (σ 9 2) ∧ (σ 9 2) ≤ 52 from by omega) (show σ 10 (13 * q + kind).toNat ≤ 1000 from by omega) (fun ς1 f1 p1 => hQ1 _ _ ?_))
  replace f1 : Fr [9, 10, 11, 12] [] σ (xbk [0, 1, 2, 3, 4, 5, 6, 7, 8, 9, 10, 11, 12] σ ς1) := f1.bk0 (by decide) (by decide) (by decide)
  replace p1 : (0 ≤ (xbk [0, 1, 2, 3, 4, 5, 6, 7, 8, 9, 10, 11, 12] σ ς1) 9 2 ∧ (xbk [0, 1, 2, 3, 4, 5, 6, 7, 8, 9, 10, 11, 12] σ ς1) 9 2 ≤ 52) ∧ (((xbk [0, 1, 2, 3, 4, 5, 6, 7, 8, 9, 10, 11, 12] σ ς1) 10 = σ 10 ∧ σ 10 (13 * q + kind).toNat ≤ 0) ∨ (xbk [0, 1, 2, 3, 4, 5, 6, 7, 8, 9, 10, 11, 12] σ ς1) 10 = up (σ 10) (13 * q + kind).toNat 0) := p1
  generalize xbk [0, 1, 2, 3, 4, 5, 6, 7, 8, 9, 10, 11, 12] σ ς1 = σ1 at f1 p1 ⊢
  have hF := hF.tr f1 (by decide) (by decide)
  have hC : CG σ1 := hp0.sure (p := q) (kind := kind) (by omega) (by omega) f1 (by decide) (by decide) (by decide) (by decide) (by decide) (by decide) (fun j hj => by
      rcases p1.2 with z | z
      · rw [z.1]
      · rw [z, up_n hj]) (by
      rcases p1.2 with z | z
      · rw [z.1]; omega
      · rw [z, up_s]; omega) p1.1
  have hr := hC.1.2.2.1; have hb1 := hC.1.2.1
  refine xMVp (sh := shH) (ci := 2) (τ := [0, 1, 2, 3, 4, 5, 6, 7, 8, 9, 10, 11, 12]) (E := xT kX2_heapSize) (t := 0) (r := []) (σ := σ1) rfl rfl xbk_sel (fun Q2 hQ2 => sX2_heapSize (σ := xsel [0, 1, 2, 3, 4, 5, 6, 7, 8, 9, 10, 11, 12] σ1)  (show 0 ≤ (σ1 0 8) ∧ (σ1 0 8) ≤ (σ1 0 9) ∧ (σ1 0 9) ≤ 52 from by omega) (fun r2 p2 => hQ2 _ ?_))
  have p2 : r2 = (σ1 0 9) - (σ1 0 8) := p2
  refine And.intro (fun c3 => ?_) (fun c3 => ?_)
  · have hF := hF.p (j := 16) (v := 0) (by decide)
    have hC := hC.fr (ts := []) (js := [16]) (Fr.rf.p (j := 16) (v := 0) (by decide)) (by decide) (by decide) (by decide) (by decide) (by decide) (by decide) (by decide) (by decide)
    intro v5 e5 l5 h5
    have e5 : v5 = σ1 0 8 := e5
    refine And.intro (rfl) (And.intro (⟨by omega, by omega⟩) ?_)
    intro v6 e6 l6 h6
    have e6 : v6 = σ1 4 v5.toNat := e6
    refine And.intro (Nat.le_of_ble_eq_true rfl) ?_
    show xw _ _ _ _ _ _ _ _ _ _ [xvr 0, xvi p, xvi q, xvi kind, xvr 13, xvi v6, xvu] _ _
    intro v7 e7 l7 h7
    have e7 : v7 = σ1 0 2 := e7
    refine And.intro (fun c8 => ?_) (fun c8 => ?_)
    · refine hX 400 65 _ _ ?_
      refine And.intro (Nat.le_of_ble_eq_true rfl) ?_
      show xw _ _ _ _ _ _ _ _ _ _ [xvr 0, xvi p, xvi q, xvi kind, xvr 13, xvi v6, xvi 0] _ _
      refine And.intro (rfl) (And.intro (⟨by omega, by omega⟩) ?_)
      have hF := hF.pt (t := 13) (j := 4) (v := v6) (by decide) (by decide)
      have hC := hC.fr (ts := [13]) (js := []) (Fr.rf.pt (t := 13) (j := 4) (v := v6) (by decide) (by decide)) (by decide) (by decide) (by decide) (by decide) (by decide) (by decide) (by decide) (by decide)
      refine xMVf (sh := shH) (ci := 2) (τ := [0, 1, 2, 3, 4, 5, 6, 7, 8, 9, 10, 11, 12]) (E := xT kX2_drawCard) (t := 0) (r := [xvi p, xvi 0]) (σ := (xput (xput σ1 0 16 0) 13 4 v6)) rfl rfl (fun Q10 hQ10 => sX2_drawCard (σ := xsel [0, 1, 2, 3, 4, 5, 6, 7, 8, 9, 10, 11, 12] (xput (xput σ1 0 16 0) 13 4 v6)) (p := p) (shown := 0) (show CG (xput (xput σ1 0 16 0) 13 4 v6) from hC) (show 0 ≤ p ∧ p ≤ 5 from by omega) (show (σ1 0 8) < (σ1 0 9) from by omega) (fun r10 ς10 f10 p10 => hQ10 _ _ ?_))
      replace f10 : Fr [2, 3, 5, 8, 9, 10, 11, 12] [8] (xput (xput σ1 0 16 0) 13 4 v6) (xbk [0, 1, 2, 3, 4, 5, 6, 7, 8, 9, 10, 11, 12] (xput (xput σ1 0 16 0) 13 4 v6) ς10) := f10.bk0 (by decide) (by decide) (by decide)
      replace p10 : CG (xbk [0, 1, 2, 3, 4, 5, 6, 7, 8, 9, 10, 11, 12] (xput (xput σ1 0 16 0) 13 4 v6) ς10) ∧ (xbk [0, 1, 2, 3, 4, 5, 6, 7, 8, 9, 10, 11, 12] (xput (xput σ1 0 16 0) 13 4 v6) ς10) 0 8 = (σ1 0 8) + 1 ∧ (r10 = 0 ∨ r10 = 1) := p10
      generalize xbk [0, 1, 2, 3, 4, 5, 6, 7, 8, 9, 10, 11, 12] (xput (xput σ1 0 16 0) 13 4 v6) ς10 = σ10 at f10 p10 ⊢
      have hF := hF.tr f10 (by decide) (by decide)
      have hC : CG σ10 := p10.1
      have hb1 := hC.1.2.1
      refine And.intro (fun c11 => ?_) (fun c11 => ?_)
      · refine hX 400 90 _ _ ?_
        refine And.intro (fun _ => ?_) (fun c12 => absurd (by decide) c12)
        refine xMVp (sh := shH) (ci := 2) (τ := [0, 1, 2, 3, 4, 5, 6, 7, 8, 9, 10, 11, 12]) (E := xT kX2_after) (t := 0) (r := [xvi p]) (σ := σ10) rfl rfl xbk_sel (fun Q13 hQ13 => sX2_after (σ := xsel [0, 1, 2, 3, 4, 5, 6, 7, 8, 9, 10, 11, 12] σ10) (p := p) (show 0 ≤ p ∧ p ≤ 5 from by omega) (show 0 ≤ (σ10 0 1) ∧ (σ10 0 1) ≤ 6 from by omega) (fun r13 p13 => hQ13 _ ?_))
        have p13 : 0 ≤ r13 ∧ r13 ≤ 5 := p13
        refine And.intro rfl ?_
        exact hQ _ _ hF ⟨hC, by omega⟩
      · refine And.intro (rfl) (And.intro (⟨by omega, by omega⟩) ?_)
        have hF := hF.pt (t := 13) (j := 5) (v := v6) (by decide) (by decide)
        have hC := hC.fr (ts := [13]) (js := []) (Fr.rf.pt (t := 13) (j := 5) (v := v6) (by decide) (by decide)) (by decide) (by decide) (by decide) (by decide) (by decide) (by decide) (by decide) (by decide)
        refine hX 400 90 _ _ ?_
        refine And.intro (fun _ => ?_) (fun c15 => absurd (by decide) c15)
        refine xMVp (sh := shH) (ci := 2) (τ := [0, 1, 2, 3, 4, 5, 6, 7, 8, 9, 10, 11, 12]) (E := xT kX2_after) (t := 0) (r := [xvi p]) (σ := (xput σ10 13 5 v6)) rfl rfl xbk_sel (fun Q16 hQ16 => sX2_after (σ := xsel [0, 1, 2, 3, 4, 5, 6, 7, 8, 9, 10, 11, 12] (xput σ10 13 5 v6)) (p := p) (show 0 ≤ p ∧ p ≤ 5 from by omega) (show 0 ≤ (σ10 0 1) ∧ (σ10 0 1) ≤ 6 from by omega) (fun r16 p16 => hQ16 _ ?_))
        have p16 : 0 ≤ r16 ∧ r16 ≤ 5 := p16
        refine And.intro rfl ?_
        exact hQ _ _ hF ⟨hC, by omega⟩
    · refine And.intro (fun c17 => ?_) (fun c17 => ?_)
      · refine hX 400 65 _ _ ?_
        refine And.intro (Nat.le_of_ble_eq_true rfl) ?_
        show xw _ _ _ _ _ _ _ _ _ _ [xvr 0, xvi p, xvi q, xvi kind, xvr 13, xvi v6, xvi 0] _ _
        refine And.intro (rfl) (And.intro (⟨by omega, by omega⟩) ?_)
        have hF := hF.pt (t := 13) (j := 4) (v := v6) (by decide) (by decide)
        have hC := hC.fr (ts := [13]) (js := []) (Fr.rf.pt (t := 13) (j := 4) (v := v6) (by decide) (by decide)) (by decide) (by decide) (by decide) (by decide) (by decide) (by decide) (by decide) (by decide)
        refine xMVf (sh := shH) (ci := 2) (τ := [0, 1, 2, 3, 4, 5, 6, 7, 8, 9, 10, 11, 12]) (E := xT kX2_drawCard) (t := 0) (r := [xvi p, xvi 0]) (σ := (xput (xput σ1 0 16 0) 13 4 v6)) rfl rfl (fun Q19 hQ19 => sX2_drawCard (σ := xsel [0, 1, 2, 3, 4, 5, 6, 7, 8, 9, 10, 11, 12] (xput (xput σ1 0 16 0) 13 4 v6)) (p := p) (shown := 0) (show CG (xput (xput σ1 0 16 0) 13 4 v6) from hC) (show 0 ≤ p ∧ p ≤ 5 from by omega) (show (σ1 0 8) < (σ1 0 9) from by omega) (fun r19 ς19 f19 p19 => hQ19 _ _ ?_))
        replace f19 : Fr [2, 3, 5, 8, 9, 10, 11, 12] [8] (xput (xput σ1 0 16 0) 13 4 v6) (xbk [0, 1, 2, 3, 4, 5, 6, 7, 8, 9, 10, 11, 12] (xput (xput σ1 0 16 0) 13 4 v6) ς19) := f19.bk0 (by decide) (by decide) (by decide)
        replace p19 : CG (xbk [0, 1, 2, 3, 4, 5, 6, 7, 8, 9, 10, 11, 12] (xput (xput σ1 0 16 0) 13 4 v6) ς19) ∧ (xbk [0, 1, 2, 3, 4, 5, 6, 7, 8, 9, 10, 11, 12] (xput (xput σ1 0 16 0) 13 4 v6) ς19) 0 8 = (σ1 0 8) + 1 ∧ (r19 = 0 ∨ r19 = 1) := p19
        generalize xbk [0, 1, 2, 3, 4, 5, 6, 7, 8, 9, 10, 11, 12] (xput (xput σ1 0 16 0) 13 4 v6) ς19 = σ19 at f19 p19 ⊢
        have hF := hF.tr f19 (by decide) (by decide)
        have hC : CG σ19 := p19.1
        have hb1 := hC.1.2.1
        refine And.intro (fun c20 => ?_) (fun c20 => ?_)
        · refine hX 400 90 _ _ ?_
          refine And.intro (fun _ => ?_) (fun c21 => absurd (by decide) c21)
          refine xMVp (sh := shH) (ci := 2) (τ := [0, 1, 2, 3, 4, 5, 6, 7, 8, 9, 10, 11, 12]) (E := xT kX2_after) (t := 0) (r := [xvi p]) (σ := σ19) rfl rfl xbk_sel (fun Q22 hQ22 => sX2_after (σ := xsel [0, 1, 2, 3, 4, 5, 6, 7, 8, 9, 10, 11, 12] σ19) (p := p) (show 0 ≤ p ∧ p ≤ 5 from by omega) (show 0 ≤ (σ19 0 1) ∧ (σ19 0 1) ≤ 6 from by omega) (fun r22 p22 => hQ22 _ ?_))
          have p22 : 0 ≤ r22 ∧ r22 ≤ 5 := p22
          refine And.intro rfl ?_
          exact hQ _ _ hF ⟨hC, by omega⟩
        · refine And.intro (rfl) (And.intro (⟨by omega, by omega⟩) ?_)
          have hF := hF.pt (t := 13) (j := 5) (v := v6) (by decide) (by decide)
          have hC := hC.fr (ts := [13]) (js := []) (Fr.rf.pt (t := 13) (j := 5) (v := v6) (by decide) (by decide)) (by decide) (by decide) (by decide) (by decide) (by decide) (by decide) (by decide) (by decide)
          refine hX 400 90 _ _ ?_
          refine And.intro (fun _ => ?_) (fun c24 => absurd (by decide) c24)
          refine xMVp (sh := shH) (ci := 2) (τ := [0, 1, 2, 3, 4, 5, 6, 7, 8, 9, 10, 11, 12]) (E := xT kX2_after) (t := 0) (r := [xvi p]) (σ := (xput σ19 13 5 v6)) rfl rfl xbk_sel (fun Q25 hQ25 => sX2_after (σ := xsel [0, 1, 2, 3, 4, 5, 6, 7, 8, 9, 10, 11, 12] (xput σ19 13 5 v6)) (p := p) (show 0 ≤ p ∧ p ≤ 5 from by omega) (show 0 ≤ (σ19 0 1) ∧ (σ19 0 1) ≤ 6 from by omega) (fun r25 p25 => hQ25 _ ?_))
          have p25 : 0 ≤ r25 ∧ r25 ≤ 5 := p25
          refine And.intro rfl ?_
          exact hQ _ _ hF ⟨hC, by omega⟩
      · refine And.intro (Nat.le_of_ble_eq_true rfl) ?_
        show xw _ _ _ _ _ _ _ _ _ _ [xvr 0, xvi p, xvi q, xvi kind, xvr 13, xvi v6, xvi 1] _ _
        refine And.intro (rfl) (And.intro (⟨by omega, by omega⟩) ?_)
        have hF := hF.pt (t := 13) (j := 4) (v := v6) (by decide) (by decide)
        have hC := hC.fr (ts := [13]) (js := []) (Fr.rf.pt (t := 13) (j := 4) (v := v6) (by decide) (by decide)) (by decide) (by decide) (by decide) (by decide) (by decide) (by decide) (by decide) (by decide)
        refine xMVf (sh := shH) (ci := 2) (τ := [0, 1, 2, 3, 4, 5, 6, 7, 8, 9, 10, 11, 12]) (E := xT kX2_drawCard) (t := 0) (r := [xvi p, xvi 1]) (σ := (xput (xput σ1 0 16 0) 13 4 v6)) rfl rfl (fun Q27 hQ27 => sX2_drawCard (σ := xsel [0, 1, 2, 3, 4, 5, 6, 7, 8, 9, 10, 11, 12] (xput (xput σ1 0 16 0) 13 4 v6)) (p := p) (shown := 1) (show CG (xput (xput σ1 0 16 0) 13 4 v6) from hC) (show 0 ≤ p ∧ p ≤ 5 from by omega) (show (σ1 0 8) < (σ1 0 9) from by omega) (fun r27 ς27 f27 p27 => hQ27 _ _ ?_))
        replace f27 : Fr [2, 3, 5, 8, 9, 10, 11, 12] [8] (xput (xput σ1 0 16 0) 13 4 v6) (xbk [0, 1, 2, 3, 4, 5, 6, 7, 8, 9, 10, 11, 12] (xput (xput σ1 0 16 0) 13 4 v6) ς27) := f27.bk0 (by decide) (by decide) (by decide)
        replace p27 : CG (xbk [0, 1, 2, 3, 4, 5, 6, 7, 8, 9, 10, 11, 12] (xput (xput σ1 0 16 0) 13 4 v6) ς27) ∧ (xbk [0, 1, 2, 3, 4, 5, 6, 7, 8, 9, 10, 11, 12] (xput (xput σ1 0 16 0) 13 4 v6) ς27) 0 8 = (σ1 0 8) + 1 ∧ (r27 = 0 ∨ r27 = 1) := p27
        generalize xbk [0, 1, 2, 3, 4, 5, 6, 7, 8, 9, 10, 11, 12] (xput (xput σ1 0 16 0) 13 4 v6) ς27 = σ27 at f27 p27 ⊢
        have hF := hF.tr f27 (by decide) (by decide)
        have hC : CG σ27 := p27.1
        have hb1 := hC.1.2.1
        refine And.intro (fun c28 => ?_) (fun c28 => ?_)
        · refine hX 400 90 _ _ ?_
          refine And.intro (fun c29 => absurd c29 (by decide)) (fun _ => ?_)
          refine And.intro rfl ?_
          exact hQ _ _ hF ⟨hC, by omega⟩
        · refine And.intro (rfl) (And.intro (⟨by omega, by omega⟩) ?_)
          have hF := hF.pt (t := 13) (j := 5) (v := v6) (by decide) (by decide)
          have hC := hC.fr (ts := [13]) (js := []) (Fr.rf.pt (t := 13) (j := 5) (v := v6) (by decide) (by decide)) (by decide) (by decide) (by decide) (by decide) (by decide) (by decide) (by decide) (by decide)
          refine hX 400 90 _ _ ?_
          refine And.intro (fun c31 => absurd c31 (by decide)) (fun _ => ?_)
          refine And.intro rfl ?_
          exact hQ _ _ hF ⟨hC, by omega⟩
  · intro v32 e32 l32 h32
    have e32 : v32 = σ1 0 16 := e32
    intro z33 t33 e33 l33 h33
    try have w33 : t33 = 0 := by omega
    have hF := hF.p (j := 16) (v := z33) (by decide)
    have hC := hC.fr (ts := []) (js := [16]) (Fr.rf.p (j := 16) (v := z33) (by decide)) (by decide) (by decide) (by decide) (by decide) (by decide) (by decide) (by decide) (by decide)
    refine xMVp (sh := shH) (ci := 2) (τ := [0, 1, 2, 3, 4, 5, 6, 7, 8, 9, 10, 11, 12]) (E := xT kX2_after) (t := 0) (r := [xvi p]) (σ := (xput σ1 0 16 z33)) rfl rfl xbk_sel (fun Q35 hQ35 => sX2_after (σ := xsel [0, 1, 2, 3, 4, 5, 6, 7, 8, 9, 10, 11, 12] (xput σ1 0 16 z33)) (p := p) (show 0 ≤ p ∧ p ≤ 5 from by omega) (show 0 ≤ (σ1 0 1) ∧ (σ1 0 1) ≤ 6 from by omega) (fun r35 p35 => hQ35 _ ?_))
    have p35 : 0 ≤ r35 ∧ r35 ≤ 5 := p35
    refine And.intro rfl ?_
    exact hQ _ _ hF ⟨hC, by omega⟩
