set_option maxHeartbeats 4000000 in
set_option maxRecDepth 100000 in
theorem sX2_sayNo {σ : xS} {p q kind : Int} {Q : Option xV → xS → Prop} (hp0 : CG σ) (hp1 : 0 ≤ p ∧ p ≤ 5) (hp2 : 0 ≤ q ∧ q ≤ 5) (hp3 : 0 ≤ kind ∧ kind ≤ 12) (hQ : ∀ r : Int, ∀ σ' : xS, Fr [2, 3, 5, 6, 7, 8, 9, 10, 11, 12, 13] [8, 14, 15, 16] σ σ' → (CG σ' ∧ (0 ≤ r ∧ r ≤ 5)) → Q (some (xvi r)) σ') : xT kX2_sayNo [xvr 0, xvi p, xvi q, xvi kind, xvr 13] σ Q := by
  refine ⟨Nat.le_of_ble_eq_true rfl, fun X hX => ?_⟩
  show X 0 [xvr 0, xvi p, xvi q, xvi kind, xvr 13, xvu, xvu] σ
  have hF : Fr [2, 3, 5, 6, 7, 8, 9, 10, 11, 12, 13] [8, 14, 15, 16] σ σ := Fr.rf
  refine hX 400 0 _ _ ?_
  have hu := hp0.uI hp2 hp3; have hh := hp0.hI hp2 hp3; have hz9 := hp0.2.2.2
  refine xMVf (sh := shH) (ci := 3) (τ := [0, 1, 2, 3, 4, 5, 6, 7, 8, 9, 10, 11, 12]) (E := xT kX3_denies) (t := 9) (r := [xvi q, xvi kind]) (σ := σ) rfl rfl (fun Q1 hQ1 => sX3_denies (σ := xsel [0, 1, 2, 3, 4, 5, 6, 7, 8, 9, 10, 11, 12] σ) (p := q) (kind := kind) (show 0 ≤ q ∧ q ≤ 5 from by omega) (show 0 ≤ kind ∧ kind ≤ 12 from by omega) (show 0 ≤ (σ 9 2) ∧ (σ 9 2) ≤ 52 from by omega) (show σ 10 (13 * q + kind).toNat ≤ 1000 from by omega) (fun ς1 f1 p1 => hQ1 _ _ ?_))
  replace f1 : Fr [9, 10, 11, 12] [] σ (xbk [0, 1, 2, 3, 4, 5, 6, 7, 8, 9, 10, 11, 12] σ ς1) := f1.bk0 (by decide) (by decide) (by decide)
  replace p1 : (0 ≤ (xbk [0, 1, 2, 3, 4, 5, 6, 7, 8, 9, 10, 11, 12] σ ς1) 9 2 ∧ (xbk [0, 1, 2, 3, 4, 5, 6, 7, 8, 9, 10, 11, 12] σ ς1) 9 2 ≤ 52) ∧ (((xbk [0, 1, 2, 3, 4, 5, 6, 7, 8, 9, 10, 11, 12] σ ς1) 10 = σ 10 ∧ σ 10 (13 * q + kind).toNat ≤ 0) ∨ (xbk [0, 1, 2, 3, 4, 5, 6, 7, 8, 9, 10, 11, 12] σ ς1) 10 = up (σ 10) (13 * q + kind).toNat 0) := p1
  generalize xbk [0, 1, 2, 3, 4, 5, 6, 7, 8, 9, 10, 11, 12] σ ς1 = σ1 at f1 p1 ⊢
  have hF := hF.tr f1 (by decide) (by decide)
  have hC : CG σ1 := hp0.sure (p := q) (kind := kind) (by omega) (by omega) f1 (by decide) (by decide) (by decide) (by decide) (by decide) (by decide) (fun j hj => by
      rcases p1.2 with z | z
      · rw [z.1]
      · rw [z, up_n hj]) (by
      rcases p1.2 with z | z
      · rw [z.1]; omega
      · rw [z, up_s]; omega) p1.1
  have hr := hC.1.2.2.1; have hb1 := hC.1.2.1
  refine xMVp (sh := shH) (ci := 2) (τ := [0, 1, 2, 3, 4, 5, 6, 7, 8, 9, 10, 11, 12]) (E := xT kX2_heapSize) (t := 0) (r := []) (σ := σ1) rfl rfl xbk_sel (fun Q2 hQ2 => sX2_heapSize (σ := xsel [0, 1, 2, 3, 4, 5, 6, 7, 8, 9, 10, 11, 12] σ1)  (show 0 ≤ (σ1 0 8) ∧ (σ1 0 8) ≤ (σ1 0 9) ∧ (σ1 0 9) ≤ 52 from by omega) (fun r2 p2 => hQ2 _ ?_))
  have p2 : r2 = (σ1 0 9) - (σ1 0 8) := p2
  refine And.intro (fun c3 => ?_) (fun c3 => ?_)
  · have hF := hF.p (j := 16) (v := 0) (by decide)
    have hC := hC.fr (ts := []) (js := [16]) (Fr.rf.p (j := 16) (v := 0) (by decide)) (by decide) (by decide) (by decide) (by decide) (by decide) (by decide) (by decide) (by decide)
    intro v5 e5 l5 h5
    have e5 : v5 = σ1 0 8 := e5
    refine And.intro (rfl) (And.intro (⟨by omega, by omega⟩) ?_)
    intro v6 e6 l6 h6
    have e6 : v6 = σ1 4 v5.toNat := e6
    refine And.intro (Nat.le_of_ble_eq_true rfl) ?_
    show xw _ _ _ _ _ _ _ _ _ _ [xvr 0, xvi p, xvi q, xvi kind, xvr 13, xvi v6, xvu] _ _
    intro v7 e7 l7 h7
    have e7 : v7 = σ1 0 2 := e7
    refine And.intro (fun c8 => ?_) (fun c8 => ?_)
    · refine hX 400 65 _ _ ?_
      refine And.intro (Nat.le_of_ble_eq_true rfl) ?_
      show xw _ _ _ _ _ _ _ _ _ _ [xvr 0, xvi p, xvi q, xvi kind, xvr 13, xvi v6, xvi 0] _ _
      refine And.intro (rfl) (And.intro (⟨by omega, by omega⟩) ?_)
      have hF := hF.pt (t := 13) (j := 4) (v := v6) (by decide) (by decide)
      have hC := hC.fr (ts := [13]) (js := []) (Fr.rf.pt (t := 13) (j := 4) (v := v6) (by decide) (by decide)) (by decide) (by decide) (by decide) (by decide) (by decide) (by decide) (by decide) (by decide)
      refine xMVf (sh := shH) (ci := 2) (τ := [0, 1, 2, 3, 4, 5, 6, 7, 8, 9, 10, 11, 12]) (E := xT kX2_drawCard) (t := 0) (r := [xvi p, xvi 0]) (σ := (xput (xput σ1 0 16 0) 13 4 v6)) rfl rfl (fun Q10 hQ10 => sX2_drawCard (σ := xsel [0, 1, 2, 3, 4, 5, 6, 7, 8, 9, 10, 11, 12] (xput (xput σ1 0 16 0) 13 4 v6)) (p := p) (shown := 0) (show CG (xput (xput σ1 0 16 0) 13 4 v6) from hC) (show 0 ≤ p ∧ p ≤ 5 from by omega) (show (σ1 0 8) < (σ1 0 9) from by omega) (fun r10 ς10 f10 p10 => hQ10 _ _ ?_))
      replace f10 : Fr [2, 3, 5, 8, 9, 10, 11, 12] [8] (xput (xput σ1 0 16 0) 13 4 v6) (xbk [0, 1, 2, 3, 4, 5, 6, 7, 8, 9, 10, 11, 12] (xput (xput σ1 0 16 0) 13 4 v6) ς10) := f10.bk0 (by decide) (by decide) (by decide)
      replace p10 : CG (xbk [0, 1, 2, 3, 4, 5, 6, 7, 8, 9, 10, 11, 12] (xput (xput σ1 0 16 0) 13 4 v6) ς10) ∧ (xbk [0, 1, 2, 3, 4, 5, 6, 7, 8, 9, 10, 11, 12] (xput (xput σ1 0 16 0) 13 4 v6) ς10) 0 8 = (σ1 0 8) + 1 ∧ (r10 = 0 ∨ r10 = 1) := p10
      generalize xbk [0, 1, 2, 3, 4, 5, 6, 7, 8, 9, 10, 11, 12] (xput (xput σ1 0 16 0) 13 4 v6) ς10 = σ10 at f10 p10 ⊢
      have hF := hF.tr f10 (by decide) (by decide)
      have hC : CG σ10 := p10.1
      have hb1 := hC.1.2.1
      refine And.intro (fun c11 => ?_) (fun c11 => ?_)
      · refine hX 400 90 _ _ ?_
        refine And.intro (fun _ => ?_) (fun c12 => absurd (by decide) c12)
        refine xMVp (sh := shH) (ci := 2) (τ := [0, 1, 2, 3, 4, 5, 6, 7, 8, 9, 10, 11, 12]) (E := xT kX2_after) (t := 0) (r := [xvi p]) (σ := σ10) rfl rfl xbk_sel (fun Q13 hQ13 => sX2_after (σ := xsel [0, 1, 2, 3, 4, 5, 6, 7, 8, 9, 10, 11, 12] σ10) (p := p) (show 0 ≤ p ∧ p ≤ 5 from by omega) (show 0 ≤ (σ10 0 1) ∧ (σ10 0 1) ≤ 6 from by omega) (fun r13 p13 => hQ13 _ ?_))
        have p13 : 0 ≤ r13 ∧ r13 ≤ 5 := p13
        refine And.intro rfl ?_
        exact hQ _ _ hF ⟨hC, by omega⟩
      · refine And.intro (rfl) (And.intro (⟨by omega, by omega⟩) ?_)
        have hF := hF.pt (t := 13) (j := 5) (v := v6) (by decide) (by decide)
        have hC := hC.fr (ts := [13]) (js := []) (Fr.rf.pt (t := 13) (j := 5) (v := v6) (by decide) (by decide)) (by decide) (by decide) (by decide) (by decide) (by decide) (by decide) (by decide) (by decide)
        refine hX 400 90 _ _ ?_
        refine And.intro (fun _ => ?_) (fun c15 => absurd (by decide) c15)
        refine xMVp (sh := shH) (ci := 2) (τ := [0, 1, 2, 3, 4, 5, 6, 7, 8, 9, 10, 11, 12]) (E := xT kX2_after) (t := 0) (r := [xvi p]) (σ := (xput σ10 13 5 v6)) rfl rfl xbk_sel (fun Q16 hQ16 => sX2_after (σ := xsel [0, 1, 2, 3, 4, 5, 6, 7, 8, 9, 10, 11, 12] (xput σ10 13 5 v6)) (p := p) (show 0 ≤ p ∧ p ≤ 5 from by omega) (show 0 ≤ (σ10 0 1) ∧ (σ10 0 1) ≤ 6 from by omega) (fun r16 p16 => hQ16 _ ?_))
        have p16 : 0 ≤ r16 ∧ r16 ≤ 5 := p16
        refine And.intro rfl ?_
        exact hQ _ _ hF ⟨hC, by omega⟩
    · refine And.intro (fun c17 => ?_) (fun c17 => ?_)
      · refine hX 400 65 _ _ ?_
        refine And.intro (Nat.le_of_ble_eq_true rfl) ?_
        show xw _ _ _ _ _ _ _ _ _ _ [xvr 0, xvi p, xvi q, xvi kind, xvr 13, xvi v6, xvi 0] _ _
        refine And.intro (rfl) (And.intro (⟨by omega, by omega⟩) ?_)
        have hF := hF.pt (t := 13) (j := 4) (v := v6) (by decide) (by decide)
        have hC := hC.fr (ts := [13]) (js := []) (Fr.rf.pt (t := 13) (j := 4) (v := v6) (by decide) (by decide)) (by decide) (by decide) (by decide) (by decide) (by decide) (by decide) (by decide) (by decide)
        refine xMVf (sh := shH) (ci := 2) (τ := [0, 1, 2, 3, 4, 5, 6, 7, 8, 9, 10, 11, 12]) (E := xT kX2_drawCard) (t := 0) (r := [xvi p, xvi 0]) (σ := (xput (xput σ1 0 16 0) 13 4 v6)) rfl rfl (fun Q19 hQ19 => sX2_drawCard (σ := xsel [0, 1, 2, 3, 4, 5, 6, 7, 8, 9, 10, 11, 12] (xput (xput σ1 0 16 0) 13 4 v6)) (p := p) (shown := 0) (show CG (xput (xput σ1 0 16 0) 13 4 v6) from hC) (show 0 ≤ p ∧ p ≤ 5 from by omega) (show (σ1 0 8) < (σ1 0 9) from by omega) (fun r19 ς19 f19 p19 => hQ19 _ _ ?_))
        replace f19 : Fr [2, 3, 5, 8, 9, 10, 11, 12] [8] (xput (xput σ1 0 16 0) 13 4 v6) (xbk [0, 1, 2, 3, 4, 5, 6, 7, 8, 9, 10, 11, 12] (xput (xput σ1 0 16 0) 13 4 v6) ς19) := f19.bk0 (by decide) (by decide) (by decide)
        replace p19 : CG (xbk [0, 1, 2, 3, 4, 5, 6, 7, 8, 9, 10, 11, 12] (xput (xput σ1 0 16 0) 13 4 v6) ς19) ∧ (xbk [0, 1, 2, 3, 4, 5, 6, 7, 8, 9, 10, 11, 12] (xput (xput σ1 0 16 0) 13 4 v6) ς19) 0 8 = (σ1 0 8) + 1 ∧ (r19 = 0 ∨ r19 = 1) := p19
        generalize xbk [0, 1, 2, 3, 4, 5, 6, 7, 8, 9, 10, 11, 12] (xput (xput σ1 0 16 0) 13 4 v6) ς19 = σ19 at f19 p19 ⊢
        have hF := hF.tr f19 (by decide) (by decide)
        have hC : CG σ19 := p19.1
        have hb1 := hC.1.2.1
        refine And.intro (fun c20 => ?_) (fun c20 => ?_)
        · refine hX 400 90 _ _ ?_
          refine And.intro (fun _ => ?_) (fun c21 => absurd (by decide) c21)
          refine xMVp (sh := shH) (ci := 2) (τ := [0, 1, 2, 3, 4, 5, 6, 7, 8, 9, 10, 11, 12]) (E := xT kX2_after) (t := 0) (r := [xvi p]) (σ := σ19) rfl rfl xbk_sel (fun Q22 hQ22 => sX2_after (σ := xsel [0, 1, 2, 3, 4, 5, 6, 7, 8, 9, 10, 11, 12] σ19) (p := p) (show 0 ≤ p ∧ p ≤ 5 from by omega) (show 0 ≤ (σ19 0 1) ∧ (σ19 0 1) ≤ 6 from by omega) (fun r22 p22 => hQ22 _ ?_))
          have p22 : 0 ≤ r22 ∧ r22 ≤ 5 := p22
          refine And.intro rfl ?_
          exact hQ _ _ hF ⟨hC, by omega⟩
        · refine And.intro (rfl) (And.intro (⟨by omega, by omega⟩) ?_)
          have hF := hF.pt (t := 13) (j := 5) (v := v6) (by decide) (by decide)
          have hC := hC.fr (ts := [13]) (js := []) (Fr.rf.pt (t := 13) (j := 5) (v := v6) (by decide) (by decide)) (by decide) (by decide) (by decide) (by decide) (by decide) (by decide) (by decide) (by decide)
          refine hX 400 90 _ _ ?_
          refine And.intro (fun _ => ?_) (fun c24 => absurd (by decide) c24)
          refine xMVp (sh := shH) (ci := 2) (τ := [0, 1, 2, 3, 4, 5, 6, 7, 8, 9, 10, 11, 12]) (E := xT kX2_after) (t := 0) (r := [xvi p]) (σ := (xput σ19 13 5 v6)) rfl rfl xbk_sel (fun Q25 hQ25 => sX2_after (σ := xsel [0, 1, 2, 3, 4, 5, 6, 7, 8, 9, 10, 11, 12] (xput σ19 13 5 v6)) (p := p) (show 0 ≤ p ∧ p ≤ 5 from by omega) (show 0 ≤ (σ19 0 1) ∧ (σ19 0 1) ≤ 6 from by omega) (fun r25 p25 => hQ25 _ ?_))
          have p25 : 0 ≤ r25 ∧ r25 ≤ 5 := p25
          refine And.intro rfl ?_
          exact hQ _ _ hF ⟨hC, by omega⟩
      · refine And.intro (Nat.le_of_ble_eq_true rfl) ?_
        show xw _ _ _ _ _ _ _ _ _ _ [xvr 0, xvi p, xvi q, xvi kind, xvr 13, xvi v6, xvi 1] _ _
        refine And.intro (rfl) (And.intro (⟨by omega, by omega⟩) ?_)
        have hF := hF.pt (t := 13) (j := 4) (v := v6) (by decide) (by decide)
        have hC := hC.fr (ts := [13]) (js := []) (Fr.rf.pt (t := 13) (j := 4) (v := v6) (by decide) (by decide)) (by decide) (by decide) (by decide) (by decide) (by decide) (by decide) (by decide) (by decide)
        refine xMVf (sh := shH) (ci := 2) (τ := [0, 1, 2, 3, 4, 5, 6, 7, 8, 9, 10, 11, 12]) (E := xT kX2_drawCard) (t := 0) (r := [xvi p, xvi 1]) (σ := (xput (xput σ1 0 16 0) 13 4 v6)) rfl rfl (fun Q27 hQ27 => sX2_drawCard (σ := xsel [0, 1, 2, 3, 4, 5, 6, 7, 8, 9, 10, 11, 12] (xput (xput σ1 0 16 0) 13 4 v6)) (p := p) (shown := 1) (show CG (xput (xput σ1 0 16 0) 13 4 v6) from hC) (show 0 ≤ p ∧ p ≤ 5 from by omega) (show (σ1 0 8) < (σ1 0 9) from by omega) (fun r27 ς27 f27 p27 => hQ27 _ _ ?_))
        replace f27 : Fr [2, 3, 5, 8, 9, 10, 11, 12] [8] (xput (xput σ1 0 16 0) 13 4 v6) (xbk [0, 1, 2, 3, 4, 5, 6, 7, 8, 9, 10, 11, 12] (xput (xput σ1 0 16 0) 13 4 v6) ς27) := f27.bk0 (by decide) (by decide) (by decide)
        replace p27 : CG (xbk [0, 1, 2, 3, 4, 5, 6, 7, 8, 9, 10, 11, 12] (xput (xput σ1 0 16 0) 13 4 v6) ς27) ∧ (xbk [0, 1, 2, 3, 4, 5, 6, 7, 8, 9, 10, 11, 12] (xput (xput σ1 0 16 0) 13 4 v6) ς27) 0 8 = (σ1 0 8) + 1 ∧ (r27 = 0 ∨ r27 = 1) := p27
        generalize xbk [0, 1, 2, 3, 4, 5, 6, 7, 8, 9, 10, 11, 12] (xput (xput σ1 0 16 0) 13 4 v6) ς27 = σ27 at f27 p27 ⊢
        have hF := hF.tr f27 (by decide) (by decide)
        have hC : CG σ27 := p27.1
        have hb1 := hC.1.2.1
        refine And.intro (fun c28 => ?_) (fun c28 => ?_)
        · refine hX 400 90 _ _ ?_
          refine And.intro (fun c29 => absurd c29 (by decide)) (fun _ => ?_)
          refine And.intro rfl ?_
          exact hQ _ _ hF ⟨hC, by omega⟩
        · refine And.intro (rfl) (And.intro (⟨by omega, by omega⟩) ?_)
          have hF := hF.pt (t := 13) (j := 5) (v := v6) (by decide) (by decide)
          have hC := hC.fr (ts := [13]) (js := []) (Fr.rf.pt (t := 13) (j := 5) (v := v6) (by decide) (by decide)) (by decide) (by decide) (by decide) (by decide) (by decide) (by decide) (by decide) (by decide)
          refine hX 400 90 _ _ ?_
          refine And.intro (fun c31 => absurd c31 (by decide)) (fun _ => ?_)
          refine And.intro rfl ?_
          exact hQ _ _ hF ⟨hC, by omega⟩
  · intro v32 e32 l32 h32
    have e32 : v32 = σ1 0 16 := e32
    intro z33 t33 e33 l33 h33
    try have w33 : t33 = 0 := by omega
    have hF := hF.p (j := 16) (v := z33) (by decide)
    have hC := hC.fr (ts := []) (js := [16]) (Fr.rf.p (j := 16) (v := z33) (by decide)) (by decide) (by decide) (by decide) (by decide) (by decide) (by decide) (by decide) (by decide)
    refine xMVp (sh := shH) (ci := 2) (τ := [0, 1, 2, 3, 4, 5, 6, 7, 8, 9, 10, 11, 12]) (E := xT kX2_after) (t := 0) (r := [xvi p]) (σ := (xput σ1 0 16 z33)) rfl rfl xbk_sel (fun Q35 hQ35 => sX2_after (σ := xsel [0, 1, 2, 3, 4, 5, 6, 7, 8, 9, 10, 11, 12] (xput σ1 0 16 z33)) (p := p) (show 0 ≤ p ∧ p ≤ 5 from by omega) (show 0 ≤ (σ1 0 1) ∧ (σ1 0 1) ≤ 6 from by omega) (fun r35 p35 => hQ35 _ ?_))
    have p35 : 0 ≤ r35 ∧ r35 ≤ 5 := p35
    refine And.intro rfl ?_
    exact hQ _ _ hF ⟨hC, by omega⟩
set_option maxHeartbeats 4000000 in
set_option maxRecDepth 100000 in
theorem sX2_give {σ : xS} {p q kind : Int} {Q : Option xV → xS → Prop} (hp0 : CG σ) (hp1 : 0 ≤ p ∧ p ≤ 5) (hp2 : 0 ≤ q ∧ q ≤ 5) (hp3 : 0 ≤ kind ∧ kind ≤ 12) (hp4 : σ 13 3 = σ 2 (13 * q + kind).toNat) (hQ : ∀ r : Int, ∀ σ' : xS, Fr [2, 3, 5, 6, 7, 8, 9, 10, 11, 12, 13] [8, 14, 15, 16] σ σ' → (CG σ' ∧ (0 ≤ r ∧ r ≤ 5)) → Q (some (xvi r)) σ') : xT kX2_give [xvr 0, xvi p, xvi q, xvi kind, xvr 13] σ Q := by
  refine ⟨Nat.le_of_ble_eq_true rfl, fun X hX => ?_⟩
  show X 0 [xvr 0, xvi p, xvi q, xvi kind, xvr 13, xvu, xvu] σ
  have hF : Fr [2, 3, 5, 6, 7, 8, 9, 10, 11, 12, 13] [8, 14, 15, 16] σ σ := Fr.rf
  refine hX 400 0 _ _ ?_
  have hu := hp0.uI hp2 hp3; have hh := hp0.hI hp2 hp3; have hz9 := hp0.2.2.2; have hup := hp0.uI hp1 hp3; have hhp := hp0.hI hp1 hp3
  refine And.intro (rfl) (And.intro (⟨by omega, by omega⟩) ?_)
  intro v1 e1 l1 h1
  have e1 : v1 = σ 13 3 := e1
  refine And.intro (Nat.le_of_ble_eq_true rfl) ?_
  show xw _ _ _ _ _ _ _ _ _ _ [xvr 0, xvi p, xvi q, xvi kind, xvr 13, xvi v1, xvu] _ _
  refine xMVp (sh := shH) (ci := 3) (τ := [0, 1, 2, 3, 4, 5, 6, 7, 8, 9, 10, 11, 12]) (E := xT kX3_sureOf) (t := 9) (r := [xvi q, xvi kind]) (σ := σ) rfl rfl xbk_sel (fun Q2 hQ2 => sX3_sureOf (σ := xsel [0, 1, 2, 3, 4, 5, 6, 7, 8, 9, 10, 11, 12] σ) (p := q) (kind := kind) (show 0 ≤ q ∧ q ≤ 5 from by omega) (show 0 ≤ kind ∧ kind ≤ 12 from by omega) (fun r2 p2 => hQ2 _ ?_))
  have p2 : r2 = σ 10 (13 * q + kind).toNat := p2
  have hsq := p2
  refine And.intro (Nat.le_of_ble_eq_true rfl) ?_
  show xw _ _ _ _ _ _ _ _ _ _ [xvr 0, xvi p, xvi q, xvi kind, xvr 13, xvi v1, xvi r2] _ _
  have lp_17 : ∀ (m17 : Nat) (i : Int) (s1 : xS), ((5 - i).toNat) = m17 → (Fr [2, 3, 5, 6, 7, 8, 9, 10, 11, 12, 13] [8, 14, 15, 16] σ s1 ∧ Fr [2, 3, 9, 10, 11, 12] [] σ s1 ∧ (∀ j, j ≠ (13 * q + kind).toNat → s1 10 j = σ 10 j) ∧ (0 ≤ s1 10 (13 * q + kind).toNat ∧ s1 10 (13 * q + kind).toNat ≤ i) ∧ (0 ≤ s1 9 2 ∧ s1 9 2 ≤ 52) ∧ s1 2 = σ 2 ∧ (0 ≤ i ∧ i ≤ 5)) → X 17 [xvr 0, xvi p, xvi q, xvi kind, xvr 13, xvi v1, xvi i] s1 := by
    intro m17
    induction m17 using Nat.strongRecOn with
    | _ m17 ih_17 =>
    intro i s1 hm_17 hv_17
    obtain ⟨hF, hG, hO, h10, h92, h2s, hv_17⟩ := hv_17
    refine hX 400 17 _ _ ?_
    refine And.intro (fun c4 => ?_) (fun c4 => ?_)
    · refine xMVf (sh := shH) (ci := 3) (τ := [0, 1, 2, 3, 4, 5, 6, 7, 8, 9, 10, 11, 12]) (E := xT kX3_setSure) (t := 9) (r := [xvi q, xvi kind, xvi 0]) (σ := s1) rfl rfl (fun Q5 hQ5 => sX3_setSure (σ := xsel [0, 1, 2, 3, 4, 5, 6, 7, 8, 9, 10, 11, 12] s1) (p := q) (kind := kind) (cards := 0) (show 0 ≤ q ∧ q ≤ 5 from by omega) (show 0 ≤ kind ∧ kind ≤ 12 from by omega) (fun ς5 f5 p5 => hQ5 _ _ ?_))
      replace f5 : Fr [10] [] s1 (xbk [0, 1, 2, 3, 4, 5, 6, 7, 8, 9, 10, 11, 12] s1 ς5) := f5.bk0 (by decide) (by decide) (by decide)
      replace p5 : (xbk [0, 1, 2, 3, 4, 5, 6, 7, 8, 9, 10, 11, 12] s1 ς5) 10 = up (s1 10) (13 * q + kind).toNat 0 := p5
      generalize xbk [0, 1, 2, 3, 4, 5, 6, 7, 8, 9, 10, 11, 12] s1 ς5 = σ5 at f5 p5 ⊢
      have hF := hF.tr f5 (by decide) (by decide)
      have hG := hG.tr f5 (by decide) (by decide)
      have k10 := p5
      have k2 : σ5 2 = σ 2 := (f5.1 2 (by decide) (by decide)).trans h2s
      have k9 : σ5 9 2 = s1 9 2 := congrFun (f5.1 9 (by decide) (by decide)) 2
      refine xMVf (sh := shH) (ci := 3) (τ := [0, 1, 2, 3, 4, 5, 6, 7, 8, 9, 10, 11, 12]) (E := xT kX3_barAll) (t := 9) (r := [xvi q, xvi kind]) (σ := σ5) rfl rfl (fun Q6 hQ6 => sX3_barAll (σ := xsel [0, 1, 2, 3, 4, 5, 6, 7, 8, 9, 10, 11, 12] σ5) (p := q) (kind := kind) (show 0 ≤ (σ5 9 2) ∧ (σ5 9 2) ≤ 52 from by omega) (fun ς6 f6 => hQ6 _ _ ?_))
      replace f6 : Fr [11] [] σ5 (xbk [0, 1, 2, 3, 4, 5, 6, 7, 8, 9, 10, 11, 12] σ5 ς6) := f6.bk0 (by decide) (by decide) (by decide)
      generalize xbk [0, 1, 2, 3, 4, 5, 6, 7, 8, 9, 10, 11, 12] σ5 ς6 = σ6 at f6 ⊢
      have hF := hF.tr f6 (by decide) (by decide)
      have hG := hG.tr f6 (by decide) (by decide)
      have k10 := (f6.1 10 (by decide) (by decide)).trans k10
      have k2 : σ6 2 = σ 2 := (f6.1 2 (by decide) (by decide)).trans k2
      have k9 : σ6 9 2 = s1 9 2 := (congrFun (f6.1 9 (by decide) (by decide)) 2).trans k9
      refine xMVp (sh := shH) (ci := 3) (τ := [0, 1, 2, 3, 4, 5, 6, 7, 8, 9, 10, 11, 12]) (E := xT kX3_sureOf) (t := 9) (r := [xvi p, xvi kind]) (σ := σ6) rfl rfl xbk_sel (fun Q7 hQ7 => sX3_sureOf (σ := xsel [0, 1, 2, 3, 4, 5, 6, 7, 8, 9, 10, 11, 12] σ6) (p := p) (kind := kind) (show 0 ≤ p ∧ p ≤ 5 from by omega) (show 0 ≤ kind ∧ kind ≤ 12 from by omega) (fun r7 p7 => hQ7 _ ?_))
      have p7 : r7 = σ6 10 (13 * p + kind).toNat := p7
      have hsp := p7; rw [k10] at hsp
      have hub : 0 ≤ up (s1 10) (13 * q + kind).toNat 0 (13 * p + kind).toNat ∧ up (s1 10) (13 * q + kind).toNat 0 (13 * p + kind).toNat ≤ 5 := by
        by_cases e : (13 * p + kind).toNat = (13 * q + kind).toNat
        · rw [e, up_s]; omega
        · rw [up_n e, hO _ e]; omega
      intro z8 t8 e8 l8 h8
      try have w8 : t8 = 0 := by omega
      
      refine xMVf (sh := shH) (ci := 3) (τ := [0, 1, 2, 3, 4, 5, 6, 7, 8, 9, 10, 11, 12]) (E := xT kX3_setSure) (t := 9) (r := [xvi p, xvi kind, xvi z8]) (σ := σ6) rfl rfl (fun Q9 hQ9 => sX3_setSure (σ := xsel [0, 1, 2, 3, 4, 5, 6, 7, 8, 9, 10, 11, 12] σ6) (p := p) (kind := kind) (cards := z8) (show 0 ≤ p ∧ p ≤ 5 from by omega) (show 0 ≤ kind ∧ kind ≤ 12 from by omega) (fun ς9 f9 p9 => hQ9 _ _ ?_))
      replace f9 : Fr [10] [] σ6 (xbk [0, 1, 2, 3, 4, 5, 6, 7, 8, 9, 10, 11, 12] σ6 ς9) := f9.bk0 (by decide) (by decide) (by decide)
      replace p9 : (xbk [0, 1, 2, 3, 4, 5, 6, 7, 8, 9, 10, 11, 12] σ6 ς9) 10 = up (σ6 10) (13 * p + kind).toNat z8 := p9
      generalize xbk [0, 1, 2, 3, 4, 5, 6, 7, 8, 9, 10, 11, 12] σ6 ς9 = σ9 at f9 p9 ⊢
      have hF := hF.tr f9 (by decide) (by decide)
      have hG := hG.tr f9 (by decide) (by decide)
      have k10 : σ9 10 = up (up (s1 10) (13 * q + kind).toNat 0) (13 * p + kind).toNat (up (s1 10) (13 * q + kind).toNat 0 (13 * p + kind).toNat + v1) := by rw [p9, k10, show z8 = up (s1 10) (13 * q + kind).toNat 0 (13 * p + kind).toNat + v1 from by omega]
      have k2 : σ9 2 = σ 2 := (f9.1 2 (by decide) (by decide)).trans k2
      have k9 : σ9 9 2 = s1 9 2 := (congrFun (f9.1 9 (by decide) (by decide)) 2).trans k9
      intro z10 t10 e10 l10 h10
      try have w10 : t10 = 0 := by omega
      
      refine xMVf (sh := shH) (ci := 2) (τ := [0, 1, 2, 3, 4, 5, 6, 7, 8, 9, 10, 11, 12]) (E := xT kX2_addToHand) (t := 0) (r := [xvi q, xvi kind, xvi z10]) (σ := σ9) rfl rfl (fun Q11 hQ11 => sX2_addToHand (σ := xsel [0, 1, 2, 3, 4, 5, 6, 7, 8, 9, 10, 11, 12] σ9) (p := q) (kind := kind) (n := z10) (show 0 ≤ q ∧ q ≤ 5 from by omega) (show 0 ≤ kind ∧ kind ≤ 12 from by omega) (show -1000 ≤ σ9 2 (13 * q + kind).toNat + z10 ∧ σ9 2 (13 * q + kind).toNat + z10 ≤ 1000 from by rw [k2]; omega) (fun ς11 f11 p11 => hQ11 _ _ ?_))
      replace f11 : Fr [2, 3] [] σ9 (xbk [0, 1, 2, 3, 4, 5, 6, 7, 8, 9, 10, 11, 12] σ9 ς11) := f11.bk0 (by decide) (by decide) (by decide)
      replace p11 : (xbk [0, 1, 2, 3, 4, 5, 6, 7, 8, 9, 10, 11, 12] σ9 ς11) 2 = up (σ9 2) (13 * q + kind).toNat (σ9 2 (13 * q + kind).toNat + z10) := p11
      generalize xbk [0, 1, 2, 3, 4, 5, 6, 7, 8, 9, 10, 11, 12] σ9 ς11 = σ11 at f11 p11 ⊢
      have hF := hF.tr f11 (by decide) (by decide)
      have hG := hG.tr f11 (by decide) (by decide)
      have k2 : σ11 2 = up (σ 2) (13 * q + kind).toNat (σ 2 (13 * q + kind).toNat + -v1) := by rw [p11, k2, show z10 = -v1 from by omega]
      have k10 := (f11.1 10 (by decide) (by decide)).trans k10
      have k9 : σ11 9 2 = s1 9 2 := (congrFun (f11.1 9 (by decide) (by decide)) 2).trans k9
      refine xMVf (sh := shH) (ci := 2) (τ := [0, 1, 2, 3, 4, 5, 6, 7, 8, 9, 10, 11, 12]) (E := xT kX2_addToHand) (t := 0) (r := [xvi p, xvi kind, xvi v1]) (σ := σ11) rfl rfl (fun Q12 hQ12 => sX2_addToHand (σ := xsel [0, 1, 2, 3, 4, 5, 6, 7, 8, 9, 10, 11, 12] σ11) (p := p) (kind := kind) (n := v1) (show 0 ≤ p ∧ p ≤ 5 from by omega) (show 0 ≤ kind ∧ kind ≤ 12 from by omega) (show -1000 ≤ σ11 2 (13 * p + kind).toNat + v1 ∧ σ11 2 (13 * p + kind).toNat + v1 ≤ 1000 from by rw [k2]; unfold up; split <;> omega) (fun ς12 f12 p12 => hQ12 _ _ ?_))
      replace f12 : Fr [2, 3] [] σ11 (xbk [0, 1, 2, 3, 4, 5, 6, 7, 8, 9, 10, 11, 12] σ11 ς12) := f12.bk0 (by decide) (by decide) (by decide)
      replace p12 : (xbk [0, 1, 2, 3, 4, 5, 6, 7, 8, 9, 10, 11, 12] σ11 ς12) 2 = up (σ11 2) (13 * p + kind).toNat (σ11 2 (13 * p + kind).toNat + v1) := p12
      generalize xbk [0, 1, 2, 3, 4, 5, 6, 7, 8, 9, 10, 11, 12] σ11 ς12 = σ12 at f12 p12 ⊢
      have hF := hF.tr f12 (by decide) (by decide)
      have hG := hG.tr f12 (by decide) (by decide)
      have k2 : σ12 2 = up (up (σ 2) (13 * q + kind).toNat (σ 2 (13 * q + kind).toNat + -v1)) (13 * p + kind).toNat (up (σ 2) (13 * q + kind).toNat (σ 2 (13 * q + kind).toNat + -v1) (13 * p + kind).toNat + v1) := by rw [p12, k2]
      have k10 := (f12.1 10 (by decide) (by decide)).trans k10
      have k9 : σ12 9 2 = s1 9 2 := (congrFun (f12.1 9 (by decide) (by decide)) 2).trans k9
      have hC : CG σ12 := hp0.give (p := p) (q := q) (kind := kind) (g := v1) (w := s1 10) (by omega) (by omega) (by omega) (by omega) hG (by decide) (by decide) (by decide) (by decide) (by decide) k2 hO k10 (by omega)
      refine And.intro (rfl) (And.intro (⟨by omega, by omega⟩) ?_)
      intro v13 e13 l13 h13
      have e13 : v13 = σ12 7 p.toNat := e13
      intro z14 t14 e14 l14 h14
      try have w14 : t14 = 0 := by omega
      refine And.intro (rfl) (And.intro (⟨by omega, by omega⟩) ?_)
      have hF := hF.pt (t := 7) (j := p.toNat) (v := z14) (by decide) (by decide)
      have hC := hC.fr (ts := [7]) (js := []) (Fr.rf.pt (t := 7) (j := p.toNat) (v := z14) (by decide) (by decide)) (by decide) (by decide) (by decide) (by decide) (by decide) (by decide) (by decide) (by decide)
      have hF := hF.p (j := 16) (v := 0) (by decide)
      have hC := hC.fr (ts := []) (js := [16]) (Fr.rf.p (j := 16) (v := 0) (by decide)) (by decide) (by decide) (by decide) (by decide) (by decide) (by decide) (by decide) (by decide)
      refine xMVf (sh := shH) (ci := 2) (τ := [0, 1, 2, 3, 4, 5, 6, 7, 8, 9, 10, 11, 12]) (E := xT kX2_layDown) (t := 0) (r := [xvi p, xvi kind]) (σ := (xput (xput σ12 7 p.toNat z14) 0 16 0)) rfl rfl (fun Q17 hQ17 => sX2_layDown (σ := xsel [0, 1, 2, 3, 4, 5, 6, 7, 8, 9, 10, 11, 12] (xput (xput σ12 7 p.toNat z14) 0 16 0)) (p := p) (kind := kind) (show CG (xput (xput σ12 7 p.toNat z14) 0 16 0) from hC) (show 0 ≤ p ∧ p ≤ 5 from by omega) (show 0 ≤ kind ∧ kind ≤ 12 from by omega) (fun r17 ς17 f17 p17 => hQ17 _ _ ?_))
      replace f17 : Fr [2, 3, 5, 9, 10, 11, 12] [] (xput (xput σ12 7 p.toNat z14) 0 16 0) (xbk [0, 1, 2, 3, 4, 5, 6, 7, 8, 9, 10, 11, 12] (xput (xput σ12 7 p.toNat z14) 0 16 0) ς17) := f17.bk0 (by decide) (by decide) (by decide)
      replace p17 : CG (xbk [0, 1, 2, 3, 4, 5, 6, 7, 8, 9, 10, 11, 12] (xput (xput σ12 7 p.toNat z14) 0 16 0) ς17) ∧ (r17 = 0 ∨ r17 = 1) := p17
      generalize xbk [0, 1, 2, 3, 4, 5, 6, 7, 8, 9, 10, 11, 12] (xput (xput σ12 7 p.toNat z14) 0 16 0) ς17 = σ17 at f17 p17 ⊢
      have hF := hF.tr f17 (by decide) (by decide)
      have hC : CG σ17 := p17.1
      have p17 := p17.2
      refine And.intro (fun c18 => ?_) (fun c18 => ?_)
      · refine hX 400 126 _ _ ?_
        refine And.intro rfl ?_
        exact hQ _ _ hF ⟨hC, by omega⟩
      · refine And.intro (rfl) (And.intro (⟨by omega, by omega⟩) ?_)
        have hF := hF.pt (t := 13) (j := 5) (v := kind) (by decide) (by decide)
        have hC := hC.fr (ts := [13]) (js := []) (Fr.rf.pt (t := 13) (j := 5) (v := kind) (by decide) (by decide)) (by decide) (by decide) (by decide) (by decide) (by decide) (by decide) (by decide) (by decide)
        refine hX 400 126 _ _ ?_
        refine And.intro rfl ?_
        exact hQ _ _ hF ⟨hC, by omega⟩
    · refine xMVf (sh := shH) (ci := 3) (τ := [0, 1, 2, 3, 4, 5, 6, 7, 8, 9, 10, 11, 12]) (E := xT kX3_reveal) (t := 9) (r := [xvi q, xvi kind]) (σ := s1) rfl rfl (fun Q20 hQ20 => sX3_reveal (σ := xsel [0, 1, 2, 3, 4, 5, 6, 7, 8, 9, 10, 11, 12] s1) (p := q) (kind := kind) (show 0 ≤ q ∧ q ≤ 5 from by omega) (show 0 ≤ kind ∧ kind ≤ 12 from by omega) (show 0 ≤ (s1 9 2) ∧ (s1 9 2) ≤ 52 from by omega) (show -1000 ≤ s1 10 (13 * q + kind).toNat ∧ s1 10 (13 * q + kind).toNat ≤ 1000 from by omega) (fun ς20 f20 p20 => hQ20 _ _ ?_))
      replace f20 : Fr [9, 10, 11, 12] [] s1 (xbk [0, 1, 2, 3, 4, 5, 6, 7, 8, 9, 10, 11, 12] s1 ς20) := f20.bk0 (by decide) (by decide) (by decide)
      replace p20 : (0 ≤ (xbk [0, 1, 2, 3, 4, 5, 6, 7, 8, 9, 10, 11, 12] s1 ς20) 9 2 ∧ (xbk [0, 1, 2, 3, 4, 5, 6, 7, 8, 9, 10, 11, 12] s1 ς20) 9 2 ≤ 52) ∧ ((xbk [0, 1, 2, 3, 4, 5, 6, 7, 8, 9, 10, 11, 12] s1 ς20) 10 = s1 10 ∨ (xbk [0, 1, 2, 3, 4, 5, 6, 7, 8, 9, 10, 11, 12] s1 ς20) 10 = up (s1 10) (13 * q + kind).toNat (s1 10 (13 * q + kind).toNat + 1)) := p20
      generalize xbk [0, 1, 2, 3, 4, 5, 6, 7, 8, 9, 10, 11, 12] s1 ς20 = σ20 at f20 p20 ⊢
      have hF := hF.tr f20 (by decide) (by decide)
      have hG := hG.tr f20 (by decide) (by decide)
      have x17 : (∀ j, j ≠ (13 * q + kind).toNat → σ20 10 j = σ 10 j) ∧ (0 ≤ σ20 10 (13 * q + kind).toNat ∧ σ20 10 (13 * q + kind).toNat ≤ i + 1) ∧ (0 ≤ σ20 9 2 ∧ σ20 9 2 ≤ 52) ∧ σ20 2 = σ 2 := by
        refine ⟨fun j hj => ?_, ?_, p20.1, (f20.1 2 (by decide) (by decide)).trans h2s⟩
        · rcases p20.2 with z | z
          · rw [z]; exact hO j hj
          · rw [z, up_n hj]; exact hO j hj
        · rcases p20.2 with z | z
          · rw [z]; omega
          · rw [z, up_s]; omega
      intro z21 t21 e21 l21 h21
      try have w21 : t21 = 0 := by omega
      show xw _ _ _ _ _ _ _ _ _ _ [xvr 0, xvi p, xvi q, xvi kind, xvr 13, xvi v1, xvi z21] _ _
      exact ih_17 _ (show (5 - z21).toNat < m17 from by omega) z21 σ20 rfl ⟨hF, hG, x17.1, (by have := x17.2.1; omega), x17.2.2.1, x17.2.2.2, by omega⟩
  exact lp_17 _ r2 σ rfl ⟨hF, Fr.rf, (fun _ _ => rfl), by omega, hz9, rfl, by omega⟩
set_option maxHeartbeats 4000000 in
set_option maxRecDepth 100000 in
theorem sX2_doAsking {σ : xS} {p q kind lies : Int} {Q : Option xV → xS → Prop} (hp0 : CG σ) (hp1 : 0 ≤ p ∧ p ≤ 5) (hp2 : 0 ≤ q ∧ q ≤ 5) (hp3 : 0 ≤ kind ∧ kind ≤ 12) (hQ : ∀ r : Int, ∀ σ' : xS, Fr [2, 3, 5, 6, 7, 8, 9, 10, 11, 12, 13] [8, 14, 15, 16] σ σ' → (CG σ') → Q (some (xvi r)) σ') : xT kX2_doAsking [xvr 0, xvi p, xvi q, xvi kind, xvi lies, xvr 13] σ Q := by
  refine ⟨Nat.le_of_ble_eq_true rfl, fun X hX => ?_⟩
  show X 0 [xvr 0, xvi p, xvi q, xvi kind, xvi lies, xvr 13, xvu, xvu, xvu] σ
  have hF : Fr [2, 3, 5, 6, 7, 8, 9, 10, 11, 12, 13] [8, 14, 15, 16] σ σ := Fr.rf
  refine hX 400 0 _ _ ?_
  have hC := hp0
  have hh := hp0.hI hp2 hp3; have hz9 := hp0.2.2.2
  refine xMVp (sh := shH) (ci := 2) (τ := [0, 1, 2, 3, 4, 5, 6, 7, 8, 9, 10, 11, 12]) (E := xT kX2_held) (t := 0) (r := [xvi q, xvi kind]) (σ := σ) rfl rfl xbk_sel (fun Q1 hQ1 => sX2_held (σ := xsel [0, 1, 2, 3, 4, 5, 6, 7, 8, 9, 10, 11, 12] σ) (p := q) (kind := kind) (show 0 ≤ q ∧ q ≤ 5 from by omega) (show 0 ≤ kind ∧ kind ≤ 12 from by omega) (fun r1 p1 => hQ1 _ ?_))
  have p1 : r1 = σ 2 (13 * q + kind).toNat := p1
  refine And.intro (Nat.le_of_ble_eq_true rfl) ?_
  show xw _ _ _ _ _ _ _ _ _ _ [xvr 0, xvi p, xvi q, xvi kind, xvi lies, xvr 13, xvi r1, xvu, xvu] _ _
  have lp_22 : ∀ (_ : Unit), (True) → X 22 [xvr 0, xvi p, xvi q, xvi kind, xvi lies, xvr 13, xvi r1, xvu, xvu] σ := by
    intro _ hv_22
    refine hX 400 22 _ _ ?_
    refine And.intro (Nat.le_of_ble_eq_true rfl) ?_
    show xw _ _ _ _ _ _ _ _ _ _ [xvr 0, xvi p, xvi q, xvi kind, xvi lies, xvr 13, xvi r1, xvi 0, xvu] _ _
    have lp_25 : ∀ (gv : Int), (gv = 0 ∨ gv = 1) → X 25 [xvr 0, xvi p, xvi q, xvi kind, xvi lies, xvr 13, xvi r1, xvi gv, xvu] σ := by
      intro gv hv_25
      refine hX 400 25 _ _ ?_
      have lp_55 : ∀ (s1 : xS), (Fr [2, 3, 5, 6, 7, 8, 9, 10, 11, 12, 13] [8, 14, 15, 16] σ s1 ∧ CG s1 ∧ s1 2 = σ 2 ∧ (gv = 1 → s1 13 3 = σ 2 (13 * q + kind).toNat)) → X 55 [xvr 0, xvi p, xvi q, xvi kind, xvi lies, xvr 13, xvi r1, xvi gv, xvu] s1 := by
        intro s1 hv_55
        obtain ⟨hF, hC, h2s, h133⟩ := hv_55
        refine hX 400 55 _ _ ?_
        have lp_85 : ∀ (s2 : xS), (Fr [2, 3, 5, 6, 7, 8, 9, 10, 11, 12, 13] [8, 14, 15, 16] σ s2 ∧ CG s2 ∧ s2 2 = σ 2 ∧ (gv = 1 → s2 13 3 = σ 2 (13 * q + kind).toNat)) → X 85 [xvr 0, xvi p, xvi q, xvi kind, xvi lies, xvr 13, xvi r1, xvi gv, xvu] s2 := by
          intro s2 hv_85
          obtain ⟨hF, hC, h2s, h133⟩ := hv_85
          refine hX 400 85 _ _ ?_
          have hz9 := hC.2.2.2
          have hu5 := hC.uI hp2 hp3
          have lp_123 : ∀ (s3 : xS), (Fr [2, 3, 5, 6, 7, 8, 9, 10, 11, 12, 13] [8, 14, 15, 16] σ s3 ∧ CG s3 ∧ s3 2 = σ 2 ∧ (gv = 1 → s3 13 3 = σ 2 (13 * q + kind).toNat)) → X 123 [xvr 0, xvi p, xvi q, xvi kind, xvi lies, xvr 13, xvi r1, xvi gv, xvu] s3 := by
            intro s3 hv_123
            obtain ⟨hF, hC, h2s, h133⟩ := hv_123
            refine hX 400 123 _ _ ?_
            have hz9 := hC.2.2.2
            have hu9 := hC.uI hp1 hp3; have hh9 := hC.hI hp1 hp3
            intro v7 e7 l7 h7
            have e7 : v7 = s3 0 15 := e7
            intro z8 t8 e8 l8 h8
            try have w8 : t8 = 0 := by omega
            have hF := hF.p (j := 15) (v := z8) (by decide)
            have hC := hC.fr (ts := []) (js := [15]) (Fr.rf.p (j := 15) (v := z8) (by decide)) (by decide) (by decide) (by decide) (by decide) (by decide) (by decide) (by decide) (by decide)
            refine And.intro (rfl) (And.intro (⟨by omega, by omega⟩) ?_)
            intro v10 e10 l10 h10
            have e10 : v10 = s3 6 p.toNat := e10
            intro z11 t11 e11 l11 h11
            try have w11 : t11 = 0 := by omega
            refine And.intro (rfl) (And.intro (⟨by omega, by omega⟩) ?_)
            have hF := hF.pt (t := 6) (j := p.toNat) (v := z11) (by decide) (by decide)
            have hC := hC.fr (ts := [6]) (js := []) (Fr.rf.pt (t := 6) (j := p.toNat) (v := z11) (by decide) (by decide)) (by decide) (by decide) (by decide) (by decide) (by decide) (by decide) (by decide) (by decide)
            have lp_164 : ∀ (s4 : xS), (Fr [2, 3, 5, 6, 7, 8, 9, 10, 11, 12, 13] [8, 14, 15, 16] σ s4 ∧ CG s4 ∧ (gv = 1 → s4 13 3 = s4 2 (13 * q + kind).toNat)) → X 164 [xvr 0, xvi p, xvi q, xvi kind, xvi lies, xvr 13, xvi r1, xvi gv, xvu] s4 := by
              intro s4 hv_164
              obtain ⟨hF, hC, h133⟩ := hv_164
              refine hX 400 164 _ _ ?_
              refine And.intro (fun c14 => ?_) (fun c14 => ?_)
              · refine sX2_sayNo (σ := s4) (p := p) (q := q) (kind := kind) hC (by omega) (by omega) (by omega) (fun r15 σ15 f15 p15 => ?_)
                have hF := hF.tr f15 (by decide) (by decide)
                have hC := p15.1
                have p15 := p15.2
                have hb1 := hC.1.2.1
                refine And.intro (Nat.le_of_ble_eq_true rfl) ?_
                show xw _ _ _ _ _ _ _ _ _ _ [xvr 0, xvi p, xvi q, xvi kind, xvi lies, xvr 13, xvi r1, xvi gv, xvi r15] _ _
                intro v16 e16 l16 h16
                have e16 : v16 = σ15 0 16 := e16
                intro v17 e17 l17 h17
                have e17 : v17 = σ15 0 1 := e17
                refine And.intro (fun c18 => ?_) (fun c18 => ?_)
                · refine xMVf (sh := shH) (ci := 2) (τ := [0, 1, 2, 3, 4, 5, 6, 7, 8, 9, 10, 11, 12]) (E := xT kX2_settle) (t := 0) (r := [xvi r15]) (σ := σ15) rfl rfl (fun Q19 hQ19 => sX2_settle (σ := xsel [0, 1, 2, 3, 4, 5, 6, 7, 8, 9, 10, 11, 12] σ15) (fr := r15) (show CG σ15 from hC) (show 0 ≤ r15 ∧ r15 ≤ 5 from by omega) (fun ς19 f19 p19 => hQ19 _ _ ?_))
                  replace f19 : Fr [2, 3, 5, 8, 9, 10, 11, 12] [8, 14] σ15 (xbk [0, 1, 2, 3, 4, 5, 6, 7, 8, 9, 10, 11, 12] σ15 ς19) := f19.bk0 (by decide) (by decide) (by decide)
                  replace p19 : CG (xbk [0, 1, 2, 3, 4, 5, 6, 7, 8, 9, 10, 11, 12] σ15 ς19) := p19
                  generalize xbk [0, 1, 2, 3, 4, 5, 6, 7, 8, 9, 10, 11, 12] σ15 ς19 = σ19 at f19 p19 ⊢
                  have hF := hF.tr f19 (by decide) (by decide)
                  have hC := p19
                  refine hX 400 217 _ _ ?_
                  refine And.intro (rfl) (And.intro (⟨by omega, by omega⟩) ?_)
                  intro v20 e20 l20 h20
                  have e20 : v20 = σ19 13 3 := e20
                  refine And.intro rfl ?_
                  exact hQ _ _ hF hC
                · have hF := hF.p (j := 14) (v := (-1)) (by decide)
                  have hC := hC.fr (ts := []) (js := [14]) (Fr.rf.p (j := 14) (v := (-1)) (by decide)) (by decide) (by decide) (by decide) (by decide) (by decide) (by decide) (by decide) (by decide)
                  refine hX 400 217 _ _ ?_
                  refine And.intro (rfl) (And.intro (⟨by omega, by omega⟩) ?_)
                  intro v22 e22 l22 h22
                  have e22 : v22 = σ15 13 3 := e22
                  refine And.intro rfl ?_
                  exact hQ _ _ hF hC
              · refine sX2_give (σ := s4) (p := p) (q := q) (kind := kind) hC (by omega) (by omega) (by omega) (by have z := h133; omega) (fun r23 σ23 f23 p23 => ?_)
                have hF := hF.tr f23 (by decide) (by decide)
                have hC := p23.1
                have p23 := p23.2
                have hb1 := hC.1.2.1
                refine And.intro (Nat.le_of_ble_eq_true rfl) ?_
                show xw _ _ _ _ _ _ _ _ _ _ [xvr 0, xvi p, xvi q, xvi kind, xvi lies, xvr 13, xvi r1, xvi gv, xvi r23] _ _
                intro v24 e24 l24 h24
                have e24 : v24 = σ23 0 16 := e24
                intro v25 e25 l25 h25
                have e25 : v25 = σ23 0 1 := e25
                refine And.intro (fun c26 => ?_) (fun c26 => ?_)
                · refine xMVf (sh := shH) (ci := 2) (τ := [0, 1, 2, 3, 4, 5, 6, 7, 8, 9, 10, 11, 12]) (E := xT kX2_settle) (t := 0) (r := [xvi r23]) (σ := σ23) rfl rfl (fun Q27 hQ27 => sX2_settle (σ := xsel [0, 1, 2, 3, 4, 5, 6, 7, 8, 9, 10, 11, 12] σ23) (fr := r23) (show CG σ23 from hC) (show 0 ≤ r23 ∧ r23 ≤ 5 from by omega) (fun ς27 f27 p27 => hQ27 _ _ ?_))
                  replace f27 : Fr [2, 3, 5, 8, 9, 10, 11, 12] [8, 14] σ23 (xbk [0, 1, 2, 3, 4, 5, 6, 7, 8, 9, 10, 11, 12] σ23 ς27) := f27.bk0 (by decide) (by decide) (by decide)
                  replace p27 : CG (xbk [0, 1, 2, 3, 4, 5, 6, 7, 8, 9, 10, 11, 12] σ23 ς27) := p27
                  generalize xbk [0, 1, 2, 3, 4, 5, 6, 7, 8, 9, 10, 11, 12] σ23 ς27 = σ27 at f27 p27 ⊢
                  have hF := hF.tr f27 (by decide) (by decide)
                  have hC := p27
                  refine hX 400 217 _ _ ?_
                  refine And.intro (rfl) (And.intro (⟨by omega, by omega⟩) ?_)
                  intro v28 e28 l28 h28
                  have e28 : v28 = σ27 13 3 := e28
                  refine And.intro rfl ?_
                  exact hQ _ _ hF hC
                · have hF := hF.p (j := 14) (v := (-1)) (by decide)
                  have hC := hC.fr (ts := []) (js := [14]) (Fr.rf.p (j := 14) (v := (-1)) (by decide)) (by decide) (by decide) (by decide) (by decide) (by decide) (by decide) (by decide) (by decide)
                  refine hX 400 217 _ _ ?_
                  refine And.intro (rfl) (And.intro (⟨by omega, by omega⟩) ?_)
                  intro v30 e30 l30 h30
                  have e30 : v30 = σ23 13 3 := e30
                  refine And.intro rfl ?_
                  exact hQ _ _ hF hC
            refine xMVp (sh := shH) (ci := 3) (τ := [0, 1, 2, 3, 4, 5, 6, 7, 8, 9, 10, 11, 12]) (E := xT kX3_sureOf) (t := 9) (r := [xvi p, xvi kind]) (σ := (xput (xput s3 0 15 z8) 6 p.toNat z11)) rfl rfl xbk_sel (fun Q31 hQ31 => sX3_sureOf (σ := xsel [0, 1, 2, 3, 4, 5, 6, 7, 8, 9, 10, 11, 12] (xput (xput s3 0 15 z8) 6 p.toNat z11)) (p := p) (kind := kind) (show 0 ≤ p ∧ p ≤ 5 from by omega) (show 0 ≤ kind ∧ kind ≤ 12 from by omega) (fun r31 p31 => hQ31 _ ?_))
            have p31 : r31 = s3 10 (13 * p + kind).toNat := p31
            refine And.intro (fun c32 => ?_) (fun c32 => ?_)
            · exact lp_164 (xput (xput s3 0 15 z8) 6 p.toNat z11) ⟨hF, hC, (fun z => (h133 z).trans (show σ 2 (13 * q + kind).toNat = s3 2 (13 * q + kind).toNat from by rw [h2s]))⟩
            · refine xMVf (sh := shH) (ci := 3) (τ := [0, 1, 2, 3, 4, 5, 6, 7, 8, 9, 10, 11, 12]) (E := xT kX3_reveal) (t := 9) (r := [xvi p, xvi kind]) (σ := (xput (xput s3 0 15 z8) 6 p.toNat z11)) rfl rfl (fun Q33 hQ33 => sX3_reveal (σ := xsel [0, 1, 2, 3, 4, 5, 6, 7, 8, 9, 10, 11, 12] (xput (xput s3 0 15 z8) 6 p.toNat z11)) (p := p) (kind := kind) (show 0 ≤ p ∧ p ≤ 5 from by omega) (show 0 ≤ kind ∧ kind ≤ 12 from by omega) (show 0 ≤ (s3 9 2) ∧ (s3 9 2) ≤ 52 from by omega) (show -1000 ≤ s3 10 (13 * p + kind).toNat ∧ s3 10 (13 * p + kind).toNat ≤ 1000 from by omega) (fun ς33 f33 p33 => hQ33 _ _ ?_))
              replace f33 : Fr [9, 10, 11, 12] [] (xput (xput s3 0 15 z8) 6 p.toNat z11) (xbk [0, 1, 2, 3, 4, 5, 6, 7, 8, 9, 10, 11, 12] (xput (xput s3 0 15 z8) 6 p.toNat z11) ς33) := f33.bk0 (by decide) (by decide) (by decide)
              replace p33 : (0 ≤ (xbk [0, 1, 2, 3, 4, 5, 6, 7, 8, 9, 10, 11, 12] (xput (xput s3 0 15 z8) 6 p.toNat z11) ς33) 9 2 ∧ (xbk [0, 1, 2, 3, 4, 5, 6, 7, 8, 9, 10, 11, 12] (xput (xput s3 0 15 z8) 6 p.toNat z11) ς33) 9 2 ≤ 52) ∧ ((xbk [0, 1, 2, 3, 4, 5, 6, 7, 8, 9, 10, 11, 12] (xput (xput s3 0 15 z8) 6 p.toNat z11) ς33) 10 = s3 10 ∨ (xbk [0, 1, 2, 3, 4, 5, 6, 7, 8, 9, 10, 11, 12] (xput (xput s3 0 15 z8) 6 p.toNat z11) ς33) 10 = up ((xput (xput s3 0 15 z8) 6 p.toNat z11) 10) (13 * p + kind).toNat (s3 10 (13 * p + kind).toNat + 1)) := p33
              generalize xbk [0, 1, 2, 3, 4, 5, 6, 7, 8, 9, 10, 11, 12] (xput (xput s3 0 15 z8) 6 p.toNat z11) ς33 = σ33 at f33 p33 ⊢
              have hF := hF.tr f33 (by decide) (by decide)
              have hC : CG σ33 := hC.sure (p := p) (kind := kind) (by omega) (by omega) f33 (by decide) (by decide) (by decide) (by decide) (by decide) (by decide) (fun j hj => by
                  rcases p33.2 with z | z
                  · exact congrFun z j
                  · exact (congrFun z j).trans (up_n hj)) (by
                  rcases p33.2 with z | z
                  · rw [z]; exact hu9
                  · rw [z, up_s]; show 0 ≤ s3 10 (13 * p + kind).toNat + 1 ∧ s3 10 (13 * p + kind).toNat + 1 ≤ s3 2 (13 * p + kind).toNat + 1; omega) p33.1
              have k2w : σ33 2 = σ 2 := (f33.1 2 (by decide) (by decide)).trans h2s
              have k13w : σ33 13 = s3 13 := f33.1 13 (by decide) (by decide)
              exact lp_164 σ33 ⟨hF, hC, (fun z => by rw [k13w, k2w]; exact h133 z)⟩
          refine xMVp (sh := shH) (ci := 3) (τ := [0, 1, 2, 3, 4, 5, 6, 7, 8, 9, 10, 11, 12]) (E := xT kX3_sureOf) (t := 9) (r := [xvi q, xvi kind]) (σ := s2) rfl rfl xbk_sel (fun Q34 hQ34 => sX3_sureOf (σ := xsel [0, 1, 2, 3, 4, 5, 6, 7, 8, 9, 10, 11, 12] s2) (p := q) (kind := kind) (show 0 ≤ q ∧ q ≤ 5 from by omega) (show 0 ≤ kind ∧ kind ≤ 12 from by omega) (fun r34 p34 => hQ34 _ ?_))
          have p34 : r34 = s2 10 (13 * q + kind).toNat := p34
          refine And.intro (fun c35 => ?_) (fun c35 => ?_)
          · refine xMVp (sh := shH) (ci := 3) (τ := [0, 1, 2, 3, 4, 5, 6, 7, 8, 9, 10, 11, 12]) (E := xT kX3_mayBe) (t := 9) (r := [xvi q, xvi kind]) (σ := s2) rfl rfl xbk_sel (fun Q36 hQ36 => sX3_mayBe (σ := xsel [0, 1, 2, 3, 4, 5, 6, 7, 8, 9, 10, 11, 12] s2) (p := q) (kind := kind) (show 0 ≤ (s2 9 2) ∧ (s2 9 2) ≤ 52 from by omega) (fun r36 => hQ36 _ ?_))
            refine And.intro (fun c37 => ?_) (fun c37 => ?_)
            · refine And.intro (rfl) (And.intro (⟨by omega, by omega⟩) ?_)
              have hF := hF.pt (t := 13) (j := 7) (v := 0) (by decide) (by decide)
              have hC := hC.fr (ts := [13]) (js := []) (Fr.rf.pt (t := 13) (j := 7) (v := 0) (by decide) (by decide)) (by decide) (by decide) (by decide) (by decide) (by decide) (by decide) (by decide) (by decide)
              exact lp_123 (xput s2 13 7 0) ⟨hF, hC, h2s, (fun z => (show s2 13 3 = σ 2 (13 * q + kind).toNat from h133 z))⟩
            · refine And.intro (rfl) (And.intro (⟨by omega, by omega⟩) ?_)
              have hF := hF.pt (t := 13) (j := 7) (v := 1) (by decide) (by decide)
              have hC := hC.fr (ts := [13]) (js := []) (Fr.rf.pt (t := 13) (j := 7) (v := 1) (by decide) (by decide)) (by decide) (by decide) (by decide) (by decide) (by decide) (by decide) (by decide) (by decide)
              exact lp_123 (xput s2 13 7 1) ⟨hF, hC, h2s, (fun z => (show s2 13 3 = σ 2 (13 * q + kind).toNat from h133 z))⟩
          · refine And.intro (rfl) (And.intro (⟨by omega, by omega⟩) ?_)
            have hF := hF.pt (t := 13) (j := 7) (v := 2) (by decide) (by decide)
            have hC := hC.fr (ts := [13]) (js := []) (Fr.rf.pt (t := 13) (j := 7) (v := 2) (by decide) (by decide)) (by decide) (by decide) (by decide) (by decide) (by decide) (by decide) (by decide) (by decide)
            exact lp_123 (xput s2 13 7 2) ⟨hF, hC, h2s, (fun z => (show s2 13 3 = σ 2 (13 * q + kind).toNat from h133 z))⟩
        refine And.intro (rfl) (And.intro (⟨by omega, by omega⟩) ?_)
        have hF := hF.pt (t := 13) (j := 4) (v := (-1)) (by decide) (by decide)
        have hC := hC.fr (ts := [13]) (js := []) (Fr.rf.pt (t := 13) (j := 4) (v := (-1)) (by decide) (by decide)) (by decide) (by decide) (by decide) (by decide) (by decide) (by decide) (by decide) (by decide)
        refine And.intro (rfl) (And.intro (⟨by omega, by omega⟩) ?_)
        have hF := hF.pt (t := 13) (j := 5) (v := (-1)) (by decide) (by decide)
        have hC := hC.fr (ts := [13]) (js := []) (Fr.rf.pt (t := 13) (j := 5) (v := (-1)) (by decide) (by decide)) (by decide) (by decide) (by decide) (by decide) (by decide) (by decide) (by decide) (by decide)
        refine And.intro (fun c43 => ?_) (fun c43 => ?_)
        · refine And.intro (rfl) (And.intro (⟨by omega, by omega⟩) ?_)
          have hF := hF.pt (t := 13) (j := 6) (v := 0) (by decide) (by decide)
          have hC := hC.fr (ts := [13]) (js := []) (Fr.rf.pt (t := 13) (j := 6) (v := 0) (by decide) (by decide)) (by decide) (by decide) (by decide) (by decide) (by decide) (by decide) (by decide) (by decide)
          exact lp_85 (xput (xput (xput s1 13 4 (-1)) 13 5 (-1)) 13 6 0) ⟨hF, hC, h2s, (fun z => (show s1 13 3 = σ 2 (13 * q + kind).toNat from h133 z))⟩
        · refine And.intro (fun c45 => ?_) (fun c45 => ?_)
          · refine And.intro (rfl) (And.intro (⟨by omega, by omega⟩) ?_)
            have hF := hF.pt (t := 13) (j := 6) (v := 0) (by decide) (by decide)
            have hC := hC.fr (ts := [13]) (js := []) (Fr.rf.pt (t := 13) (j := 6) (v := 0) (by decide) (by decide)) (by decide) (by decide) (by decide) (by decide) (by decide) (by decide) (by decide) (by decide)
            exact lp_85 (xput (xput (xput s1 13 4 (-1)) 13 5 (-1)) 13 6 0) ⟨hF, hC, h2s, (fun z => (show s1 13 3 = σ 2 (13 * q + kind).toNat from h133 z))⟩
          · refine And.intro (rfl) (And.intro (⟨by omega, by omega⟩) ?_)
            have hF := hF.pt (t := 13) (j := 6) (v := 1) (by decide) (by decide)
            have hC := hC.fr (ts := [13]) (js := []) (Fr.rf.pt (t := 13) (j := 6) (v := 1) (by decide) (by decide)) (by decide) (by decide) (by decide) (by decide) (by decide) (by decide) (by decide) (by decide)
            exact lp_85 (xput (xput (xput s1 13 4 (-1)) 13 5 (-1)) 13 6 1) ⟨hF, hC, h2s, (fun z => (show s1 13 3 = σ 2 (13 * q + kind).toNat from h133 z))⟩
      refine And.intro (rfl) (And.intro (⟨by omega, by omega⟩) ?_)
      have hF := hF.pt (t := 13) (j := 0) (v := p) (by decide) (by decide)
      have hC := hC.fr (ts := [13]) (js := []) (Fr.rf.pt (t := 13) (j := 0) (v := p) (by decide) (by decide)) (by decide) (by decide) (by decide) (by decide) (by decide) (by decide) (by decide) (by decide)
      refine And.intro (rfl) (And.intro (⟨by omega, by omega⟩) ?_)
      have hF := hF.pt (t := 13) (j := 1) (v := q) (by decide) (by decide)
      have hC := hC.fr (ts := [13]) (js := []) (Fr.rf.pt (t := 13) (j := 1) (v := q) (by decide) (by decide)) (by decide) (by decide) (by decide) (by decide) (by decide) (by decide) (by decide) (by decide)
      refine And.intro (rfl) (And.intro (⟨by omega, by omega⟩) ?_)
      have hF := hF.pt (t := 13) (j := 2) (v := kind) (by decide) (by decide)
      have hC := hC.fr (ts := [13]) (js := []) (Fr.rf.pt (t := 13) (j := 2) (v := kind) (by decide) (by decide)) (by decide) (by decide) (by decide) (by decide) (by decide) (by decide) (by decide) (by decide)
      refine And.intro (fun c51 => ?_) (fun c51 => ?_)
      · refine And.intro (rfl) (And.intro (⟨by omega, by omega⟩) ?_)
        have hF := hF.pt (t := 13) (j := 3) (v := 0) (by decide) (by decide)
        have hC := hC.fr (ts := [13]) (js := []) (Fr.rf.pt (t := 13) (j := 3) (v := 0) (by decide) (by decide)) (by decide) (by decide) (by decide) (by decide) (by decide) (by decide) (by decide) (by decide)
        exact lp_55 (xput (xput (xput (xput σ 13 0 p) 13 1 q) 13 2 kind) 13 3 0) ⟨hF, hC, rfl, (fun z => (show 0 = σ 2 (13 * q + kind).toNat from by omega))⟩
      · refine And.intro (rfl) (And.intro (⟨by omega, by omega⟩) ?_)
        have hF := hF.pt (t := 13) (j := 3) (v := r1) (by decide) (by decide)
        have hC := hC.fr (ts := [13]) (js := []) (Fr.rf.pt (t := 13) (j := 3) (v := r1) (by decide) (by decide)) (by decide) (by decide) (by decide) (by decide) (by decide) (by decide) (by decide) (by decide)
        exact lp_55 (xput (xput (xput (xput σ 13 0 p) 13 1 q) 13 2 kind) 13 3 r1) ⟨hF, hC, rfl, (fun z => (show r1 = σ 2 (13 * q + kind).toNat from by omega))⟩
    exact lp_25 0 (show 0 = 0 ∨ 0 = 1 from by first | trivial | omega | (refine ⟨by assumption, ?_⟩; omega) | (refine ⟨?_, ?_⟩ <;> omega))
  have lp_25 : ∀ (gv : Int), (gv = 0 ∨ gv = 1) → X 25 [xvr 0, xvi p, xvi q, xvi kind, xvi lies, xvr 13, xvi r1, xvi gv, xvu] σ := by
    intro gv hv_25
    refine hX 400 25 _ _ ?_
    have lp_55 : ∀ (s1 : xS), (Fr [2, 3, 5, 6, 7, 8, 9, 10, 11, 12, 13] [8, 14, 15, 16] σ s1 ∧ CG s1 ∧ s1 2 = σ 2 ∧ (gv = 1 → s1 13 3 = σ 2 (13 * q + kind).toNat)) → X 55 [xvr 0, xvi p, xvi q, xvi kind, xvi lies, xvr 13, xvi r1, xvi gv, xvu] s1 := by
      intro s1 hv_55
      obtain ⟨hF, hC, h2s, h133⟩ := hv_55
      refine hX 400 55 _ _ ?_
      have lp_85 : ∀ (s2 : xS), (Fr [2, 3, 5, 6, 7, 8, 9, 10, 11, 12, 13] [8, 14, 15, 16] σ s2 ∧ CG s2 ∧ s2 2 = σ 2 ∧ (gv = 1 → s2 13 3 = σ 2 (13 * q + kind).toNat)) → X 85 [xvr 0, xvi p, xvi q, xvi kind, xvi lies, xvr 13, xvi r1, xvi gv, xvu] s2 := by
        intro s2 hv_85
        obtain ⟨hF, hC, h2s, h133⟩ := hv_85
        refine hX 400 85 _ _ ?_
        have hz9 := hC.2.2.2
        have hu5 := hC.uI hp2 hp3
        have lp_123 : ∀ (s3 : xS), (Fr [2, 3, 5, 6, 7, 8, 9, 10, 11, 12, 13] [8, 14, 15, 16] σ s3 ∧ CG s3 ∧ s3 2 = σ 2 ∧ (gv = 1 → s3 13 3 = σ 2 (13 * q + kind).toNat)) → X 123 [xvr 0, xvi p, xvi q, xvi kind, xvi lies, xvr 13, xvi r1, xvi gv, xvu] s3 := by
          intro s3 hv_123
          obtain ⟨hF, hC, h2s, h133⟩ := hv_123
          refine hX 400 123 _ _ ?_
          have hz9 := hC.2.2.2
          have hu9 := hC.uI hp1 hp3; have hh9 := hC.hI hp1 hp3
          intro v58 e58 l58 h58
          have e58 : v58 = s3 0 15 := e58
          intro z59 t59 e59 l59 h59
          try have w59 : t59 = 0 := by omega
          have hF := hF.p (j := 15) (v := z59) (by decide)
          have hC := hC.fr (ts := []) (js := [15]) (Fr.rf.p (j := 15) (v := z59) (by decide)) (by decide) (by decide) (by decide) (by decide) (by decide) (by decide) (by decide) (by decide)
          refine And.intro (rfl) (And.intro (⟨by omega, by omega⟩) ?_)
          intro v61 e61 l61 h61
          have e61 : v61 = s3 6 p.toNat := e61
          intro z62 t62 e62 l62 h62
          try have w62 : t62 = 0 := by omega
          refine And.intro (rfl) (And.intro (⟨by omega, by omega⟩) ?_)
          have hF := hF.pt (t := 6) (j := p.toNat) (v := z62) (by decide) (by decide)
          have hC := hC.fr (ts := [6]) (js := []) (Fr.rf.pt (t := 6) (j := p.toNat) (v := z62) (by decide) (by decide)) (by decide) (by decide) (by decide) (by decide) (by decide) (by decide) (by decide) (by decide)
          have lp_164 : ∀ (s4 : xS), (Fr [2, 3, 5, 6, 7, 8, 9, 10, 11, 12, 13] [8, 14, 15, 16] σ s4 ∧ CG s4 ∧ (gv = 1 → s4 13 3 = s4 2 (13 * q + kind).toNat)) → X 164 [xvr 0, xvi p, xvi q, xvi kind, xvi lies, xvr 13, xvi r1, xvi gv, xvu] s4 := by
            intro s4 hv_164
            obtain ⟨hF, hC, h133⟩ := hv_164
            refine hX 400 164 _ _ ?_
            refine And.intro (fun c65 => ?_) (fun c65 => ?_)
            · refine sX2_sayNo (σ := s4) (p := p) (q := q) (kind := kind) hC (by omega) (by omega) (by omega) (fun r66 σ66 f66 p66 => ?_)
              have hF := hF.tr f66 (by decide) (by decide)
              have hC := p66.1
              have p66 := p66.2
              have hb1 := hC.1.2.1
              refine And.intro (Nat.le_of_ble_eq_true rfl) ?_
              show xw _ _ _ _ _ _ _ _ _ _ [xvr 0, xvi p, xvi q, xvi kind, xvi lies, xvr 13, xvi r1, xvi gv, xvi r66] _ _
              intro v67 e67 l67 h67
              have e67 : v67 = σ66 0 16 := e67
              intro v68 e68 l68 h68
              have e68 : v68 = σ66 0 1 := e68
              refine And.intro (fun c69 => ?_) (fun c69 => ?_)
              · refine xMVf (sh := shH) (ci := 2) (τ := [0, 1, 2, 3, 4, 5, 6, 7, 8, 9, 10, 11, 12]) (E := xT kX2_settle) (t := 0) (r := [xvi r66]) (σ := σ66) rfl rfl (fun Q70 hQ70 => sX2_settle (σ := xsel [0, 1, 2, 3, 4, 5, 6, 7, 8, 9, 10, 11, 12] σ66) (fr := r66) (show CG σ66 from hC) (show 0 ≤ r66 ∧ r66 ≤ 5 from by omega) (fun ς70 f70 p70 => hQ70 _ _ ?_))
                replace f70 : Fr [2, 3, 5, 8, 9, 10, 11, 12] [8, 14] σ66 (xbk [0, 1, 2, 3, 4, 5, 6, 7, 8, 9, 10, 11, 12] σ66 ς70) := f70.bk0 (by decide) (by decide) (by decide)
                replace p70 : CG (xbk [0, 1, 2, 3, 4, 5, 6, 7, 8, 9, 10, 11, 12] σ66 ς70) := p70
                generalize xbk [0, 1, 2, 3, 4, 5, 6, 7, 8, 9, 10, 11, 12] σ66 ς70 = σ70 at f70 p70 ⊢
                have hF := hF.tr f70 (by decide) (by decide)
                have hC := p70
                refine hX 400 217 _ _ ?_
                refine And.intro (rfl) (And.intro (⟨by omega, by omega⟩) ?_)
                intro v71 e71 l71 h71
                have e71 : v71 = σ70 13 3 := e71
                refine And.intro rfl ?_
                exact hQ _ _ hF hC
              · have hF := hF.p (j := 14) (v := (-1)) (by decide)
                have hC := hC.fr (ts := []) (js := [14]) (Fr.rf.p (j := 14) (v := (-1)) (by decide)) (by decide) (by decide) (by decide) (by decide) (by decide) (by decide) (by decide) (by decide)
                refine hX 400 217 _ _ ?_
                refine And.intro (rfl) (And.intro (⟨by omega, by omega⟩) ?_)
                intro v73 e73 l73 h73
                have e73 : v73 = σ66 13 3 := e73
                refine And.intro rfl ?_
                exact hQ _ _ hF hC
            · refine sX2_give (σ := s4) (p := p) (q := q) (kind := kind) hC (by omega) (by omega) (by omega) (by have z := h133; omega) (fun r74 σ74 f74 p74 => ?_)
              have hF := hF.tr f74 (by decide) (by decide)
              have hC := p74.1
              have p74 := p74.2
              have hb1 := hC.1.2.1
              refine And.intro (Nat.le_of_ble_eq_true rfl) ?_
              show xw _ _ _ _ _ _ _ _ _ _ [xvr 0, xvi p, xvi q, xvi kind, xvi lies, xvr 13, xvi r1, xvi gv, xvi r74] _ _
              intro v75 e75 l75 h75
              have e75 : v75 = σ74 0 16 := e75
              intro v76 e76 l76 h76
              have e76 : v76 = σ74 0 1 := e76
              refine And.intro (fun c77 => ?_) (fun c77 => ?_)
              · refine xMVf (sh := shH) (ci := 2) (τ := [0, 1, 2, 3, 4, 5, 6, 7, 8, 9, 10, 11, 12]) (E := xT kX2_settle) (t := 0) (r := [xvi r74]) (σ := σ74) rfl rfl (fun Q78 hQ78 => sX2_settle (σ := xsel [0, 1, 2, 3, 4, 5, 6, 7, 8, 9, 10, 11, 12] σ74) (fr := r74) (show CG σ74 from hC) (show 0 ≤ r74 ∧ r74 ≤ 5 from by omega) (fun ς78 f78 p78 => hQ78 _ _ ?_))
                replace f78 : Fr [2, 3, 5, 8, 9, 10, 11, 12] [8, 14] σ74 (xbk [0, 1, 2, 3, 4, 5, 6, 7, 8, 9, 10, 11, 12] σ74 ς78) := f78.bk0 (by decide) (by decide) (by decide)
                replace p78 : CG (xbk [0, 1, 2, 3, 4, 5, 6, 7, 8, 9, 10, 11, 12] σ74 ς78) := p78
                generalize xbk [0, 1, 2, 3, 4, 5, 6, 7, 8, 9, 10, 11, 12] σ74 ς78 = σ78 at f78 p78 ⊢
                have hF := hF.tr f78 (by decide) (by decide)
                have hC := p78
                refine hX 400 217 _ _ ?_
                refine And.intro (rfl) (And.intro (⟨by omega, by omega⟩) ?_)
                intro v79 e79 l79 h79
                have e79 : v79 = σ78 13 3 := e79
                refine And.intro rfl ?_
                exact hQ _ _ hF hC
              · have hF := hF.p (j := 14) (v := (-1)) (by decide)
                have hC := hC.fr (ts := []) (js := [14]) (Fr.rf.p (j := 14) (v := (-1)) (by decide)) (by decide) (by decide) (by decide) (by decide) (by decide) (by decide) (by decide) (by decide)
                refine hX 400 217 _ _ ?_
                refine And.intro (rfl) (And.intro (⟨by omega, by omega⟩) ?_)
                intro v81 e81 l81 h81
                have e81 : v81 = σ74 13 3 := e81
                refine And.intro rfl ?_
                exact hQ _ _ hF hC
          refine xMVp (sh := shH) (ci := 3) (τ := [0, 1, 2, 3, 4, 5, 6, 7, 8, 9, 10, 11, 12]) (E := xT kX3_sureOf) (t := 9) (r := [xvi p, xvi kind]) (σ := (xput (xput s3 0 15 z59) 6 p.toNat z62)) rfl rfl xbk_sel (fun Q82 hQ82 => sX3_sureOf (σ := xsel [0, 1, 2, 3, 4, 5, 6, 7, 8, 9, 10, 11, 12] (xput (xput s3 0 15 z59) 6 p.toNat z62)) (p := p) (kind := kind) (show 0 ≤ p ∧ p ≤ 5 from by omega) (show 0 ≤ kind ∧ kind ≤ 12 from by omega) (fun r82 p82 => hQ82 _ ?_))
          have p82 : r82 = s3 10 (13 * p + kind).toNat := p82
          refine And.intro (fun c83 => ?_) (fun c83 => ?_)
          · exact lp_164 (xput (xput s3 0 15 z59) 6 p.toNat z62) ⟨hF, hC, (fun z => (h133 z).trans (show σ 2 (13 * q + kind).toNat = s3 2 (13 * q + kind).toNat from by rw [h2s]))⟩
          · refine xMVf (sh := shH) (ci := 3) (τ := [0, 1, 2, 3, 4, 5, 6, 7, 8, 9, 10, 11, 12]) (E := xT kX3_reveal) (t := 9) (r := [xvi p, xvi kind]) (σ := (xput (xput s3 0 15 z59) 6 p.toNat z62)) rfl rfl (fun Q84 hQ84 => sX3_reveal (σ := xsel [0, 1, 2, 3, 4, 5, 6, 7, 8, 9, 10, 11, 12] (xput (xput s3 0 15 z59) 6 p.toNat z62)) (p := p) (kind := kind) (show 0 ≤ p ∧ p ≤ 5 from by omega) (show 0 ≤ kind ∧ kind ≤ 12 from by omega) (show 0 ≤ (s3 9 2) ∧ (s3 9 2) ≤ 52 from by omega) (show -1000 ≤ s3 10 (13 * p + kind).toNat ∧ s3 10 (13 * p + kind).toNat ≤ 1000 from by omega) (fun ς84 f84 p84 => hQ84 _ _ ?_))
            replace f84 : Fr [9, 10, 11, 12] [] (xput (xput s3 0 15 z59) 6 p.toNat z62) (xbk [0, 1, 2, 3, 4, 5, 6, 7, 8, 9, 10, 11, 12] (xput (xput s3 0 15 z59) 6 p.toNat z62) ς84) := f84.bk0 (by decide) (by decide) (by decide)
            replace p84 : (0 ≤ (xbk [0, 1, 2, 3, 4, 5, 6, 7, 8, 9, 10, 11, 12] (xput (xput s3 0 15 z59) 6 p.toNat z62) ς84) 9 2 ∧ (xbk [0, 1, 2, 3, 4, 5, 6, 7, 8, 9, 10, 11, 12] (xput (xput s3 0 15 z59) 6 p.toNat z62) ς84) 9 2 ≤ 52) ∧ ((xbk [0, 1, 2, 3, 4, 5, 6, 7, 8, 9, 10, 11, 12] (xput (xput s3 0 15 z59) 6 p.toNat z62) ς84) 10 = s3 10 ∨ (xbk [0, 1, 2, 3, 4, 5, 6, 7, 8, 9, 10, 11, 12] (xput (xput s3 0 15 z59) 6 p.toNat z62) ς84) 10 = up ((xput (xput s3 0 15 z59) 6 p.toNat z62) 10) (13 * p + kind).toNat (s3 10 (13 * p + kind).toNat + 1)) := p84
            generalize xbk [0, 1, 2, 3, 4, 5, 6, 7, 8, 9, 10, 11, 12] (xput (xput s3 0 15 z59) 6 p.toNat z62) ς84 = σ84 at f84 p84 ⊢
            have hF := hF.tr f84 (by decide) (by decide)
            have hC : CG σ84 := hC.sure (p := p) (kind := kind) (by omega) (by omega) f84 (by decide) (by decide) (by decide) (by decide) (by decide) (by decide) (fun j hj => by
                rcases p84.2 with z | z
                · exact congrFun z j
                · exact (congrFun z j).trans (up_n hj)) (by
                rcases p84.2 with z | z
                · rw [z]; exact hu9
                · rw [z, up_s]; show 0 ≤ s3 10 (13 * p + kind).toNat + 1 ∧ s3 10 (13 * p + kind).toNat + 1 ≤ s3 2 (13 * p + kind).toNat + 1; omega) p84.1
            have k2w : σ84 2 = σ 2 := (f84.1 2 (by decide) (by decide)).trans h2s
            have k13w : σ84 13 = s3 13 := f84.1 13 (by decide) (by decide)
            exact lp_164 σ84 ⟨hF, hC, (fun z => by rw [k13w, k2w]; exact h133 z)⟩
        refine xMVp (sh := shH) (ci := 3) (τ := [0, 1, 2, 3, 4, 5, 6, 7, 8, 9, 10, 11, 12]) (E := xT kX3_sureOf) (t := 9) (r := [xvi q, xvi kind]) (σ := s2) rfl rfl xbk_sel (fun Q85 hQ85 => sX3_sureOf (σ := xsel [0, 1, 2, 3, 4, 5, 6, 7, 8, 9, 10, 11, 12] s2) (p := q) (kind := kind) (show 0 ≤ q ∧ q ≤ 5 from by omega) (show 0 ≤ kind ∧ kind ≤ 12 from by omega) (fun r85 p85 => hQ85 _ ?_))
        have p85 : r85 = s2 10 (13 * q + kind).toNat := p85
        refine And.intro (fun c86 => ?_) (fun c86 => ?_)
        · refine xMVp (sh := shH) (ci := 3) (τ := [0, 1, 2, 3, 4, 5, 6, 7, 8, 9, 10, 11, 12]) (E := xT kX3_mayBe) (t := 9) (r := [xvi q, xvi kind]) (σ := s2) rfl rfl xbk_sel (fun Q87 hQ87 => sX3_mayBe (σ := xsel [0, 1, 2, 3, 4, 5, 6, 7, 8, 9, 10, 11, 12] s2) (p := q) (kind := kind) (show 0 ≤ (s2 9 2) ∧ (s2 9 2) ≤ 52 from by omega) (fun r87 => hQ87 _ ?_))
          refine And.intro (fun c88 => ?_) (fun c88 => ?_)
          · refine And.intro (rfl) (And.intro (⟨by omega, by omega⟩) ?_)
            have hF := hF.pt (t := 13) (j := 7) (v := 0) (by decide) (by decide)
            have hC := hC.fr (ts := [13]) (js := []) (Fr.rf.pt (t := 13) (j := 7) (v := 0) (by decide) (by decide)) (by decide) (by decide) (by decide) (by decide) (by decide) (by decide) (by decide) (by decide)
            exact lp_123 (xput s2 13 7 0) ⟨hF, hC, h2s, (fun z => (show s2 13 3 = σ 2 (13 * q + kind).toNat from h133 z))⟩
          · refine And.intro (rfl) (And.intro (⟨by omega, by omega⟩) ?_)
            have hF := hF.pt (t := 13) (j := 7) (v := 1) (by decide) (by decide)
            have hC := hC.fr (ts := [13]) (js := []) (Fr.rf.pt (t := 13) (j := 7) (v := 1) (by decide) (by decide)) (by decide) (by decide) (by decide) (by decide) (by decide) (by decide) (by decide) (by decide)
            exact lp_123 (xput s2 13 7 1) ⟨hF, hC, h2s, (fun z => (show s2 13 3 = σ 2 (13 * q + kind).toNat from h133 z))⟩
        · refine And.intro (rfl) (And.intro (⟨by omega, by omega⟩) ?_)
          have hF := hF.pt (t := 13) (j := 7) (v := 2) (by decide) (by decide)
          have hC := hC.fr (ts := [13]) (js := []) (Fr.rf.pt (t := 13) (j := 7) (v := 2) (by decide) (by decide)) (by decide) (by decide) (by decide) (by decide) (by decide) (by decide) (by decide) (by decide)
          exact lp_123 (xput s2 13 7 2) ⟨hF, hC, h2s, (fun z => (show s2 13 3 = σ 2 (13 * q + kind).toNat from h133 z))⟩
      refine And.intro (rfl) (And.intro (⟨by omega, by omega⟩) ?_)
      have hF := hF.pt (t := 13) (j := 4) (v := (-1)) (by decide) (by decide)
      have hC := hC.fr (ts := [13]) (js := []) (Fr.rf.pt (t := 13) (j := 4) (v := (-1)) (by decide) (by decide)) (by decide) (by decide) (by decide) (by decide) (by decide) (by decide) (by decide) (by decide)
      refine And.intro (rfl) (And.intro (⟨by omega, by omega⟩) ?_)
      have hF := hF.pt (t := 13) (j := 5) (v := (-1)) (by decide) (by decide)
      have hC := hC.fr (ts := [13]) (js := []) (Fr.rf.pt (t := 13) (j := 5) (v := (-1)) (by decide) (by decide)) (by decide) (by decide) (by decide) (by decide) (by decide) (by decide) (by decide) (by decide)
      refine And.intro (fun c94 => ?_) (fun c94 => ?_)
      · refine And.intro (rfl) (And.intro (⟨by omega, by omega⟩) ?_)
        have hF := hF.pt (t := 13) (j := 6) (v := 0) (by decide) (by decide)
        have hC := hC.fr (ts := [13]) (js := []) (Fr.rf.pt (t := 13) (j := 6) (v := 0) (by decide) (by decide)) (by decide) (by decide) (by decide) (by decide) (by decide) (by decide) (by decide) (by decide)
        exact lp_85 (xput (xput (xput s1 13 4 (-1)) 13 5 (-1)) 13 6 0) ⟨hF, hC, h2s, (fun z => (show s1 13 3 = σ 2 (13 * q + kind).toNat from h133 z))⟩
      · refine And.intro (fun c96 => ?_) (fun c96 => ?_)
        · refine And.intro (rfl) (And.intro (⟨by omega, by omega⟩) ?_)
          have hF := hF.pt (t := 13) (j := 6) (v := 0) (by decide) (by decide)
          have hC := hC.fr (ts := [13]) (js := []) (Fr.rf.pt (t := 13) (j := 6) (v := 0) (by decide) (by decide)) (by decide) (by decide) (by decide) (by decide) (by decide) (by decide) (by decide) (by decide)
          exact lp_85 (xput (xput (xput s1 13 4 (-1)) 13 5 (-1)) 13 6 0) ⟨hF, hC, h2s, (fun z => (show s1 13 3 = σ 2 (13 * q + kind).toNat from h133 z))⟩
        · refine And.intro (rfl) (And.intro (⟨by omega, by omega⟩) ?_)
          have hF := hF.pt (t := 13) (j := 6) (v := 1) (by decide) (by decide)
          have hC := hC.fr (ts := [13]) (js := []) (Fr.rf.pt (t := 13) (j := 6) (v := 1) (by decide) (by decide)) (by decide) (by decide) (by decide) (by decide) (by decide) (by decide) (by decide) (by decide)
          exact lp_85 (xput (xput (xput s1 13 4 (-1)) 13 5 (-1)) 13 6 1) ⟨hF, hC, h2s, (fun z => (show s1 13 3 = σ 2 (13 * q + kind).toNat from h133 z))⟩
    refine And.intro (rfl) (And.intro (⟨by omega, by omega⟩) ?_)
    have hF := hF.pt (t := 13) (j := 0) (v := p) (by decide) (by decide)
    have hC := hC.fr (ts := [13]) (js := []) (Fr.rf.pt (t := 13) (j := 0) (v := p) (by decide) (by decide)) (by decide) (by decide) (by decide) (by decide) (by decide) (by decide) (by decide) (by decide)
    refine And.intro (rfl) (And.intro (⟨by omega, by omega⟩) ?_)
    have hF := hF.pt (t := 13) (j := 1) (v := q) (by decide) (by decide)
    have hC := hC.fr (ts := [13]) (js := []) (Fr.rf.pt (t := 13) (j := 1) (v := q) (by decide) (by decide)) (by decide) (by decide) (by decide) (by decide) (by decide) (by decide) (by decide) (by decide)
    refine And.intro (rfl) (And.intro (⟨by omega, by omega⟩) ?_)
    have hF := hF.pt (t := 13) (j := 2) (v := kind) (by decide) (by decide)
    have hC := hC.fr (ts := [13]) (js := []) (Fr.rf.pt (t := 13) (j := 2) (v := kind) (by decide) (by decide)) (by decide) (by decide) (by decide) (by decide) (by decide) (by decide) (by decide) (by decide)
    refine And.intro (fun c102 => ?_) (fun c102 => ?_)
    · refine And.intro (rfl) (And.intro (⟨by omega, by omega⟩) ?_)
      have hF := hF.pt (t := 13) (j := 3) (v := 0) (by decide) (by decide)
      have hC := hC.fr (ts := [13]) (js := []) (Fr.rf.pt (t := 13) (j := 3) (v := 0) (by decide) (by decide)) (by decide) (by decide) (by decide) (by decide) (by decide) (by decide) (by decide) (by decide)
      exact lp_55 (xput (xput (xput (xput σ 13 0 p) 13 1 q) 13 2 kind) 13 3 0) ⟨hF, hC, rfl, (fun z => (show 0 = σ 2 (13 * q + kind).toNat from by omega))⟩
    · refine And.intro (rfl) (And.intro (⟨by omega, by omega⟩) ?_)
      have hF := hF.pt (t := 13) (j := 3) (v := r1) (by decide) (by decide)
      have hC := hC.fr (ts := [13]) (js := []) (Fr.rf.pt (t := 13) (j := 3) (v := r1) (by decide) (by decide)) (by decide) (by decide) (by decide) (by decide) (by decide) (by decide) (by decide) (by decide)
      exact lp_55 (xput (xput (xput (xput σ 13 0 p) 13 1 q) 13 2 kind) 13 3 r1) ⟨hF, hC, rfl, (fun z => (show r1 = σ 2 (13 * q + kind).toNat from by omega))⟩
  refine And.intro (fun c105 => ?_) (fun c105 => ?_)
  · exact lp_22 () (show True from by first | trivial | omega | (refine ⟨by assumption, ?_⟩; omega) | (refine ⟨?_, ?_⟩ <;> omega))
  · refine And.intro (fun c106 => ?_) (fun c106 => ?_)
    · exact lp_22 () (show True from by first | trivial | omega | (refine ⟨by assumption, ?_⟩; omega) | (refine ⟨?_, ?_⟩ <;> omega))
    · refine And.intro (Nat.le_of_ble_eq_true rfl) ?_
      show xw _ _ _ _ _ _ _ _ _ _ [xvr 0, xvi p, xvi q, xvi kind, xvi lies, xvr 13, xvi r1, xvi 1, xvu] _ _
      exact lp_25 1 (show 1 = 0 ∨ 1 = 1 from by first | trivial | omega | (refine ⟨by assumption, ?_⟩; omega) | (refine ⟨?_, ?_⟩ <;> omega))
