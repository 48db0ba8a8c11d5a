set_option maxHeartbeats 4000000 in
set_option maxRecDepth 100000 in
theorem sX2_sayNoG {f : Nat → Int} {σ : xS} {p q kind : Int} {Q : Option xV → xS → Prop} (hp0 : GR σ f) (hp1 : VX f) (hp2 : 0 ≤ p ∧ p ≤ 5) (hp3 : 0 ≤ q ∧ q ≤ 5) (hp4 : 0 ≤ kind ∧ kind ≤ 12) (hp5 : p < f 1) (hp6 : f 2 = 0 ∨ f 2 = 1) (hp7 : 0 ≤ f 6 ∧ f 6 ≤ 6) (hQ : ∀ r : Int, ∀ σ' : xS, Fr [2, 3, 5, 8, 9, 10, 11, 12, 13] [8, 16] σ σ' → (GR σ' (noF (denF f q.toNat kind.toNat) p.toNat kind.toNat) ∧ r = noN (denF f q.toNat kind.toNat) p.toNat kind.toNat ∧ (σ' 13 4 = (if (denF f q.toNat kind.toNat) 7 = 0 then σ 13 4 else (denF f q.toNat kind.toNat) 8) ∧ σ' 13 5 = (if (denF f q.toNat kind.toNat) 7 = 0 then σ 13 5 else lyX (σ 13 5) (dcM (up (denF f q.toNat kind.toNat) 6 0) p.toNat (noS (denF f q.toNat kind.toNat) kind.toNat)) p.toNat ((denF f q.toNat kind.toNat) 8).toNat) ∧ ∀ j, j ≠ 4 → j ≠ 5 → σ' 13 j = σ 13 j)) → Q (some (xvi r)) σ') : xT kX2_sayNo [xvr 0, xvi p, xvi q, xvi kind, xvr 13] σ Q := by
  refine ⟨Nat.le_of_ble_eq_true rfl, fun X hX => ?_⟩
  show X 0 [xvr 0, xvi p, xvi q, xvi kind, xvr 13, xvu, xvu] σ
  have hF : Fr [2, 3, 5, 8, 9, 10, 11, 12, 13] [8, 16] σ σ := Fr.rf
  refine hX 400 0 _ _ ?_
  refine xMVf (sh := shH) (ci := 3) (τ := [0, 1, 2, 3, 4, 5, 6, 7, 8, 9, 10, 11, 12]) (E := xT kX3_denies) (t := 9) (r := [xvi q, xvi kind]) (σ := σ) rfl rfl (fun Q1 hQ1 => sX3_deniesG (σ := xsel [0, 1, 2, 3, 4, 5, 6, 7, 8, 9, 10, 11, 12] σ) (f := f) (p := q) (kind := kind) hp0.sel hp1 hp3 hp4 (fun ς1 f1 p1 => hQ1 _ _ ?_))
  replace f1 : Fr [9, 10, 11, 12] [] σ (xbk [0, 1, 2, 3, 4, 5, 6, 7, 8, 9, 10, 11, 12] σ ς1) := f1.bk0 (by decide) (by decide) (by decide)
  replace p1 : GR (xbk [0, 1, 2, 3, 4, 5, 6, 7, 8, 9, 10, 11, 12] σ ς1) (denF f q.toNat kind.toNat) := p1.bk
  generalize xbk [0, 1, 2, 3, 4, 5, 6, 7, 8, 9, 10, 11, 12] σ ς1 = σ1 at f1 p1 ⊢
  have hF := hF.tr f1 (by decide) (by decide)
  have q13 : ∀ j, σ1 13 j = σ 13 j := fun j => congrFun (f1.1 13 (by decide) (by decide)) j
  have hG := p1
  obtain ⟨hV, hQd, _⟩ := hp1.den (k := q.toNat) (kind := kind.toNat) (by omega) (by omega)
  have d1 := hQd 1 (by omega)
  have d2 := hQd 2 (by omega)
  have d6 := hQd 6 (by omega)
  generalize hd0 : denF f q.toNat kind.toNat = d at *
  have hhs := hG.hs
  have hh8 := hG.2.2.1.1.1.1
  have hh9 := hG.2.2.2.2.1
  have n1 := hG.n0 (i := 1) (by decide)
  have n2 := hG.n0 (i := 2) (by decide)
  have n6 : σ1 0 16 = d 6 := hG.n1 (i := 6) (by decide)
  have m1 := hV.1.1.2.1
  have m7 := hV.1.1.2.2.2
  refine xMVp (sh := shH) (ci := 2) (τ := [0, 1, 2, 3, 4, 5, 6, 7, 8, 9, 10, 11, 12]) (E := xT kX2_heapSize) (t := 0) (r := []) (σ := σ1) rfl rfl xbk_sel (fun Q2 hQ2 => sX2_heapSize (σ := xsel [0, 1, 2, 3, 4, 5, 6, 7, 8, 9, 10, 11, 12] σ1)  (show 0 ≤ σ1 0 8 ∧ σ1 0 8 ≤ σ1 0 9 ∧ σ1 0 9 ≤ 52 from by omega) (fun r2 p2 => hQ2 _ ?_))
  have p2 : r2 = σ1 0 9 - σ1 0 8 := p2
  refine And.intro (fun c3 => ?_) (fun c3 => ?_)
  · have hF := hF.p (j := 16) (v := 0) (by decide)
    intro v5 e5 l5 h5
    have e5 : v5 = σ1 0 8 := e5
    refine And.intro (rfl) (And.intro (⟨by omega, by omega⟩) ?_)
    intro v6 e6 l6 h6
    have e6 : v6 = σ1 4 v5.toNat := e6
    have h7p : 1 ≤ d 7 := by omega
    have hc8 : v6 = d 8 := by rw [e6, show v5 = σ1 0 8 from by omega]; exact hG.h0 h7p
    have hc8r := hV.1.c8 h7p
    refine And.intro (Nat.le_of_ble_eq_true rfl) ?_
    show xw _ _ _ _ _ _ _ _ _ _ [xvr 0, xvi p, xvi q, xvi kind, xvr 13, xvi v6, xvu] _ _
    intro v7 e7 l7 h7
    have e7 : v7 = σ1 0 2 := e7
    refine And.intro (fun c8 => ?_) (fun c8 => ?_)
    · refine hX 400 65 _ _ ?_
      have hns : noS d kind.toNat = 0 := by
        unfold noS
        rw [show ((kind.toNat : Nat) : Int) = kind from by omega]
        first | (rw [if_pos (by omega)]) | (rw [if_neg (by omega)])
      refine And.intro (Nat.le_of_ble_eq_true rfl) ?_
      show xw _ _ _ _ _ _ _ _ _ _ [xvr 0, xvi p, xvi q, xvi kind, xvr 13, xvi v6, xvi 0] _ _
      refine And.intro (rfl) (And.intro (⟨by omega, by omega⟩) ?_)
      have hF := hF.pt (t := 13) (j := 4) (v := v6) (by decide) (by decide)
      have hG6 : GR (xput (xput σ1 0 16 0) 13 4 v6) (up d 6 0) := ((hG.num (i := 6) (j := 16) (c := 0) (v := 0) (w := 0) (by decide) (by decide) (by decide) (by decide)).fr (ts := [13]) (js := []) (Fr.rf.pt (by decide) (by decide)))
      have hV6 : VX (up d 6 0) := hV.t (Or.inr rfl)
      have u1 : up d 6 0 1 = d 1 := up_n (by decide)
      have u7 : up d 6 0 7 = d 7 := up_n (by decide)
      have u8 : up d 6 0 8 = d 8 := up_n (by decide)
      refine xMVf (sh := shH) (ci := 2) (τ := [0, 1, 2, 3, 4, 5, 6, 7, 8, 9, 10, 11, 12]) (E := xT kX2_drawCard) (t := 0) (r := [xvi p, xvi 0]) (σ := (xput (xput σ1 0 16 0) 13 4 v6)) rfl rfl (fun Q10 hQ10 => sX2_drawCardG (σ := xsel [0, 1, 2, 3, 4, 5, 6, 7, 8, 9, 10, 11, 12] (xput (xput σ1 0 16 0) 13 4 v6)) (f := up d 6 0) (p := p) (shown := 0) hG6.sel hV6 hp2 (by omega) (by omega) (fun r10 ς10 f10 p10 => hQ10 _ _ ?_))
      replace f10 : Fr [2, 3, 5, 8, 9, 10, 11, 12] [8] (xput (xput σ1 0 16 0) 13 4 v6) (xbk [0, 1, 2, 3, 4, 5, 6, 7, 8, 9, 10, 11, 12] (xput (xput σ1 0 16 0) 13 4 v6) ς10) := f10.bk0 (by decide) (by decide) (by decide)
      replace p10 : GR (xbk [0, 1, 2, 3, 4, 5, 6, 7, 8, 9, 10, 11, 12] (xput (xput σ1 0 16 0) 13 4 v6) ς10) (dcF (up d 6 0) p.toNat 0) ∧ r10 = if (dcM (up d 6 0) p.toNat 0) (60 + 13 * p.toNat + (up d 6 0 8).toNat) < 4 then 0 else 1 := ⟨p10.1.bk, p10.2⟩
      generalize xbk [0, 1, 2, 3, 4, 5, 6, 7, 8, 9, 10, 11, 12] (xput (xput σ1 0 16 0) 13 4 v6) ς10 = σ10 at f10 p10 ⊢
      have hF := hF.tr f10 (by decide) (by decide)
      have hvd := (hV6.dc (p := p.toNat) (shown := 0) (by omega) (by omega) (by omega)).2.1 1 (by omega)
      have n1 : σ10 0 1 = d 1 := (p10.1.n0 (i := 1) (by decide)).trans (hvd.trans u1)
      have x78 : ∀ j, j ≠ 4 → σ10 13 j = σ 13 j := fun j hj => (congrFun (f10.1 13 (by decide) (by decide)) j).trans ((xput_o hj).trans (q13 j))
      have y784 : σ10 13 4 = d 8 := (congrFun (f10.1 13 (by decide) (by decide)) 4).trans (xput_s.trans hc8)
      have x785 := x78 5 (by decide)
      have hG78 := p10.1
      have y78 := p10.2
      rw [u8] at y78
      refine And.intro (fun c11 => ?_) (fun c11 => ?_)
      · refine hX 400 90 _ _ ?_
        refine And.intro (fun _ => ?_) (fun c12 => absurd (by decide) c12)
        refine xMVp (sh := shH) (ci := 2) (τ := [0, 1, 2, 3, 4, 5, 6, 7, 8, 9, 10, 11, 12]) (E := xT kX2_after) (t := 0) (r := [xvi p]) (σ := σ10) rfl rfl xbk_sel (fun Q13 hQ13 => sX2_afterG (σ := xsel [0, 1, 2, 3, 4, 5, 6, 7, 8, 9, 10, 11, 12] σ10) (p := p) hp2 (show 0 ≤ σ10 0 1 ∧ σ10 0 1 ≤ 6 from by omega) (fun r13 p13 => hQ13 _ ?_))
        have p13 : r13 = aft (σ10 0 1) p := p13
        rw [n1] at p13
        refine And.intro rfl ?_
        exact hQ _ _ hF ⟨by
          unfold noF
          rw [if_neg (by omega), hns]
          exact hG78, by
          unfold noN
          rw [hns]
          first | (rw [if_pos (by omega)]; omega) | (rw [if_neg (by omega), show ((p.toNat : Nat) : Int) = p from by omega]; exact p13), ⟨by rw [if_neg (by omega)]; show σ10 13 4 = d 8; omega, by
            rw [if_neg (by omega), hns]
            unfold lyX
            first | (rw [if_pos (by omega)]; show σ10 13 5 = σ 13 5; omega) | (rw [if_neg (by omega)]; show σ10 13 5 = _; omega), fun j h4 h5 => x78 j h4⟩⟩
      · refine And.intro (rfl) (And.intro (⟨by omega, by omega⟩) ?_)
        have hF := hF.pt (t := 13) (j := 5) (v := v6) (by decide) (by decide)
        have hG78 := hG78.fr (ts := [13]) (js := []) (Fr.rf.pt (t := 13) (j := 5) (v := v6) (by decide) (by decide))
        refine hX 400 90 _ _ ?_
        refine And.intro (fun _ => ?_) (fun c15 => absurd (by decide) c15)
        refine xMVp (sh := shH) (ci := 2) (τ := [0, 1, 2, 3, 4, 5, 6, 7, 8, 9, 10, 11, 12]) (E := xT kX2_after) (t := 0) (r := [xvi p]) (σ := (xput σ10 13 5 v6)) rfl rfl xbk_sel (fun Q16 hQ16 => sX2_afterG (σ := xsel [0, 1, 2, 3, 4, 5, 6, 7, 8, 9, 10, 11, 12] (xput σ10 13 5 v6)) (p := p) hp2 (show 0 ≤ σ10 0 1 ∧ σ10 0 1 ≤ 6 from by omega) (fun r16 p16 => hQ16 _ ?_))
        have p16 : r16 = aft (σ10 0 1) p := p16
        rw [n1] at p16
        refine And.intro rfl ?_
        exact hQ _ _ hF ⟨by
          unfold noF
          rw [if_neg (by omega), hns]
          exact hG78, by
          unfold noN
          rw [hns]
          first | (rw [if_pos (by omega)]; omega) | (rw [if_neg (by omega), show ((p.toNat : Nat) : Int) = p from by omega]; exact p16), ⟨by rw [if_neg (by omega)]; show σ10 13 4 = d 8; omega, by
            rw [if_neg (by omega), hns]
            unfold lyX
            first | (rw [if_pos (by omega)]; show v6 = σ 13 5; omega) | (rw [if_neg (by omega)]; show v6 = _; omega), fun j h4 h5 => (xput_o h5).trans (x78 j h4)⟩⟩
    · refine And.intro (fun c17 => ?_) (fun c17 => ?_)
      · refine hX 400 65 _ _ ?_
        have hns : noS d kind.toNat = 0 := by
          unfold noS
          rw [show ((kind.toNat : Nat) : Int) = kind from by omega]
          first | (rw [if_pos (by omega)]) | (rw [if_neg (by omega)])
        refine And.intro (Nat.le_of_ble_eq_true rfl) ?_
        show xw _ _ _ _ _ _ _ _ _ _ [xvr 0, xvi p, xvi q, xvi kind, xvr 13, xvi v6, xvi 0] _ _
        refine And.intro (rfl) (And.intro (⟨by omega, by omega⟩) ?_)
        have hF := hF.pt (t := 13) (j := 4) (v := v6) (by decide) (by decide)
        have hG6 : GR (xput (xput σ1 0 16 0) 13 4 v6) (up d 6 0) := ((hG.num (i := 6) (j := 16) (c := 0) (v := 0) (w := 0) (by decide) (by decide) (by decide) (by decide)).fr (ts := [13]) (js := []) (Fr.rf.pt (by decide) (by decide)))
        have hV6 : VX (up d 6 0) := hV.t (Or.inr rfl)
        have u1 : up d 6 0 1 = d 1 := up_n (by decide)
        have u7 : up d 6 0 7 = d 7 := up_n (by decide)
        have u8 : up d 6 0 8 = d 8 := up_n (by decide)
        refine xMVf (sh := shH) (ci := 2) (τ := [0, 1, 2, 3, 4, 5, 6, 7, 8, 9, 10, 11, 12]) (E := xT kX2_drawCard) (t := 0) (r := [xvi p, xvi 0]) (σ := (xput (xput σ1 0 16 0) 13 4 v6)) rfl rfl (fun Q19 hQ19 => sX2_drawCardG (σ := xsel [0, 1, 2, 3, 4, 5, 6, 7, 8, 9, 10, 11, 12] (xput (xput σ1 0 16 0) 13 4 v6)) (f := up d 6 0) (p := p) (shown := 0) hG6.sel hV6 hp2 (by omega) (by omega) (fun r19 ς19 f19 p19 => hQ19 _ _ ?_))
        replace f19 : Fr [2, 3, 5, 8, 9, 10, 11, 12] [8] (xput (xput σ1 0 16 0) 13 4 v6) (xbk [0, 1, 2, 3, 4, 5, 6, 7, 8, 9, 10, 11, 12] (xput (xput σ1 0 16 0) 13 4 v6) ς19) := f19.bk0 (by decide) (by decide) (by decide)
        replace p19 : GR (xbk [0, 1, 2, 3, 4, 5, 6, 7, 8, 9, 10, 11, 12] (xput (xput σ1 0 16 0) 13 4 v6) ς19) (dcF (up d 6 0) p.toNat 0) ∧ r19 = if (dcM (up d 6 0) p.toNat 0) (60 + 13 * p.toNat + (up d 6 0 8).toNat) < 4 then 0 else 1 := ⟨p19.1.bk, p19.2⟩
        generalize xbk [0, 1, 2, 3, 4, 5, 6, 7, 8, 9, 10, 11, 12] (xput (xput σ1 0 16 0) 13 4 v6) ς19 = σ19 at f19 p19 ⊢
        have hF := hF.tr f19 (by decide) (by decide)
        have hvd := (hV6.dc (p := p.toNat) (shown := 0) (by omega) (by omega) (by omega)).2.1 1 (by omega)
        have n1 : σ19 0 1 = d 1 := (p19.1.n0 (i := 1) (by decide)).trans (hvd.trans u1)
        have x78 : ∀ j, j ≠ 4 → σ19 13 j = σ 13 j := fun j hj => (congrFun (f19.1 13 (by decide) (by decide)) j).trans ((xput_o hj).trans (q13 j))
        have y784 : σ19 13 4 = d 8 := (congrFun (f19.1 13 (by decide) (by decide)) 4).trans (xput_s.trans hc8)
        have x785 := x78 5 (by decide)
        have hG78 := p19.1
        have y78 := p19.2
        rw [u8] at y78
        refine And.intro (fun c20 => ?_) (fun c20 => ?_)
        · refine hX 400 90 _ _ ?_
          refine And.intro (fun _ => ?_) (fun c21 => absurd (by decide) c21)
          refine xMVp (sh := shH) (ci := 2) (τ := [0, 1, 2, 3, 4, 5, 6, 7, 8, 9, 10, 11, 12]) (E := xT kX2_after) (t := 0) (r := [xvi p]) (σ := σ19) rfl rfl xbk_sel (fun Q22 hQ22 => sX2_afterG (σ := xsel [0, 1, 2, 3, 4, 5, 6, 7, 8, 9, 10, 11, 12] σ19) (p := p) hp2 (show 0 ≤ σ19 0 1 ∧ σ19 0 1 ≤ 6 from by omega) (fun r22 p22 => hQ22 _ ?_))
          have p22 : r22 = aft (σ19 0 1) p := p22
          rw [n1] at p22
          refine And.intro rfl ?_
          exact hQ _ _ hF ⟨by
            unfold noF
            rw [if_neg (by omega), hns]
            exact hG78, by
            unfold noN
            rw [hns]
            first | (rw [if_pos (by omega)]; omega) | (rw [if_neg (by omega), show ((p.toNat : Nat) : Int) = p from by omega]; exact p22), ⟨by rw [if_neg (by omega)]; show σ19 13 4 = d 8; omega, by
              rw [if_neg (by omega), hns]
              unfold lyX
              first | (rw [if_pos (by omega)]; show σ19 13 5 = σ 13 5; omega) | (rw [if_neg (by omega)]; show σ19 13 5 = _; omega), fun j h4 h5 => x78 j h4⟩⟩
        · refine And.intro (rfl) (And.intro (⟨by omega, by omega⟩) ?_)
          have hF := hF.pt (t := 13) (j := 5) (v := v6) (by decide) (by decide)
          have hG78 := hG78.fr (ts := [13]) (js := []) (Fr.rf.pt (t := 13) (j := 5) (v := v6) (by decide) (by decide))
          refine hX 400 90 _ _ ?_
          refine And.intro (fun _ => ?_) (fun c24 => absurd (by decide) c24)
          refine xMVp (sh := shH) (ci := 2) (τ := [0, 1, 2, 3, 4, 5, 6, 7, 8, 9, 10, 11, 12]) (E := xT kX2_after) (t := 0) (r := [xvi p]) (σ := (xput σ19 13 5 v6)) rfl rfl xbk_sel (fun Q25 hQ25 => sX2_afterG (σ := xsel [0, 1, 2, 3, 4, 5, 6, 7, 8, 9, 10, 11, 12] (xput σ19 13 5 v6)) (p := p) hp2 (show 0 ≤ σ19 0 1 ∧ σ19 0 1 ≤ 6 from by omega) (fun r25 p25 => hQ25 _ ?_))
          have p25 : r25 = aft (σ19 0 1) p := p25
          rw [n1] at p25
          refine And.intro rfl ?_
          exact hQ _ _ hF ⟨by
            unfold noF
            rw [if_neg (by omega), hns]
            exact hG78, by
            unfold noN
            rw [hns]
            first | (rw [if_pos (by omega)]; omega) | (rw [if_neg (by omega), show ((p.toNat : Nat) : Int) = p from by omega]; exact p25), ⟨by rw [if_neg (by omega)]; show σ19 13 4 = d 8; omega, by
              rw [if_neg (by omega), hns]
              unfold lyX
              first | (rw [if_pos (by omega)]; show v6 = σ 13 5; omega) | (rw [if_neg (by omega)]; show v6 = _; omega), fun j h4 h5 => (xput_o h5).trans (x78 j h4)⟩⟩
      · have hns : noS d kind.toNat = 1 := by
          unfold noS
          rw [show ((kind.toNat : Nat) : Int) = kind from by omega]
          first | (rw [if_pos (by omega)]) | (rw [if_neg (by omega)])
        refine And.intro (Nat.le_of_ble_eq_true rfl) ?_
        show xw _ _ _ _ _ _ _ _ _ _ [xvr 0, xvi p, xvi q, xvi kind, xvr 13, xvi v6, xvi 1] _ _
        refine And.intro (rfl) (And.intro (⟨by omega, by omega⟩) ?_)
        have hF := hF.pt (t := 13) (j := 4) (v := v6) (by decide) (by decide)
        have hG6 : GR (xput (xput σ1 0 16 0) 13 4 v6) (up d 6 0) := ((hG.num (i := 6) (j := 16) (c := 0) (v := 0) (w := 0) (by decide) (by decide) (by decide) (by decide)).fr (ts := [13]) (js := []) (Fr.rf.pt (by decide) (by decide)))
        have hV6 : VX (up d 6 0) := hV.t (Or.inr rfl)
        have u1 : up d 6 0 1 = d 1 := up_n (by decide)
        have u7 : up d 6 0 7 = d 7 := up_n (by decide)
        have u8 : up d 6 0 8 = d 8 := up_n (by decide)
        refine xMVf (sh := shH) (ci := 2) (τ := [0, 1, 2, 3, 4, 5, 6, 7, 8, 9, 10, 11, 12]) (E := xT kX2_drawCard) (t := 0) (r := [xvi p, xvi 1]) (σ := (xput (xput σ1 0 16 0) 13 4 v6)) rfl rfl (fun Q27 hQ27 => sX2_drawCardG (σ := xsel [0, 1, 2, 3, 4, 5, 6, 7, 8, 9, 10, 11, 12] (xput (xput σ1 0 16 0) 13 4 v6)) (f := up d 6 0) (p := p) (shown := 1) hG6.sel hV6 hp2 (by omega) (by omega) (fun r27 ς27 f27 p27 => hQ27 _ _ ?_))
        replace f27 : Fr [2, 3, 5, 8, 9, 10, 11, 12] [8] (xput (xput σ1 0 16 0) 13 4 v6) (xbk [0, 1, 2, 3, 4, 5, 6, 7, 8, 9, 10, 11, 12] (xput (xput σ1 0 16 0) 13 4 v6) ς27) := f27.bk0 (by decide) (by decide) (by decide)
        replace p27 : GR (xbk [0, 1, 2, 3, 4, 5, 6, 7, 8, 9, 10, 11, 12] (xput (xput σ1 0 16 0) 13 4 v6) ς27) (dcF (up d 6 0) p.toNat 1) ∧ r27 = if (dcM (up d 6 0) p.toNat 1) (60 + 13 * p.toNat + (up d 6 0 8).toNat) < 4 then 0 else 1 := ⟨p27.1.bk, p27.2⟩
        generalize xbk [0, 1, 2, 3, 4, 5, 6, 7, 8, 9, 10, 11, 12] (xput (xput σ1 0 16 0) 13 4 v6) ς27 = σ27 at f27 p27 ⊢
        have hF := hF.tr f27 (by decide) (by decide)
        have hvd := (hV6.dc (p := p.toNat) (shown := 1) (by omega) (by omega) (by omega)).2.1 1 (by omega)
        have n1 : σ27 0 1 = d 1 := (p27.1.n0 (i := 1) (by decide)).trans (hvd.trans u1)
        have x78 : ∀ j, j ≠ 4 → σ27 13 j = σ 13 j := fun j hj => (congrFun (f27.1 13 (by decide) (by decide)) j).trans ((xput_o hj).trans (q13 j))
        have y784 : σ27 13 4 = d 8 := (congrFun (f27.1 13 (by decide) (by decide)) 4).trans (xput_s.trans hc8)
        have x785 := x78 5 (by decide)
        have hG78 := p27.1
        have y78 := p27.2
        rw [u8] at y78
        refine And.intro (fun c28 => ?_) (fun c28 => ?_)
        · refine hX 400 90 _ _ ?_
          refine And.intro (fun c29 => absurd c29 (by decide)) (fun _ => ?_)
          refine And.intro rfl ?_
          exact hQ _ _ hF ⟨by
            unfold noF
            rw [if_neg (by omega), hns]
            exact hG78, by
            unfold noN
            rw [hns]
            first | (rw [if_pos (by omega)]; omega) | (rw [if_neg (by omega), show ((p.toNat : Nat) : Int) = p from by omega]; exact p25), ⟨by rw [if_neg (by omega)]; show σ27 13 4 = d 8; omega, by
              rw [if_neg (by omega), hns]
              unfold lyX
              first | (rw [if_pos (by omega)]; show σ27 13 5 = σ 13 5; omega) | (rw [if_neg (by omega)]; show σ27 13 5 = _; omega), fun j h4 h5 => x78 j h4⟩⟩
        · refine And.intro (rfl) (And.intro (⟨by omega, by omega⟩) ?_)
          have hF := hF.pt (t := 13) (j := 5) (v := v6) (by decide) (by decide)
          have hG78 := hG78.fr (ts := [13]) (js := []) (Fr.rf.pt (t := 13) (j := 5) (v := v6) (by decide) (by decide))
          refine hX 400 90 _ _ ?_
          refine And.intro (fun c31 => absurd c31 (by decide)) (fun _ => ?_)
          refine And.intro rfl ?_
          exact hQ _ _ hF ⟨by
            unfold noF
            rw [if_neg (by omega), hns]
            exact hG78, by
            unfold noN
            rw [hns]
            first | (rw [if_pos (by omega)]; omega) | (rw [if_neg (by omega), show ((p.toNat : Nat) : Int) = p from by omega]; exact p25), ⟨by rw [if_neg (by omega)]; show σ27 13 4 = d 8; omega, by
              rw [if_neg (by omega), hns]
              unfold lyX
              first | (rw [if_pos (by omega)]; show v6 = σ 13 5; omega) | (rw [if_neg (by omega)]; show v6 = _; omega), fun j h4 h5 => (xput_o h5).trans (x78 j h4)⟩⟩
  · intro v32 e32 l32 h32
    have e32 : v32 = σ1 0 16 := e32
    intro z33 t33 e33 l33 h33
    try have w33 : t33 = 0 := by omega
    have hF := hF.p (j := 16) (v := z33) (by decide)
    refine xMVp (sh := shH) (ci := 2) (τ := [0, 1, 2, 3, 4, 5, 6, 7, 8, 9, 10, 11, 12]) (E := xT kX2_after) (t := 0) (r := [xvi p]) (σ := (xput σ1 0 16 z33)) rfl rfl xbk_sel (fun Q35 hQ35 => sX2_afterG (σ := xsel [0, 1, 2, 3, 4, 5, 6, 7, 8, 9, 10, 11, 12] (xput σ1 0 16 z33)) (p := p) hp2 (show 0 ≤ σ1 0 1 ∧ σ1 0 1 ≤ 6 from by omega) (fun r35 p35 => hQ35 _ ?_))
    have p35 : r35 = aft (σ1 0 1) p := p35
    rw [n1] at p35
    refine And.intro rfl ?_
    exact hQ _ _ hF ⟨by
      unfold noF
      rw [if_pos (by omega)]
      exact (hG.num (i := 6) (j := 16) (c := 0) (v := d 6 + 1) (by decide) (by omega) (by decide) (by decide)), by
      unfold noN
      rw [if_neg (by omega), show ((p.toNat : Nat) : Int) = p from by omega]
      exact p35, ⟨by rw [if_pos (by omega)]; show σ1 13 4 = σ 13 4; exact q13 4, by rw [if_pos (by omega)]; show σ1 13 5 = σ 13 5; exact q13 5, fun j _ _ => q13 j⟩⟩

