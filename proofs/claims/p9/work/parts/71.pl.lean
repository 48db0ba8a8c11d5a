set_option maxHeartbeats 4000000 in
set_option maxRecDepth 100000 in
theorem s_plays {σ : xS} {n told : Int} {Q : Option xV → xS → Prop} (hp0 : RI σ) (hp1 : 2 ≤ σ 2 1) (hp2 : n ≤ 400) (hQ : ∀ r : Int, ∀ σ' : xS, Fr [2, 7] [24] σ σ' → (RK σ σ' ∧ LPx (σ 2) (σ' 2)) → Q (some (xvi r)) σ') : xT kX11_plays [xvr 0, xvi n, xvi told] σ Q := by
  refine ⟨Nat.le_of_ble_eq_true rfl, fun X hX => ?_⟩
  show X 0 [xvr 0, xvi n, xvi told, xvu, xvu, xvu] σ
  have hF : Fr [2, 7] [24] σ σ := Fr.rf
  refine hX 400 0 _ _ ?_
  refine And.intro (Nat.le_of_ble_eq_true rfl) ?_
  show xw _ _ _ _ _ _ _ _ _ _ [xvr 0, xvi n, xvi told, xvi 0, xvu, xvu] _ _
  have lp_2 : ∀ (m2 : Nat) (done : Int) (u1_4 : xV) (u1_5 : xV) (s1 : xS), ((n - done).toNat) = m2 → (Fr [2, 7] [24] σ s1 ∧ RK σ s1 ∧ LPx (σ 2) (s1 2) ∧ 0 ≤ done) → X 2 [xvr 0, xvi n, xvi told, xvi done, u1_4, u1_5] s1 := by
    intro m2
    induction m2 using Nat.strongRecOn with
    | _ m2 ih_2 =>
    intro done u1_4 u1_5 s1 hm_2 hv_2
    obtain ⟨hF, hI, hL, hv_2⟩ := hv_2
    have hvn := hI.1.vain; have htn := hI.1.turn; have hb0 := hI.1.kinds; have hb1 := hI.1.persons
    have q1 : s1 2 1 = σ 2 1 := hL 1 (by omega) (by omega)
    refine hX 400 2 _ _ ?_
    refine And.intro (fun c2 => ?_) (fun c2 => ?_)
    · refine hX 400 65 _ _ ?_
      refine And.intro rfl ?_
      exact hQ _ _ hF ⟨hI, hL⟩
    · refine And.intro (rfl) (And.intro (⟨by omega, by omega⟩) ?_)
      intro v3 e3 l3 h3
      have e3 : v3 = s1 2 4 := e3
      refine And.intro (fun c4 => ?_) (fun c4 => ?_)
      · refine hX 400 65 _ _ ?_
        refine And.intro rfl ?_
        exact hQ _ _ hF ⟨hI, hL⟩
      · refine And.intro (rfl) (And.intro (⟨by omega, by omega⟩) ?_)
        intro v5 e5 l5 h5
        have e5 : v5 = s1 2 4 := e5
        refine And.intro (Nat.le_of_ble_eq_true rfl) ?_
        show xw _ _ _ _ _ _ _ _ _ _ [xvr 0, xvi n, xvi told, xvi done, xvi v5, u1_5] _ _
        refine And.intro (rfl) (And.intro (⟨by omega, by omega⟩) ?_)
        intro v6 e6 l6 h6
        have e6 : v6 = s1 20 v5.toNat := e6
        have hvt : 0 < sm 13 (hd (s1 2) v5.toNat) := by
          have z := hI.1.1.2.2.2.2.2.2 (by omega)
          rw [show v5 = s1 2 4 from by omega]; exact z
        refine s_bentOf (σ := s1) (a := v5) (rule := v6) hI.1 (by omega) (fun r7 p7 => ?_)
        have p7 : 0 ≤ r7 ∧ r7 / 100 < s1 2 1 ∧ ¬ r7 / 100 = v5 ∧ (0 ≤ r7 % 100 ∧ r7 % 100 < s1 2 0) ∧ 1 ≤ s1 2 (60 + 13 * v5 + r7 % 100).toNat := by
          rcases p7 with q | q
          · exfalso; omega
          · exact q
        refine And.intro (Nat.le_of_ble_eq_true rfl) ?_
        show xw _ _ _ _ _ _ _ _ _ _ [xvr 0, xvi n, xvi told, xvi done, xvi v5, xvi r7] _ _
        refine And.intro (by omega) ?_
        intro z8 e8 f8 l8 h8
        replace f8 := f8 (by omega) (by omega)
        refine And.intro (by omega) ?_
        intro z9 e9 f9 l9 h9
        replace f9 := f9 (by omega) (by omega)
        have hh : 1 ≤ s1 2 (60 + 13 * v5 + z9).toNat := by rw [show z9 = r7 % 100 from by omega]; exact p7.2.2.2.2
        refine s_asks (σ := s1) (a := v5) (b := z8) (kind := z9) (lies := 0) (told := told) (VG_iff.mp hI.1.1).1 (by omega) (by omega) (by omega) (by omega) (by omega) hh (fun r10 σ10 f10 p10 => ?_)
        have hF := hF.tr f10 (by decide) (by decide)
        have hI := hI.g f10 p10.1 p10.2 (by decide) (by decide) (by decide) (by decide) (by decide) (by decide)
        have hL := hL.tr p10.2
        intro z11 t11 e11 l11 h11
        try have w11 : t11 = 0 := by omega
        show xw _ _ _ _ _ _ _ _ _ _ [xvr 0, xvi n, xvi told, xvi z11, xvi v5, xvi r7] _ _
        exact ih_2 _ (show (n - z11).toNat < m2 from by omega) z11 (xvi v5) (xvi r7) σ10 rfl ⟨hF, hI, hL, by omega⟩
  exact lp_2 _ 0 (xvu) (xvu) σ rfl ⟨hF, RK.rf hp0, LPx.rf, by omega⟩
set_option maxHeartbeats 4000000 in
set_option maxRecDepth 100000 in
theorem s_play {σ : xS} {n : Int} {Q : Option xV → xS → Prop} (hp0 : RI σ) (hQ : ∀ r : Int, ∀ σ' : xS, RZ σ σ' → Q (some (xvi r)) σ') : xT kX11_play [xvr 0, xvi n] σ Q := by
  refine ⟨Nat.le_of_ble_eq_true rfl, fun X hX => ?_⟩
  show X 0 [xvr 0, xvi n, xvu] σ
  have hF : Fr [2, 7, 8, 20] [0, 2, 3, 4, 5, 24, 27] σ σ := Fr.rf
  refine hX 400 0 _ _ ?_
  have hl := hp0.len
  have hF := hF.p (j := 0) (v := 0) (by decide)
  refine s_taken (σ := (xput σ 0 0 0)) (most := 940) (fun σ2 f2 p2 => ?_)
  have p2 : σ2 0 3 = (σ 0 2) ∧ σ2 0 2 = 0 ∧ σ2 0 4 = 0 ∧ σ2 0 5 = 940 := p2
  have hF := hF.tr f2 (by decide) (by decide)
  have hZ : RZ σ σ2 := RZ.fe hp0 hF (f2.1 2 (by decide) (by decide)) (f2.1 8 (by decide) (by decide)) (f2.2 27 (by decide)) (by decide) (by decide) (by decide) p2.2.1
  have hI : RK σ2 σ2 := RK.rf hZ.1
  have hb1 := hI.1.persons
  have k2 : σ2 2 = σ 2 := f2.1 2 (by decide) (by decide)
  have k21 := congrFun k2 1
  have lp_46 : ∀ (_ : Unit), (True) → X 46 [xvr 0, xvi n, xvu] σ2 := by
    intro _ hv_46
    refine hX 400 46 _ _ ?_
    refine And.intro rfl ?_
    exact hQ _ _ ⟨hI.1, hI.2.1.trans hZ.2.1, hI.2.2.1.trans hZ.2.2.1, hI.2.2.2.1.trans hZ.2.2.2.1, hI.2.2.2.2.1.trans hZ.2.2.2.2⟩
  refine s_isIn (σ := σ2) (v := n) (low := 1) (high := 400)  (fun r4 p4 => ?_)
  have p4 : (r4 = 1 ∧ 1 ≤ n ∧ n ≤ 400) ∨ (r4 = 0 ∧ (n < 1 ∨ 400 < n)) := p4
  refine And.intro (fun c5 => ?_) (fun c5 => ?_)
  · replace p4 : (n < 1 ∨ 400 < n) := by
      rcases p4 with q | q
      · exact absurd q.1 (by omega)
      · exact q.2
    exact lp_46 () (show True from by first | trivial | omega | (refine ⟨by assumption, ?_⟩; omega) | (refine ⟨?_, ?_⟩ <;> omega))
  · replace p4 : 1 ≤ n ∧ n ≤ 400 := by
      rcases p4 with q | q
      · exact q.2
      · exact absurd q.1 (by omega)
    refine And.intro (rfl) (And.intro (⟨by omega, by omega⟩) ?_)
    intro v6 e6 l6 h6
    have e6 : v6 = σ2 2 1 := e6
    refine And.intro (fun c7 => ?_) (fun c7 => ?_)
    · exact lp_46 () (show True from by first | trivial | omega | (refine ⟨by assumption, ?_⟩; omega) | (refine ⟨?_, ?_⟩ <;> omega))
    · intro v8 e8 l8 h8
      have e8 : v8 = σ2 0 3 := e8
      refine And.intro (rfl) (And.intro (⟨by omega, by omega⟩) ?_)
      intro v9 e9 l9 h9
      have e9 : v9 = σ2 2 1 := e9
      refine And.intro (fun c10 => ?_) (fun c10 => ?_)
      · refine And.intro (Nat.le_of_ble_eq_true rfl) ?_
        show xw _ _ _ _ _ _ _ _ _ _ [xvr 0, xvi n, xvi 0] _ _
        have lp_50 : ∀ (m50 : Nat) (k : Int) (s1 : xS), ((6 - k).toNat) = m50 → (Fr [2, 7, 8, 20] [0, 2, 3, 4, 5, 24, 27] σ s1 ∧ RK σ2 s1 ∧ s1 2 = σ2 2 ∧ (0 ≤ k ∧ s1 0 3 ≤ 6)) → X 50 [xvr 0, xvi n, xvi k] s1 := by
          intro m50
          induction m50 using Nat.strongRecOn with
          | _ m50 ih_50 =>
          intro k s1 hm_50 hv_50
          obtain ⟨hF, hI, hs2, hv_50⟩ := hv_50
          have q1 := congrFun hs2 1
          refine hX 400 50 _ _ ?_
          intro v12 e12 l12 h12
          have e12 : v12 = s1 0 3 := e12
          refine And.intro (fun c13 => ?_) (fun c13 => ?_)
          · refine And.intro (rfl) (And.intro (⟨by omega, by omega⟩) ?_)
            intro v14 e14 l14 h14
            have e14 : v14 = s1 2 4 := e14
            refine And.intro (fun c15 => ?_) (fun c15 => ?_)
            · refine s_keep (σ := s1) hI.1 (fun σ16 f16 p16 => ?_)
              have hF := hF.tr f16 (by decide) (by decide)
              have hI := hI.keep f16 p16
              have k2_16 : σ16 2 = s1 2 := f16.1 2 (by decide) (by decide)
              have k21_16 := congrFun k2_16 1
              refine s_plays (σ := σ16) (n := n) (told := 1) hI.1 (by omega) (by omega) (fun r17 σ17 f17 p17 => ?_)
              have hF := hF.tr f17 (by decide) (by decide)
              have hI := hI.tr p17.1
              refine And.intro rfl ?_
              exact hQ _ _ ⟨hI.1, hI.2.1.trans hZ.2.1, hI.2.2.1.trans hZ.2.2.1, hI.2.2.2.1.trans hZ.2.2.2.1, hI.2.2.2.2.1.trans hZ.2.2.2.2⟩
            · refine And.intro rfl ?_
              exact hQ _ _ ⟨hI.1, hI.2.1.trans hZ.2.1, hI.2.2.1.trans hZ.2.2.1, hI.2.2.2.1.trans hZ.2.2.2.1, hI.2.2.2.2.1.trans hZ.2.2.2.2⟩
          · refine s_octet (σ := s1) (k := k) (show 0 ≤ k ∧ k < 940 from by omega) (fun r18 p18 => ?_)
            have p18 : 0 ≤ r18 ∧ r18 ≤ 255 := p18
            refine And.intro (fun c19 => ?_) (fun c19 => ?_)
            · refine s_octet (σ := s1) (k := k) (show 0 ≤ k ∧ k < 940 from by omega) (fun r20 p20 => ?_)
              have p20 : 0 ≤ r20 ∧ r20 ≤ 255 := p20
              refine And.intro (rfl) (And.intro (⟨by omega, by omega⟩) ?_)
              have hF := hF.pt (t := 20) (j := k.toNat) (v := r20) (by decide) (by decide)
              have hI := hI.pt (t := 20) (j := k.toNat) (v := r20) (by decide) (by decide) (by decide) (by decide) (by decide)
              intro z22 t22 e22 l22 h22
              try have w22 : t22 = 0 := by omega
              show xw _ _ _ _ _ _ _ _ _ _ [xvr 0, xvi n, xvi z22] _ _
              exact ih_50 _ (show (6 - z22).toNat < m50 from by omega) z22 (xput s1 20 k.toNat r20) rfl ⟨hF, hI, hs2, (show 0 ≤ z22 ∧ s1 0 3 ≤ 6 from by omega)⟩
            · refine And.intro rfl ?_
              exact hQ _ _ ⟨hI.1, hI.2.1.trans hZ.2.1, hI.2.2.1.trans hZ.2.2.1, hI.2.2.2.1.trans hZ.2.2.2.1, hI.2.2.2.2.1.trans hZ.2.2.2.2⟩
        exact lp_50 _ 0 σ2 rfl ⟨hF, hI, rfl, by omega⟩
      · exact lp_46 () (show True from by first | trivial | omega | (refine ⟨by assumption, ?_⟩; omega) | (refine ⟨?_, ?_⟩ <;> omega))
set_option maxHeartbeats 4000000 in
set_option maxRecDepth 100000 in
theorem s_bent {σ : xS} {k rule : Int} {Q : Option xV → xS → Prop} (hI : RI σ) (hQ : ∀ r : Int, ∀ σ' : xS, RK σ σ' → Q (some (xvi r)) σ') : xT kX11_bent [xvr 0, xvi k, xvi rule] σ Q := by
  refine ⟨Nat.le_of_ble_eq_true rfl, fun X hX => ?_⟩
  show X 0 [xvr 0, xvi k, xvi rule] σ
  have hI : RK σ σ := RK.rf hI
  have hb0 := hI.1.kinds; have hb1 := hI.1.persons
  refine hX 400 0 _ _ ?_
  have hI := hI.p0 (j := 0) (v := 0) (by decide) (by decide) (by decide)
  refine s_isPerson (σ := (xput σ 0 0 0)) (k := k) hI.1  (fun r2 p2 => ?_)
  have p2 : (r2 = 1 ∧ 0 ≤ k ∧ k < (σ 2 1)) ∨ (r2 = 0 ∧ (k < 0 ∨ (σ 2 1) ≤ k)) := p2
  refine And.intro (fun c3 => ?_) (fun c3 => ?_)
  · replace p2 : (k < 0 ∨ (σ 2 1) ≤ k) := by
      rcases p2 with q | q
      · exact absurd q.1 (by omega)
      · exact q.2
    refine hX 400 31 _ _ ?_
    refine And.intro rfl ?_
    exact hQ _ _ hI 
  · replace p2 : 0 ≤ k ∧ k < (σ 2 1) := by
      rcases p2 with q | q
      · exact q.2
      · exact absurd q.1 (by omega)
    refine s_isIn (σ := (xput σ 0 0 0)) (v := rule) (low := 0) (high := 3)  (fun r4 p4 => ?_)
    have p4 : (r4 = 1 ∧ 0 ≤ rule ∧ rule ≤ 3) ∨ (r4 = 0 ∧ (rule < 0 ∨ 3 < rule)) := p4
    refine And.intro (fun c5 => ?_) (fun c5 => ?_)
    · replace p4 : (rule < 0 ∨ 3 < rule) := by
        rcases p4 with q | q
        · exact absurd q.1 (by omega)
        · exact q.2
      refine hX 400 31 _ _ ?_
      refine And.intro rfl ?_
      exact hQ _ _ hI 
    · replace p4 : 0 ≤ rule ∧ rule ≤ 3 := by
        rcases p4 with q | q
        · exact q.2
        · exact absurd q.1 (by omega)
      refine s_bentOf (σ := (xput σ 0 0 0)) (a := k) (rule := rule) hI.1 (by omega) (fun r6 p6 => ?_)
      clear p6
      refine And.intro rfl ?_
      exact hQ _ _ hI 
