set_option maxHeartbeats 4000000 in
set_option maxRecDepth 100000 in
theorem s_commonG {σ : xS} {a b : Int} {Q : Option xV → xS → Prop} (hp0 : (-9223372036854775808 ≤ a ∧ a ≤ 9223372036854775807)) (hp1 : (-9223372036854775808 ≤ b ∧ b ≤ 9223372036854775807)) (hQ : ∀ r : Int, (r = 0 → a = 0 ∧ b = 0) → Q (some (xvl r)) σ) : xT kX11_common [xvl a, xvl b] σ Q := by
  refine ⟨Nat.le_of_ble_eq_true rfl, fun X hX => ?_⟩
  show X 0 [xvl a, xvu, xvl b, xvu, xvu, xvu, xvu, xvu, xvu, xvu] σ
  refine hX 400 0 _ _ ?_
  refine And.intro (Nat.le_of_ble_eq_true rfl) ?_
  show xw _ _ _ _ _ _ _ _ _ _ [xvl a, xvu, xvl b, xvu, xvl a, xvu, xvu, xvu, xvu, xvu] _ _
  refine And.intro (Nat.le_of_ble_eq_true rfl) ?_
  show xw _ _ _ _ _ _ _ _ _ _ [xvl a, xvu, xvl b, xvu, xvl a, xvu, xvl b, xvu, xvu, xvu] _ _
  have lp_6 : ∀ (m6 : Nat) (x : Int) (y : Int) (u1_8 : xV) (u1_9 : xV), (y.natAbs) = m6 → ((-9223372036854775808 ≤ x ∧ x ≤ 9223372036854775807) ∧ (-9223372036854775808 ≤ y ∧ y ≤ 9223372036854775807) ∧ (x = 0 → y = 0 → a = 0 ∧ b = 0)) → X 6 [xvl a, xvu, xvl b, xvu, xvl x, xvu, xvl y, xvu, u1_8, u1_9] σ := by
    intro m6
    induction m6 using Nat.strongRecOn with
    | _ m6 ih_6 =>
    intro x y u1_8 u1_9 hm_6 hv_6
    refine hX 400 6 _ _ ?_
    intro z2 a2 b2 c2 l2 h2
    refine And.intro (fun c3 => ?_) (fun c3 => ?_)
    · refine And.intro rfl (And.intro rfl ?_)
      exact hQ _ (by omega)
    · refine And.intro (by omega) ?_
      intro z4 e4 f4 l4 h4
      refine And.intro (Nat.le_of_ble_eq_true rfl) ?_
      show xw _ _ _ _ _ _ _ _ _ _ [xvl a, xvu, xvl b, xvu, xvl x, xvu, xvl y, xvu, xvl z4, xvu] _ _
      have nb_ := xlrem_b (by omega) (by omega) (by omega) e4
      refine And.intro (Nat.le_of_ble_eq_true rfl) ?_
      show xw _ _ _ _ _ _ _ _ _ _ [xvl a, xvu, xvl b, xvu, xvl y, xvu, xvl y, xvu, xvl z4, xvu] _ _
      refine And.intro (Nat.le_of_ble_eq_true rfl) ?_
      show xw _ _ _ _ _ _ _ _ _ _ [xvl a, xvu, xvl b, xvu, xvl y, xvu, xvl z4, xvu, xvl z4, xvu] _ _
      exact ih_6 _ (show z4.natAbs < m6 from by omega) y z4 (xvl z4) (xvu) rfl ⟨by omega, by omega, by omega⟩
  exact lp_6 _ a b (xvu) (xvu) rfl ⟨hp0, hp1, fun h1 h2 => ⟨h1, h2⟩⟩
set_option maxHeartbeats 4000000 in
set_option maxRecDepth 100000 in
theorem s_part {σ : xS} {a b what : Int} {Q : Option xV → xS → Prop} (hp0 : (-9223372036854775808 ≤ a ∧ a ≤ 9223372036854775807)) (hp1 : (-9223372036854775808 ≤ b ∧ b ≤ 9223372036854775807)) (hp2 : ¬ b = 0) (hQ : ∀ r : Int, (0 : Int) ≤ 0 → Q (some (xvl r)) σ) : xT kX11_part [xvl a, xvl b, xvi what] σ Q := by
  refine ⟨Nat.le_of_ble_eq_true rfl, fun X hX => ?_⟩
  show X 0 [xvl a, xvu, xvl b, xvu, xvi what] σ
  refine hX 400 0 _ _ ?_
  refine And.intro (fun c1 => ?_) (fun c1 => ?_)
  · refine s_commonG (σ := σ) (a := a) (b := b) (by omega) (by omega) (fun r2 p2 => ?_)
    refine And.intro (by omega) ?_
    intro z3 e3 f3 l3 h3
    refine And.intro rfl (And.intro rfl ?_)
    exact hQ _ (by omega)
  · refine s_commonG (σ := σ) (a := a) (b := b) (by omega) (by omega) (fun r4 p4 => ?_)
    refine And.intro (by omega) ?_
    intro z5 e5 f5 l5 h5
    refine And.intro rfl (And.intro rfl ?_)
    exact hQ _ (by omega)
set_option maxHeartbeats 4000000 in
set_option maxRecDepth 100000 in
theorem s_digitE {σ : xS} {code by_ : Int} {Q : Option xV → xS → Prop} (hp0 : 0 ≤ code ∧ 0 < by_) (hQ : ∀ r : Int, (r = code / by_ % 5) → Q (some (xvi r)) σ) : xT kX11_digit [xvi code, xvi by_] σ Q := by
  refine ⟨Nat.le_of_ble_eq_true rfl, fun X hX => ?_⟩
  show X 0 [xvi code, xvi by_] σ
  refine hX 400 0 _ _ ?_
  refine And.intro (by omega) ?_
  intro z1 e1 f1 l1 h1
  replace f1 := f1 (by omega) (by omega)
  have g1 := Int.ediv_nonneg (a := code) (b := by_) (by omega) (by omega); rw [← f1] at g1
  refine And.intro (by omega) ?_
  intro z2 e2 f2 l2 h2
  replace f2 := f2 (by omega) (by omega)
  refine And.intro rfl ?_
  exact hQ _ (by rw [f2, f1])
set_option maxHeartbeats 4000000 in
set_option maxRecDepth 100000 in
theorem s_looks {σ : xS} {o : Int} {Q : Option xV → xS → Prop} (hp0 : RI σ) (hp1 : 0 ≤ o ∧ o < σ 2 1) (hQ : ∀ r : Int, ∀ σ' : xS, Fr [10, 11] [33, 34, 35] σ σ' → ((r = 1 ∧ LKx σ' o) ∨ r = 0) → Q (some (xvi r)) σ') : xT kX11_looks [xvr 0, xvi o] σ Q := by
  refine ⟨Nat.le_of_ble_eq_true rfl, fun X hX => ?_⟩
  show X 0 [xvr 0, xvi o, xvu, xvu] σ
  have hF : Fr [10, 11] [33, 34, 35] σ σ := Fr.rf
  refine hX 400 0 _ _ ?_
  have hoth : ∀ p, p < 6 → 0 ≤ σ 2 (229 + p) ∧ σ 2 (229 + p) ≤ 52 := fun p hp => hp0.1.others hp
  have hb0 := hp0.kinds; have hb1 := hp0.persons
  have hF := hF.p (j := 33) (v := 0) (by decide)
  have hF := hF.p (j := 34) (v := 0) (by decide)
  have hF := hF.p (j := 35) (v := 0) (by decide)
  refine And.intro (Nat.le_of_ble_eq_true rfl) ?_
  show xw _ _ _ _ _ _ _ _ _ _ [xvr 0, xvi o, xvi 0, xvu] _ _
  have lp_17 : ∀ (m17 : Nat) (k : Int) (s1 : xS), ((6 - k).toNat) = m17 → (Fr [10, 11] [33, 34, 35] σ s1 ∧ (s1 0 33 = 0 ∧ s1 0 34 = 0) ∧ s1 0 35 = onx o (σ 2) k.toNat ∧ (0 ≤ k ∧ k ≤ σ 2 1)) → X 17 [xvr 0, xvi o, xvi k, xvu] s1 := by
    intro m17
    induction m17 using Nat.strongRecOn with
    | _ m17 ih_17 =>
    intro k s1 hm_17 hv_17
    obtain ⟨hF, hz, hsl, hv_17⟩ := hv_17
    have hs2 : s1 2 = σ 2 := hF.1 2 (by decide) (by decide)
    have hI : RK σ s1 := (RK.rf hp0).fr hF (by decide) (by decide) (by decide) (by decide) (by decide) (by decide) (by decide)
    have hp1s : s1 2 1 = σ 2 1 := by rw [hs2]
    have hon := onx_nn (o := o) hoth (n := k.toNat) (by omega)
    refine hX 400 17 _ _ ?_
    refine And.intro (rfl) (And.intro (⟨by omega, by omega⟩) ?_)
    intro v5 e5 l5 h5
    have e5 : v5 = s1 2 1 := e5
    refine And.intro (fun c6 => ?_) (fun c6 => ?_)
    · refine And.intro (Nat.le_of_ble_eq_true rfl) ?_
      show xw _ _ _ _ _ _ _ _ _ _ [xvr 0, xvi o, xvi 0, xvu] _ _
      have lp_63 : ∀ (m63 : Nat) (kd : Int) (u7_3 : xV) (s2 : xS), ((13 - kd).toNat) = m63 → (Fr [10, 11] [33, 34, 35] σ s2 ∧ (∀ j : Nat, (j : Int) < s2 0 33 → (0 ≤ s2 11 j ∧ s2 11 j < kd) ∧ 1 ≤ s2 10 (s2 11 j).toNat ∧ s2 10 (s2 11 j).toNat ≤ 4) ∧ s2 0 35 = onx o (σ 2) (σ 2 1).toNat ∧ (0 ≤ kd ∧ kd ≤ 13 ∧ 0 ≤ s2 0 33 ∧ s2 0 33 ≤ 6 ∧ 0 ≤ s2 0 34 ∧ s2 0 34 ≤ 4 * s2 0 33)) → X 63 [xvr 0, xvi o, xvi kd, u7_3] s2 := by
        intro m63
        induction m63 using Nat.strongRecOn with
        | _ m63 ih_63 =>
        intro kd u7_3 s2 hm_63 hv_63
        obtain ⟨hF, hA, h35, hv_63⟩ := hv_63
        have hs2 : s2 2 = σ 2 := hF.1 2 (by decide) (by decide)
        have hI : RK σ s2 := (RK.rf hp0).fr hF (by decide) (by decide) (by decide) (by decide) (by decide) (by decide) (by decide)
        have hp1s : s2 2 1 = σ 2 1 := by rw [hs2]
        refine hX 400 63 _ _ ?_
        refine And.intro (fun c8 => ?_) (fun c8 => ?_)
        · intro v9 e9 l9 h9
          have e9 : v9 = s2 0 35 := e9
          refine And.intro (fun c10 => ?_) (fun c10 => ?_)
          · refine And.intro rfl ?_
            refine And.intro (by omega) ?_
            exact hQ _ _ hF (Or.inr rfl)
          · refine And.intro rfl ?_
            refine And.intro (by omega) ?_
            exact hQ _ _ hF (Or.inl ⟨rfl, (by unfold LKx; rw [hs2]; exact ⟨by omega, (fun j hj => by have z := hA j hj; omega), by omega, by omega, by omega⟩)⟩)
        · intro z11 t11 e11 l11 h11
          try have w11 : t11 = 0 := by omega
          refine And.intro (rfl) (And.intro (⟨by omega, by omega⟩) ?_)
          intro v12 e12 l12 h12
          have e12 : v12 = s2 2 z11.toNat := e12
          have rrv12 := hI.1.playI (z := z11) (by omega) (by omega)
          rw [← e12] at rrv12
          intro z13 t13 e13 l13 h13
          try have w13 : t13 = 0 := by omega
          refine And.intro (rfl) (And.intro (⟨by omega, by omega⟩) ?_)
          intro v14 e14 l14 h14
          have e14 : v14 = s2 2 z13.toNat := e14
          have rrv14 := hI.1.bookI (z := z13) (by omega) (by omega)
          rw [← e14] at rrv14
          refine And.intro (fun c15 => ?_) (fun c15 => ?_)
          · intro z16 t16 e16 l16 h16
            try have w16 : t16 = 0 := by omega
            refine s_hand0 (σ := s2) (k := o) (kind := kd) hI.1 (by omega) (by omega) (fun r17 p17 => ?_)
            have rr17 := hI.1.handI (z := 60 + 13 * o + kd) (by omega) (by omega)
            have pp17 : r17 = s2 2 (60 + 13 * o + kd).toNat := p17.1
            rw [← pp17] at rr17
            intro z18 t18 e18 l18 h18
            try have w18 : t18 = 0 := by omega
            refine And.intro (rfl) (And.intro (⟨by omega, by omega⟩) ?_)
            have hF := hF.pt (t := 10) (j := kd.toNat) (v := z18) (by decide) (by decide)
            refine And.intro (Nat.le_of_ble_eq_true rfl) ?_
            show xw _ _ _ _ _ _ _ _ _ _ [xvr 0, xvi o, xvi kd, xvi 0] _ _
            have lp_114 : ∀ (m114 : Nat) (k3 : Int) (s3 : xS), ((6 - k3).toNat) = m114 → (Fr [10, 11] [33, 34, 35] σ s3 ∧ s3 0 33 = s2 0 33 ∧ s3 0 34 = s2 0 34 ∧ s3 0 35 = s2 0 35 ∧ s3 11 = s2 11 ∧ s3 2 = s2 2 ∧ (∀ q, q ≠ kd.toNat → s3 10 q = s2 10 q) ∧ (-8 - 4 * k3 ≤ s3 10 kd.toNat ∧ s3 10 kd.toNat ≤ 4) ∧ (0 ≤ k3 ∧ k3 ≤ 6)) → X 114 [xvr 0, xvi o, xvi kd, xvi k3] s3 := by
              intro m114
              induction m114 using Nat.strongRecOn with
              | _ m114 ih_114 =>
              intro k3 s3 hm_114 hv_114
              obtain ⟨hF, k33, k34, k35, k11, rfl2, hO, hl, hv_114⟩ := hv_114
              have hs2 : s3 2 = σ 2 := hF.1 2 (by decide) (by decide)
              have hI : RK σ s3 := (RK.rf hp0).fr hF (by decide) (by decide) (by decide) (by decide) (by decide) (by decide) (by decide)
              have hp1s : s3 2 1 = σ 2 1 := by rw [hs2]
              refine hX 400 114 _ _ ?_
              refine And.intro (rfl) (And.intro (⟨by omega, by omega⟩) ?_)
              intro v21 e21 l21 h21
              have e21 : v21 = s3 2 1 := e21
              refine And.intro (fun c22 => ?_) (fun c22 => ?_)
              · refine And.intro (rfl) (And.intro (⟨by omega, by omega⟩) ?_)
                intro v23 e23 l23 h23
                have e23 : v23 = s3 10 kd.toNat := e23
                have hlv23 : v23 = s3 10 kd.toNat := by rw [e23]
                refine And.intro (fun c24 => ?_) (fun c24 => ?_)
                · intro v25 e25 l25 h25
                  have e25 : v25 = s3 0 33 := e25
                  refine And.intro (fun c26 => ?_) (fun c26 => ?_)
                  · intro v27 e27 l27 h27
                    have e27 : v27 = s3 0 33 := e27
                    refine And.intro (rfl) (And.intro (⟨by omega, by omega⟩) ?_)
                    have hF := hF.pt (t := 11) (j := v27.toNat) (v := kd) (by decide) (by decide)
                    intro v29 e29 l29 h29
                    have e29 : v29 = s3 0 33 := e29
                    intro z30 t30 e30 l30 h30
                    try have w30 : t30 = 0 := by omega
                    have hF := hF.p (j := 33) (v := z30) (by decide)
                    intro v32 e32 l32 h32
                    have e32 : v32 = s3 0 34 := e32
                    refine And.intro (rfl) (And.intro (⟨by omega, by omega⟩) ?_)
                    intro v33 e33 l33 h33
                    have e33 : v33 = s3 10 kd.toNat := e33
                    have hlv33 : v33 = s3 10 kd.toNat := by rw [e33]
                    intro z34 t34 e34 l34 h34
                    try have w34 : t34 = 0 := by omega
                    have hF := hF.p (j := 34) (v := z34) (by decide)
                    refine hX 400 221 _ _ ?_
                    intro z36 t36 e36 l36 h36
                    try have w36 : t36 = 0 := by omega
                    show xw _ _ _ _ _ _ _ _ _ _ [xvr 0, xvi o, xvi z36, xvi k3] _ _
                    exact ih_63 _ (show (13 - z36).toNat < m63 from by omega) z36 (xvi k3) (xput (xput (xput s3 11 v27.toNat kd) 0 33 z30) 0 34 z34) rfl ⟨hF, (fun q hq => by
                                    have hq : (q : Int) < z30 := hq
                                    show (0 ≤ xput s3 11 v27.toNat kd 11 q ∧ xput s3 11 v27.toNat kd 11 q < z36) ∧ 1 ≤ s3 10 (xput s3 11 v27.toNat kd 11 q).toNat ∧ s3 10 (xput s3 11 v27.toNat kd 11 q).toNat ≤ 4
                                    by_cases e : q = v27.toNat
                                    · rw [e, xput_s]; omega
                                    · rw [xput_o e, k11]
                                      have z := hA q (by omega)
                                      rw [hO _ (by omega)]; omega), (show s3 0 35 = _ from by omega), (show 0 ≤ z36 ∧ z36 ≤ 13 ∧ 0 ≤ z30 ∧ z30 ≤ 6 ∧ 0 ≤ z34 ∧ z34 ≤ 4 * z30 from by omega)⟩
                  · refine And.intro rfl ?_
                    refine And.intro (by omega) ?_
                    exact hQ _ _ hF (Or.inr (by omega))
                · refine hX 400 221 _ _ ?_
                  intro z37 t37 e37 l37 h37
                  try have w37 : t37 = 0 := by omega
                  show xw _ _ _ _ _ _ _ _ _ _ [xvr 0, xvi o, xvi z37, xvi k3] _ _
                  exact ih_63 _ (show (13 - z37).toNat < m63 from by omega) z37 (xvi k3) s3 rfl ⟨hF, (fun q hq => by have z := hA q (by omega); rw [k11, hO _ (by omega)]; omega), by omega, by omega⟩
              · refine And.intro (rfl) (And.intro (⟨by omega, by omega⟩) ?_)
                intro v38 e38 l38 h38
                have e38 : v38 = s3 10 kd.toNat := e38
                have hlv38 : v38 = s3 10 kd.toNat := by rw [e38]
                refine And.intro (fun c39 => ?_) (fun c39 => ?_)
                · intro z40 t40 e40 l40 h40
                  try have w40 : t40 = 0 := by omega
                  intro z41 t41 e41 l41 h41
                  try have w41 : t41 = 0 := by omega
                  intro z42 t42 e42 l42 h42
                  try have w42 : t42 = 0 := by omega
                  refine And.intro (rfl) (And.intro (⟨by omega, by omega⟩) ?_)
                  intro v43 e43 l43 h43
                  have e43 : v43 = s3 2 z42.toNat := e43
                  have rrv43 := hI.1.knI (z := z42) (by omega) (by omega)
                  rw [← e43] at rrv43
                  intro z44 t44 e44 l44 h44
                  try have w44 : t44 = 0 := by omega
                  refine And.intro (rfl) (And.intro (⟨by omega, by omega⟩) ?_)
                  have hF := hF.pt (t := 10) (j := kd.toNat) (v := z44) (by decide) (by decide)
                  intro z46 t46 e46 l46 h46
                  try have w46 : t46 = 0 := by omega
                  show xw _ _ _ _ _ _ _ _ _ _ [xvr 0, xvi o, xvi kd, xvi z46] _ _
                  exact ih_114 _ (show (6 - z46).toNat < m114 from by omega) z46 (xput s3 10 kd.toNat z44) rfl ⟨hF, k33, k34, k35, k11, rfl2, (fun q hq => by rw [xput_o hq]; exact hO q hq), (by rw [show kd.toNat = kd.toNat from by omega, xput_s]; omega), by omega⟩
                · intro z47 t47 e47 l47 h47
                  try have w47 : t47 = 0 := by omega
                  refine And.intro (rfl) (And.intro (⟨by omega, by omega⟩) ?_)
                  have hF := hF.pt (t := 10) (j := kd.toNat) (v := z47) (by decide) (by decide)
                  intro z49 t49 e49 l49 h49
                  try have w49 : t49 = 0 := by omega
                  show xw _ _ _ _ _ _ _ _ _ _ [xvr 0, xvi o, xvi kd, xvi z49] _ _
                  exact ih_114 _ (show (6 - z49).toNat < m114 from by omega) z49 (xput s3 10 kd.toNat z47) rfl ⟨hF, k33, k34, k35, k11, rfl2, (fun q hq => by rw [xput_o hq]; exact hO q hq), (by rw [show kd.toNat = kd.toNat from by omega, xput_s]; omega), by omega⟩
            exact lp_114 _ 0 (xput s2 10 kd.toNat z18) rfl ⟨hF, rfl, rfl, rfl, rfl, rfl, (fun q hq => xput_o hq), (by rw [show kd.toNat = kd.toNat from by omega, xput_s]; omega), by omega⟩
          · intro z50 t50 e50 l50 h50
            try have w50 : t50 = 0 := by omega
            refine s_hand0 (σ := s2) (k := o) (kind := kd) hI.1 (by omega) (by omega) (fun r51 p51 => ?_)
            have rr51 := hI.1.handI (z := 60 + 13 * o + kd) (by omega) (by omega)
            have pp51 : r51 = s2 2 (60 + 13 * o + kd).toNat := p51.1
            rw [← pp51] at rr51
            intro z52 t52 e52 l52 h52
            try have w52 : t52 = 0 := by omega
            refine And.intro (rfl) (And.intro (⟨by omega, by omega⟩) ?_)
            have hF := hF.pt (t := 10) (j := kd.toNat) (v := z52) (by decide) (by decide)
            refine And.intro (Nat.le_of_ble_eq_true rfl) ?_
            show xw _ _ _ _ _ _ _ _ _ _ [xvr 0, xvi o, xvi kd, xvi 0] _ _
            have lp_114 : ∀ (m114 : Nat) (k3 : Int) (s3 : xS), ((6 - k3).toNat) = m114 → (Fr [10, 11] [33, 34, 35] σ s3 ∧ s3 0 33 = s2 0 33 ∧ s3 0 34 = s2 0 34 ∧ s3 0 35 = s2 0 35 ∧ s3 11 = s2 11 ∧ s3 2 = s2 2 ∧ (∀ q, q ≠ kd.toNat → s3 10 q = s2 10 q) ∧ (-8 - 4 * k3 ≤ s3 10 kd.toNat ∧ s3 10 kd.toNat ≤ 4) ∧ (0 ≤ k3 ∧ k3 ≤ 6)) → X 114 [xvr 0, xvi o, xvi kd, xvi k3] s3 := by
              intro m114
              induction m114 using Nat.strongRecOn with
              | _ m114 ih_114 =>
              intro k3 s3 hm_114 hv_114
              obtain ⟨hF, k33, k34, k35, k11, rfl2, hO, hl, hv_114⟩ := hv_114
              have hs2 : s3 2 = σ 2 := hF.1 2 (by decide) (by decide)
              have hI : RK σ s3 := (RK.rf hp0).fr hF (by decide) (by decide) (by decide) (by decide) (by decide) (by decide) (by decide)
              have hp1s : s3 2 1 = σ 2 1 := by rw [hs2]
              refine hX 400 114 _ _ ?_
              refine And.intro (rfl) (And.intro (⟨by omega, by omega⟩) ?_)
              intro v55 e55 l55 h55
              have e55 : v55 = s3 2 1 := e55
              refine And.intro (fun c56 => ?_) (fun c56 => ?_)
              · refine And.intro (rfl) (And.intro (⟨by omega, by omega⟩) ?_)
                intro v57 e57 l57 h57
                have e57 : v57 = s3 10 kd.toNat := e57
                have hlv57 : v57 = s3 10 kd.toNat := by rw [e57]
                refine And.intro (fun c58 => ?_) (fun c58 => ?_)
                · intro v59 e59 l59 h59
                  have e59 : v59 = s3 0 33 := e59
                  refine And.intro (fun c60 => ?_) (fun c60 => ?_)
                  · intro v61 e61 l61 h61
                    have e61 : v61 = s3 0 33 := e61
                    refine And.intro (rfl) (And.intro (⟨by omega, by omega⟩) ?_)
                    have hF := hF.pt (t := 11) (j := v61.toNat) (v := kd) (by decide) (by decide)
                    intro v63 e63 l63 h63
                    have e63 : v63 = s3 0 33 := e63
                    intro z64 t64 e64 l64 h64
                    try have w64 : t64 = 0 := by omega
                    have hF := hF.p (j := 33) (v := z64) (by decide)
                    intro v66 e66 l66 h66
                    have e66 : v66 = s3 0 34 := e66
                    refine And.intro (rfl) (And.intro (⟨by omega, by omega⟩) ?_)
                    intro v67 e67 l67 h67
                    have e67 : v67 = s3 10 kd.toNat := e67
                    have hlv67 : v67 = s3 10 kd.toNat := by rw [e67]
                    intro z68 t68 e68 l68 h68
                    try have w68 : t68 = 0 := by omega
                    have hF := hF.p (j := 34) (v := z68) (by decide)
                    refine hX 400 221 _ _ ?_
                    intro z70 t70 e70 l70 h70
                    try have w70 : t70 = 0 := by omega
                    show xw _ _ _ _ _ _ _ _ _ _ [xvr 0, xvi o, xvi z70, xvi k3] _ _
                    exact ih_63 _ (show (13 - z70).toNat < m63 from by omega) z70 (xvi k3) (xput (xput (xput s3 11 v61.toNat kd) 0 33 z64) 0 34 z68) rfl ⟨hF, (fun q hq => by
                                    have hq : (q : Int) < z64 := hq
                                    show (0 ≤ xput s3 11 v61.toNat kd 11 q ∧ xput s3 11 v61.toNat kd 11 q < z70) ∧ 1 ≤ s3 10 (xput s3 11 v61.toNat kd 11 q).toNat ∧ s3 10 (xput s3 11 v61.toNat kd 11 q).toNat ≤ 4
                                    by_cases e : q = v61.toNat
                                    · rw [e, xput_s]; omega
                                    · rw [xput_o e, k11]
                                      have z := hA q (by omega)
                                      rw [hO _ (by omega)]; omega), (show s3 0 35 = _ from by omega), (show 0 ≤ z70 ∧ z70 ≤ 13 ∧ 0 ≤ z64 ∧ z64 ≤ 6 ∧ 0 ≤ z68 ∧ z68 ≤ 4 * z64 from by omega)⟩
                  · refine And.intro rfl ?_
                    refine And.intro (by omega) ?_
                    exact hQ _ _ hF (Or.inr (by omega))
                · refine hX 400 221 _ _ ?_
                  intro z71 t71 e71 l71 h71
                  try have w71 : t71 = 0 := by omega
                  show xw _ _ _ _ _ _ _ _ _ _ [xvr 0, xvi o, xvi z71, xvi k3] _ _
                  exact ih_63 _ (show (13 - z71).toNat < m63 from by omega) z71 (xvi k3) s3 rfl ⟨hF, (fun q hq => by have z := hA q (by omega); rw [k11, hO _ (by omega)]; omega), by omega, by omega⟩
              · refine And.intro (rfl) (And.intro (⟨by omega, by omega⟩) ?_)
                intro v72 e72 l72 h72
                have e72 : v72 = s3 10 kd.toNat := e72
                have hlv72 : v72 = s3 10 kd.toNat := by rw [e72]
                refine And.intro (fun c73 => ?_) (fun c73 => ?_)
                · intro z74 t74 e74 l74 h74
                  try have w74 : t74 = 0 := by omega
                  intro z75 t75 e75 l75 h75
                  try have w75 : t75 = 0 := by omega
                  intro z76 t76 e76 l76 h76
                  try have w76 : t76 = 0 := by omega
                  refine And.intro (rfl) (And.intro (⟨by omega, by omega⟩) ?_)
                  intro v77 e77 l77 h77
                  have e77 : v77 = s3 2 z76.toNat := e77
                  have rrv77 := hI.1.knI (z := z76) (by omega) (by omega)
                  rw [← e77] at rrv77
                  intro z78 t78 e78 l78 h78
                  try have w78 : t78 = 0 := by omega
                  refine And.intro (rfl) (And.intro (⟨by omega, by omega⟩) ?_)
                  have hF := hF.pt (t := 10) (j := kd.toNat) (v := z78) (by decide) (by decide)
                  intro z80 t80 e80 l80 h80
                  try have w80 : t80 = 0 := by omega
                  show xw _ _ _ _ _ _ _ _ _ _ [xvr 0, xvi o, xvi kd, xvi z80] _ _
                  exact ih_114 _ (show (6 - z80).toNat < m114 from by omega) z80 (xput s3 10 kd.toNat z78) rfl ⟨hF, k33, k34, k35, k11, rfl2, (fun q hq => by rw [xput_o hq]; exact hO q hq), (by rw [show kd.toNat = kd.toNat from by omega, xput_s]; omega), by omega⟩
                · intro z81 t81 e81 l81 h81
                  try have w81 : t81 = 0 := by omega
                  refine And.intro (rfl) (And.intro (⟨by omega, by omega⟩) ?_)
                  have hF := hF.pt (t := 10) (j := kd.toNat) (v := z81) (by decide) (by decide)
                  intro z83 t83 e83 l83 h83
                  try have w83 : t83 = 0 := by omega
                  show xw _ _ _ _ _ _ _ _ _ _ [xvr 0, xvi o, xvi kd, xvi z83] _ _
                  exact ih_114 _ (show (6 - z83).toNat < m114 from by omega) z83 (xput s3 10 kd.toNat z81) rfl ⟨hF, k33, k34, k35, k11, rfl2, (fun q hq => by rw [xput_o hq]; exact hO q hq), (by rw [show kd.toNat = kd.toNat from by omega, xput_s]; omega), by omega⟩
            exact lp_114 _ 0 (xput s2 10 kd.toNat z52) rfl ⟨hF, rfl, rfl, rfl, rfl, rfl, (fun q hq => xput_o hq), (by rw [show kd.toNat = kd.toNat from by omega, xput_s]; omega), by omega⟩
      exact lp_63 _ 0 (xvu) s1 rfl ⟨hF, (fun q hq => by omega), (by rw [hsl, show k.toNat = (σ 2 1).toNat from by omega]), by omega⟩
    · intro v84 e84 l84 h84
      have e84 : v84 = s1 0 35 := e84
      refine And.intro (fun c85 => ?_) (fun c85 => ?_)
      · intro z86 t86 e86 l86 h86
        try have w86 : t86 = 0 := by omega
        refine And.intro (rfl) (And.intro (⟨by omega, by omega⟩) ?_)
        intro v87 e87 l87 h87
        have e87 : v87 = s1 2 z86.toNat := e87
        have hov87 := hI.1.othI (z := z86) (by omega) (by omega)
        have hwv87 : v87 = σ 2 (229 + k.toNat) := by rw [e87, hs2, show z86.toNat = 229 + k.toNat from by omega]
        rw [← e87] at hov87
        intro z88 t88 e88 l88 h88
        try have w88 : t88 = 0 := by omega
        have hF := hF.p (j := 35) (v := z88) (by decide)
        intro z90 t90 e90 l90 h90
        try have w90 : t90 = 0 := by omega
        show xw _ _ _ _ _ _ _ _ _ _ [xvr 0, xvi o, xvi z90, xvu] _ _
        exact ih_17 _ (show (6 - z90).toNat < m17 from by omega) z90 (xput s1 0 35 z88) rfl ⟨hF, hz, (show z88 = onx o (σ 2) z90.toNat from by rw [show z90.toNat = k.toNat + 1 from by omega, onx_s]; first | (rw [if_pos (by omega)]; omega) | (rw [if_neg (by omega)]; omega)), by omega⟩
      · intro z91 t91 e91 l91 h91
        try have w91 : t91 = 0 := by omega
        have hF := hF.p (j := 35) (v := z91) (by decide)
        intro z93 t93 e93 l93 h93
        try have w93 : t93 = 0 := by omega
        show xw _ _ _ _ _ _ _ _ _ _ [xvr 0, xvi o, xvi z93, xvu] _ _
        exact ih_17 _ (show (6 - z93).toNat < m17 from by omega) z93 (xput s1 0 35 z91) rfl ⟨hF, hz, (show z91 = onx o (σ 2) z93.toNat from by rw [show z93.toNat = k.toNat + 1 from by omega, onx_s]; first | (rw [if_pos (by omega)]; omega) | (rw [if_neg (by omega)]; omega)), by omega⟩
  exact lp_17 _ 0 (xput (xput (xput σ 0 33 0) 0 34 0) 0 35 0) rfl ⟨hF, ⟨rfl, rfl⟩, rfl, by omega⟩
