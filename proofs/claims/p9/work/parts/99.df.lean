theorem xshr2 {x : Int} (h0 : 0 ≤ x) (h1 : x ≤ 2147483647) : 0 ≤ (Int32.ofInt x >>> (Int32.ofInt 2 &&& 31)).toInt := by
  have e : (Int32.ofInt x).toInt = x := Int32.toInt_ofInt_of_le (by omega) (by omega)
  rw [show (Int32.ofInt 2 &&& 31) = 2 from by decide]
  show 0 ≤ ((Int32.ofInt x).toBitVec.sshiftRight' _).toInt
  rw [BitVec.toInt_sshiftRight']
  have e' : (Int32.ofInt x).toBitVec.toInt = x := e
  rw [e', Int.shiftRight_eq_div_pow]
  exact Int.ediv_nonneg h0 (by exact_mod_cast Nat.zero_le _)
set_option maxHeartbeats 4000000 in
set_option maxRecDepth 100000 in
theorem sX0_unpack {σ : xS} {state : Int} {Q : Option xV → xS → Prop} (hp0 : 0 ≤ state ∧ state ≤ 2499) (hp1 : 0 ≤ σ 0 3 ∧ σ 0 3 ≤ 4) (hQ : ∀ σ' : xS, Fr [4] [8, 9, 10] σ σ' → (0 ≤ σ' 0 8 ∧ σ' 0 8 ≤ 4) → Q none σ') : xT kX0_unpack [xvr 0, xvi state] σ Q := by
  refine ⟨Nat.le_of_ble_eq_true rfl, fun X hX => ?_⟩
  show X 0 [xvr 0, xvi state, xvu, xvu, xvu] σ
  have hF : Fr [4] [8, 9, 10] σ σ := Fr.rf
  refine hX 400 0 _ _ ?_
  intro z1 e1 l1 h1
  have q1 := x1b state; rw [← e1] at q1
  have hF := hF.p (j := 10) (v := z1) (by decide)
  intro z3 e3 l3 h3
  intro z4 e4 l4 h4
  have q4 := x1b z3; rw [← e4] at q4
  have hF := hF.p (j := 9) (v := z4) (by decide)
  intro z6 e6 l6 h6
  have hsh := xshr2 (x := state) (by omega) (by omega)
  refine And.intro (Nat.le_of_ble_eq_true rfl) ?_
  show xw _ _ _ _ _ _ _ _ _ _ [xvr 0, xvi state, xvi z6, xvu, xvu] _ _
  refine And.intro (by omega) ?_
  intro z7 e7 f7 l7 h7
  replace f7 := f7 (by omega) (by omega)
  have hF := hF.p (j := 8) (v := z7) (by decide)
  refine And.intro (by omega) ?_
  intro z9 e9 f9 l9 h9
  replace f9 := f9 (by omega) (by omega)
  refine And.intro (Nat.le_of_ble_eq_true rfl) ?_
  show xw _ _ _ _ _ _ _ _ _ _ [xvr 0, xvi state, xvi z9, xvu, xvu] _ _
  refine And.intro (Nat.le_of_ble_eq_true rfl) ?_
  show xw _ _ _ _ _ _ _ _ _ _ [xvr 0, xvi state, xvi z9, xvi 2, xvu] _ _
  have lp_33 : ∀ (m33 : Nat) (rest : Int) (k : Int) (u10_4 : xV) (s1 : xS), ((k + 1).toNat) = m33 → (Fr [4] [8, 9, 10] σ s1 ∧ (0 ≤ s1 0 8 ∧ s1 0 8 ≤ 4) ∧ (-1 ≤ k ∧ k ≤ 2 ∧ 0 ≤ rest)) → X 33 [xvr 0, xvi state, xvi rest, xvi k, u10_4] s1 := by
    intro m33
    induction m33 using Nat.strongRecOn with
    | _ m33 ih_33 =>
    intro rest k u10_4 s1 hm_33 hv_33
    obtain ⟨hF, h18, hv_33⟩ := hv_33
    have h13 : s1 0 3 = σ 0 3 := hF.2 3 (by decide)
    refine hX 400 33 _ _ ?_
    refine And.intro (fun c11 => ?_) (fun c11 => ?_)
    · refine And.intro rfl (And.intro rfl ?_)
      exact hQ _ hF (show 0 ≤ s1 0 8 ∧ s1 0 8 ≤ 4 from by omega)
    · refine And.intro (by omega) ?_
      intro z12 e12 f12 l12 h12
      replace f12 := f12 (by omega) (by omega)
      refine And.intro (Nat.le_of_ble_eq_true rfl) ?_
      show xw _ _ _ _ _ _ _ _ _ _ [xvr 0, xvi state, xvi rest, xvi k, xvi z12] _ _
      refine And.intro (by omega) ?_
      intro z13 e13 f13 l13 h13
      replace f13 := f13 (by omega) (by omega)
      refine And.intro (Nat.le_of_ble_eq_true rfl) ?_
      show xw _ _ _ _ _ _ _ _ _ _ [xvr 0, xvi state, xvi z13, xvi k, xvi z12] _ _
      refine And.intro (fun c14 => ?_) (fun c14 => ?_)
      · refine And.intro (rfl) (And.intro (⟨by omega, by omega⟩) ?_)
        have hF := hF.pt (t := 4) (j := k.toNat) (v := z12) (by decide) (by decide)
        intro z16 t16 e16 l16 h16
        try have w16 : t16 = 0 := by omega
        refine And.intro (fun c17 => ?_) (fun c17 => ?_)
        · refine And.intro (rfl) (And.intro (⟨by omega, by omega⟩) ?_)
          intro v18 e18 l18 h18
          have e18 : v18 = s1 2 k.toNat := e18
          refine sX0_leftInHeap (σ := (xput s1 4 k.toNat z12)) (kind := k) (show 0 ≤ (s1 0 8) from by omega) (show 0 ≤ (s1 0 3) ∧ (s1 0 3) ≤ 4 from by omega) (fun r19 => ?_)
          intro z20 t20 e20 l20 h20
          try have w20 : t20 = 0 := by omega
          intro z21 t21 e21 l21 h21
          try have w21 : t21 = 0 := by omega
          refine And.intro (rfl) (And.intro (⟨by omega, by omega⟩) ?_)
          have hF := hF.pt (t := 4) (j := z16.toNat) (v := z21) (by decide) (by decide)
          intro z23 t23 e23 l23 h23
          try have w23 : t23 = 0 := by omega
          show xw _ _ _ _ _ _ _ _ _ _ [xvr 0, xvi state, xvi z13, xvi z23, xvi z12] _ _
          exact ih_33 _ (show (z23 + 1).toNat < m33 from by omega) z13 z23 (xvi z12) (xput (xput s1 4 k.toNat z12) 4 z16.toNat z21) rfl ⟨hF, (show 0 ≤ s1 0 8 ∧ s1 0 8 ≤ 4 from by omega), by omega⟩
        · refine And.intro (rfl) (And.intro (⟨by omega, by omega⟩) ?_)
          have hF := hF.pt (t := 4) (j := z16.toNat) (v := 0) (by decide) (by decide)
          intro z25 t25 e25 l25 h25
          try have w25 : t25 = 0 := by omega
          show xw _ _ _ _ _ _ _ _ _ _ [xvr 0, xvi state, xvi z13, xvi z25, xvi z12] _ _
          exact ih_33 _ (show (z25 + 1).toNat < m33 from by omega) z13 z25 (xvi z12) (xput (xput s1 4 k.toNat z12) 4 z16.toNat 0) rfl ⟨hF, (show 0 ≤ s1 0 8 ∧ s1 0 8 ≤ 4 from by omega), by omega⟩
      · refine And.intro (rfl) (And.intro (⟨by omega, by omega⟩) ?_)
        have hF := hF.pt (t := 4) (j := k.toNat) (v := 0) (by decide) (by decide)
        intro z27 t27 e27 l27 h27
        try have w27 : t27 = 0 := by omega
        refine And.intro (fun c28 => ?_) (fun c28 => ?_)
        · refine And.intro (rfl) (And.intro (⟨by omega, by omega⟩) ?_)
          intro v29 e29 l29 h29
          have e29 : v29 = s1 2 k.toNat := e29
          refine sX0_leftInHeap (σ := (xput s1 4 k.toNat 0)) (kind := k) (show 0 ≤ (s1 0 8) from by omega) (show 0 ≤ (s1 0 3) ∧ (s1 0 3) ≤ 4 from by omega) (fun r30 => ?_)
          intro z31 t31 e31 l31 h31
          try have w31 : t31 = 0 := by omega
          intro z32 t32 e32 l32 h32
          try have w32 : t32 = 0 := by omega
          refine And.intro (rfl) (And.intro (⟨by omega, by omega⟩) ?_)
          have hF := hF.pt (t := 4) (j := z27.toNat) (v := z32) (by decide) (by decide)
          intro z34 t34 e34 l34 h34
          try have w34 : t34 = 0 := by omega
          show xw _ _ _ _ _ _ _ _ _ _ [xvr 0, xvi state, xvi z13, xvi z34, xvi z12] _ _
          exact ih_33 _ (show (z34 + 1).toNat < m33 from by omega) z13 z34 (xvi z12) (xput (xput s1 4 k.toNat 0) 4 z27.toNat z32) rfl ⟨hF, (show 0 ≤ s1 0 8 ∧ s1 0 8 ≤ 4 from by omega), by omega⟩
        · refine And.intro (rfl) (And.intro (⟨by omega, by omega⟩) ?_)
          have hF := hF.pt (t := 4) (j := z27.toNat) (v := 0) (by decide) (by decide)
          intro z36 t36 e36 l36 h36
          try have w36 : t36 = 0 := by omega
          show xw _ _ _ _ _ _ _ _ _ _ [xvr 0, xvi state, xvi z13, xvi z36, xvi z12] _ _
          exact ih_33 _ (show (z36 + 1).toNat < m33 from by omega) z13 z36 (xvi z12) (xput (xput s1 4 k.toNat 0) 4 z27.toNat 0) rfl ⟨hF, (show 0 ≤ s1 0 8 ∧ s1 0 8 ≤ 4 from by omega), by omega⟩
  exact lp_33 _ z9 2 (xvu) (xput (xput (xput σ 0 10 z1) 0 9 z4) 0 8 z7) rfl ⟨hF, (show 0 ≤ z7 ∧ z7 ≤ 4 from by omega), by omega⟩
