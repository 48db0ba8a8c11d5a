set_option maxHeartbeats 4000000 in
set_option maxRecDepth 100000 in
theorem s_beginsF {σ : xS} {Q : Option xV → xS → Prop} (hp0 : VS 0 (σ 2)) (hQ : ∀ σ' : xS, Fr [2] [] σ σ' → (σ' 2 = begF (σ 2)) → Q none σ') : xT kX11_begins [xvr 0] σ Q := by
  refine ⟨Nat.le_of_ble_eq_true rfl, fun X hX => ?_⟩
  show X 0 [xvr 0, xvu, xvu, xvu] σ
  have hF : Fr [2] [] σ σ := Fr.rf
  refine hX 400 0 _ _ ?_
  have m0 := hp0.1.1; have m1 := hp0.1.2.1
  obtain ⟨hAv, hAm, hAo⟩ := adP_v hp0 (σ 2 1).toNat (by omega)
  rw [show (((σ 2 1).toNat : Nat) : Int) = σ 2 1 from by omega] at hAv
  refine And.intro (Nat.le_of_ble_eq_true rfl) ?_
  show xw _ _ _ _ _ _ _ _ _ _ [xvr 0, xvi 0, xvu, xvu] _ _
  have lp_2 : ∀ (m2 : Nat) (k : Int) (u1_2 : xV) (u1_3 : xV) (s1 : xS), ((6 - k).toNat) = m2 → (Fr [2] [] σ s1 ∧ s1 2 = (adP (σ 2) k.toNat) ∧ (0 ≤ k ∧ k ≤ σ 2 1)) → X 2 [xvr 0, xvi k, u1_2, u1_3] s1 := by
    intro m2
    induction m2 using Nat.strongRecOn with
    | _ m2 ih_2 =>
    intro k u1_2 u1_3 s1 hm_2 hv_2
    obtain ⟨hF, hE, hv_2⟩ := hv_2
    have m0 := hp0.1.1; have m1 := hp0.1.2.1
    obtain ⟨hVk, hMk, hVo⟩ := adP_v hp0 k.toNat (by omega)
    rw [show ((k.toNat : Nat) : Int) = k from by omega] at hVk
    have hs1 : s1 2 1 = σ 2 1 := by rw [hE]; exact hVo 1 (by omega)
    have hs0 : s1 2 0 = σ 2 0 := by rw [hE]; exact hVo 0 (by omega)
    refine hX 400 2 _ _ ?_
    refine And.intro (rfl) (And.intro (⟨by omega, by omega⟩) ?_)
    intro v2 e2 l2 h2
    have e2 : v2 = s1 2 1 := e2
    refine And.intro (fun c3 => ?_) (fun c3 => ?_)
    · refine And.intro (Nat.le_of_ble_eq_true rfl) ?_
      show xw _ _ _ _ _ _ _ _ _ _ [xvr 0, xvi 0, u1_2, u1_3] _ _
      have lp_45 : ∀ (m45 : Nat) (k2 : Int) (u4_2 : xV) (u4_3 : xV) (s3 : xS), ((6 - k2).toNat) = m45 → (Fr [2] [] σ s3 ∧ s3 2 = (bkP (adP (σ 2) (σ 2 1).toNat) (σ 2 0).toNat k2.toNat) ∧ (0 ≤ k2 ∧ k2 ≤ σ 2 1)) → X 45 [xvr 0, xvi k2, u4_2, u4_3] s3 := by
        intro m45
        induction m45 using Nat.strongRecOn with
        | _ m45 ih_45 =>
        intro k2 u4_2 u4_3 s3 hm_45 hv_45
        obtain ⟨hF, hE3, hv_45⟩ := hv_45
        have hVA : VX (adP (σ 2) (σ 2 1).toNat) := ⟨hAv.v0 (hAo 1 (by omega)).symm, hAm⟩
        obtain ⟨hV3, hB3⟩ := bkP_v (m := (σ 2 0).toNat) (by omega) k2.toNat hVA (by omega)
        have hs31 : s3 2 1 = σ 2 1 := by rw [hE3, hB3 1 (by omega)]; exact hAo 1 (by omega)
        have hs30 : s3 2 0 = σ 2 0 := by rw [hE3, hB3 0 (by omega)]; exact hAo 0 (by omega)
        refine hX 400 45 _ _ ?_
        refine And.intro (rfl) (And.intro (⟨by omega, by omega⟩) ?_)
        intro v5 e5 l5 h5
        have e5 : v5 = s3 2 1 := e5
        refine And.intro (fun c6 => ?_) (fun c6 => ?_)
        · have hk2 : k2.toNat = (σ 2 1).toNat := by omega
          rw [hk2] at hE3 hV3 hB3
          refine s_settlesF (σ := s3) (fr := 0) (by rw [hE3]; exact hV3) (by omega) (fun h => h) (fun σ7 f7 p7 => ?_)
          have hF := hF.tr f7 (by decide) (by decide)
          refine And.intro rfl (And.intro rfl ?_)
          exact hQ _ hF (by rw [p7, hE3]; rfl)
        · refine And.intro (Nat.le_of_ble_eq_true rfl) ?_
          show xw _ _ _ _ _ _ _ _ _ _ [xvr 0, xvi k2, xvi 0, u4_3] _ _
          have lp_57 : ∀ (m57 : Nat) (kd : Int) (u8_3 : xV) (s4 : xS), ((13 - kd).toNat) = m57 → (Fr [2] [] σ s4 ∧ s4 2 = bkK (bkP (adP (σ 2) (σ 2 1).toNat) (σ 2 0).toNat k2.toNat) k2.toNat kd.toNat ∧ (0 ≤ kd ∧ kd ≤ σ 2 0)) → X 57 [xvr 0, xvi k2, xvi kd, u8_3] s4 := by
            intro m57
            induction m57 using Nat.strongRecOn with
            | _ m57 ih_57 =>
            intro kd u8_3 s4 hm_57 hv_57
            obtain ⟨hF, hE4, hv_57⟩ := hv_57
            obtain ⟨hV4, hB4⟩ := bkK_v (p := k2.toNat) (by omega) kd.toNat hV3 (by omega)
            have hs40 : s4 2 0 = σ 2 0 := by rw [hE4, hB4 0 (by omega), ← hE3]; exact hs30
            refine hX 400 57 _ _ ?_
            refine And.intro (rfl) (And.intro (⟨by omega, by omega⟩) ?_)
            intro v9 e9 l9 h9
            have e9 : v9 = s4 2 0 := e9
            refine And.intro (fun c10 => ?_) (fun c10 => ?_)
            · intro z11 t11 e11 l11 h11
              try have w11 : t11 = 0 := by omega
              show xw _ _ _ _ _ _ _ _ _ _ [xvr 0, xvi z11, xvi kd, u8_3] _ _
              exact ih_45 _ (show (6 - z11).toNat < m45 from by omega) z11 (xvi kd) (u8_3) s4 rfl ⟨hF, (by rw [hE4, show z11.toNat = k2.toNat + 1 from by omega, show kd.toNat = (σ 2 0).toNat from by omega]; rfl), by omega⟩
            · refine s_booksF (σ := s4) (k := k2) (kind := kd) (by omega) (by omega) (by rw [hE4]; exact hV4) (fun r12 σ12 f12 p12 => ?_)
              have hF := hF.tr f12 (by decide) (by decide)
              intro z13 t13 e13 l13 h13
              try have w13 : t13 = 0 := by omega
              show xw _ _ _ _ _ _ _ _ _ _ [xvr 0, xvi k2, xvi z13, u8_3] _ _
              exact ih_57 _ (show (13 - z13).toNat < m57 from by omega) z13 (u8_3) σ12 rfl ⟨hF, (by rw [p12.1, hE4, show z13.toNat = kd.toNat + 1 from by omega]; rfl), by omega⟩
          exact lp_57 _ 0 (u4_3) s3 rfl ⟨hF, hE3, by omega⟩
      exact lp_45 _ 0 (u1_2) (u1_3) s1 rfl ⟨hF, (by rw [hE, show k.toNat = (σ 2 1).toNat from by omega]; rfl), by omega⟩
    · refine s_cardsW (σ := s1) (k := k) (j := k) (by rw [hE]; exact hVk) (by omega) (fun r14 p14 => ?_)
      have p14 : r14 = cd (σ 2) k.toNat ∧ 0 ≤ r14 ∧ r14 ≤ 52 := ⟨p14.1.trans (by rw [hE]; exact sm_congr (fun i hi => hVo _ (by omega))), p14.2⟩
      refine And.intro (Nat.le_of_ble_eq_true rfl) ?_
      show xw _ _ _ _ _ _ _ _ _ _ [xvr 0, xvi k, xvi r14, u1_3] _ _
      refine And.intro (Nat.le_of_ble_eq_true rfl) ?_
      show xw _ _ _ _ _ _ _ _ _ _ [xvr 0, xvi k, xvi r14, xvi 0] _ _
      have lp_20 : ∀ (m20 : Nat) (i : Int) (s2 : xS), ((52 - i).toNat) = m20 → (Fr [2] [] σ s2 ∧ s2 2 = adN (adP (σ 2) k.toNat) k.toNat i.toNat ∧ (0 ≤ i ∧ i ≤ r14)) → X 20 [xvr 0, xvi k, xvi r14, xvi i] s2 := by
        intro m20
        induction m20 using Nat.strongRecOn with
        | _ m20 ih_20 =>
        intro i s2 hm_20 hv_20
        obtain ⟨hF, hE2, hv_20⟩ := hv_20
        have hz : (adP (σ 2) k.toNat) (229 + k.toNat) = 0 := by
          have z := hVk.2.2.2.2.2.2 k.toNat (by omega)
          rw [if_neg (by omega)] at z; exact z
        have hN2 : adN (adP (σ 2) k.toNat) k.toNat i.toNat (229 + k.toNat) = i := by
          have z := (adN_o (f := (adP (σ 2) k.toNat)) (i := 0) (Or.inl (by decide)) (show k.toNat < 6 by omega) i.toNat (by omega) (by omega)).2
          omega
        refine hX 400 20 _ _ ?_
        refine And.intro (fun c16 => ?_) (fun c16 => ?_)
        · intro z17 t17 e17 l17 h17
          try have w17 : t17 = 0 := by omega
          show xw _ _ _ _ _ _ _ _ _ _ [xvr 0, xvi z17, xvi r14, xvi i] _ _
          exact ih_2 _ (show (6 - z17).toNat < m2 from by omega) z17 (xvi r14) (xvi i) s2 rfl ⟨hF, (by rw [hE2, show z17.toNat = k.toNat + 1 from by omega, show i.toNat = (cd (σ 2) k.toNat).toNat from by omega]; rfl), by omega⟩
        · refine s_addsF (σ := s2) (k := k) (mask := 0) (by omega) (by rw [hE2, hN2]; omega) (fun σ18 f18 p18 => ?_)
          have hF := hF.tr f18 (by decide) (by decide)
          intro z19 t19 e19 l19 h19
          try have w19 : t19 = 0 := by omega
          show xw _ _ _ _ _ _ _ _ _ _ [xvr 0, xvi k, xvi r14, xvi z19] _ _
          exact ih_20 _ (show (52 - z19).toNat < m20 from by omega) z19 σ18 rfl ⟨hF, (by rw [p18, hE2, show z19.toNat = i.toNat + 1 from by omega]; rfl), by omega⟩
      exact lp_20 _ 0 s1 rfl ⟨hF, hE, by omega⟩
  exact lp_2 _ 0 (xvu) (xvu) σ rfl ⟨hF, rfl, by have := hp0.1.2.1; omega⟩
set_option maxHeartbeats 4000000 in
set_option maxRecDepth 100000 in
theorem sX3_clearF {σ : xS} {Q : Option xV → xS → Prop} (hQ : ∀ σ' : xS, Fr [9, 10, 12] [] σ σ' → (σ' 9 2 = 0 ∧ (∀ i : Nat, i < 78 → σ' 10 i = 0) ∧ ∀ i : Nat, i < 6 → σ' 12 i = 0) → Q none σ') : xT kX3_clear [xvr 9] σ Q := by
  refine ⟨Nat.le_of_ble_eq_true rfl, fun X hX => ?_⟩
  show X 0 [xvr 9] σ
  have hF : Fr [9, 10, 12] [] σ σ := Fr.rf
  refine hX 400 0 _ _ ?_
  refine And.intro (by decide) ?_
  generalize hfl1 : xfl σ 10 78 0 = σ1
  have f1 : Fr [10] [] σ σ1 := hfl1 ▸ Fr.fl (by decide)
  have v1 : ∀ j : Nat, j < 78 → σ1 10 j = 0 := fun j hj => by rw [← hfl1]; exact xfl_in hj
  have hF := hF.tr f1 (by decide) (by decide)
  have c10 := v1
  refine And.intro (by decide) ?_
  generalize hfl2 : xfl σ1 12 6 0 = σ2
  have f2 : Fr [12] [] σ1 σ2 := hfl2 ▸ Fr.fl (by decide)
  have v2 : ∀ j : Nat, j < 6 → σ2 12 j = 0 := fun j hj => by rw [← hfl2]; exact xfl_in hj
  have hF := hF.tr f2 (by decide) (by decide)
  have hF := hF.pt (t := 9) (j := 2) (v := 0) (by decide) (by decide)
  refine And.intro rfl (And.intro rfl ?_)
  exact hQ _ hF ⟨rfl, (fun i hi => (show σ2 10 i = 0 from by rw [f2.1 10 (by decide) (by decide)]; exact c10 i hi)), fun i hi => (show σ2 12 i = 0 from v2 i hi)⟩
theorem hh_add {σ : xS} {f : Nat → Int} {p : Int} {Q : Option xV → xS → Prop} (hp0 : 0 ≤ p ∧ p ≤ 5) (hp1 : σ 9 2 ≤ 51) (hg : GR σ f) (hQ : ∀ σ' : xS, Fr [9, 11] [] σ σ' → (GR σ' (addsF f p.toNat 0) ∧ σ' 9 2 = σ 9 2 + 1) → Q none σ') : xT kX3_addOther [xvr 9, xvi p] σ Q := sX3_addOtherG hp0 hp1 hg hQ
