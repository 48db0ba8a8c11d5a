set_option maxHeartbeats 4000000 in
set_option maxRecDepth 100000 in
theorem s_asksF {σ : xS} {a b kind lies told : Int} {Q : Option xV → xS → Prop} (hp0 : VX (σ 2)) (hp1 : 0 ≤ a ∧ a ≤ 5 ∧ a < σ 2 1) (hp2 : 0 ≤ b ∧ b ≤ 5) (hp3 : ¬ a = b) (hp4 : 0 ≤ kind ∧ kind ≤ 12) (hp5 : 0 ≤ σ 2 6 ∧ σ 2 6 < σ 2 1) (hp6 : 1 ≤ σ 2 (60 + 13 * a.toNat + kind.toNat)) (hp7 : lies = 0 ∨ lies = 1) (hQ : ∀ r : Int, ∀ σ' : xS, Fr [2, 7] [24] σ σ' → (σ' 2 = (askF (σ 2) a.toNat b.toNat kind.toNat lies) ∧ r = askR (σ 2) a.toNat b.toNat kind.toNat lies 3 ∧ ((told = 0 ∧ σ' 7 = σ 7 ∧ σ' 0 24 = σ 0 24) ∨ (¬ told = 0 ∧ σ' 0 24 = 1 ∧ ∀ i : Nat, i < 8 → σ' 7 i = askR (σ 2) a.toNat b.toNat kind.toNat lies i))) → Q (some (xvi r)) σ') : xT kX11_asks [xvr 0, xvi a, xvi b, xvi kind, xvi lies, xvi told] σ Q := by
  refine ⟨Nat.le_of_ble_eq_true rfl, fun X hX => ?_⟩
  show X 0 [xvr 0, xvi a, xvi b, xvi kind, xvi lies, xvi told, xvu, xvu, xvu, xvu, xvu, xvu, xvu, xvu] σ
  have hF : Fr [2, 7] [24] σ σ := Fr.rf
  refine hX 400 0 _ _ ?_
  have hF : Fr [2] [] σ σ := Fr.rf
  have m1 := hp0.1.1.2.1
  obtain ⟨hka0, h4a0⟩ := kn_r hp0.1 (p := a.toNat) (k := kind.toNat) (by omega) (by omega)
  obtain ⟨hkb0, h4b0⟩ := kn_r hp0.1 (p := b.toNat) (k := kind.toNat) (by omega) (by omega)
  refine s_sureOfF (σ := σ) (b := b) (kind := kind) (by omega) hp4 hp0 (fun r1 p1 => ?_)
  have p1 : r1 = sureF (σ 2) b.toNat kind.toNat := p1
  refine And.intro (Nat.le_of_ble_eq_true rfl) ?_
  show xw _ _ _ _ _ _ _ _ _ _ [xvr 0, xvi a, xvi b, xvi kind, xvi lies, xvi told, xvi r1, xvu, xvu, xvu, xvu, xvu, xvu, xvu] _ _
  refine s_hand0v (σ := σ) (k := b) (kind := kind) hp0.1 (by omega) hp4 (fun r2 p2 => ?_)
  rw [show (60 + 13 * b + kind).toNat = (60 + 13 * b.toNat + kind.toNat) from by omega] at p2
  refine And.intro (Nat.le_of_ble_eq_true rfl) ?_
  show xw _ _ _ _ _ _ _ _ _ _ [xvr 0, xvi a, xvi b, xvi kind, xvi lies, xvi told, xvi r1, xvi r2, xvu, xvu, xvu, xvu, xvu, xvu] _ _
  have lp_32 : ∀ (_ : Unit), (¬ (0 < σ 2 (60 + 13 * b.toNat + kind.toNat) ∧ lies = 1)) → X 32 [xvr 0, xvi a, xvi b, xvi kind, xvi lies, xvi told, xvi r1, xvi r2, xvu, xvu, xvu, xvu, xvu, xvu] σ := by
    intro _ hv_32
    refine hX 400 32 _ _ ?_
    refine And.intro (Nat.le_of_ble_eq_true rfl) ?_
    show xw _ _ _ _ _ _ _ _ _ _ [xvr 0, xvi a, xvi b, xvi kind, xvi lies, xvi told, xvi r1, xvi r2, xvi 0, xvu, xvu, xvu, xvu, xvu] _ _
    refine And.intro (fun _ => ?_) (fun c4 => absurd c4 (by decide))
    refine And.intro (Nat.le_of_ble_eq_true rfl) ?_
    show xw _ _ _ _ _ _ _ _ _ _ [xvr 0, xvi a, xvi b, xvi kind, xvi lies, xvi told, xvi r1, xvi r2, xvi 0, xvi r2, xvu, xvu, xvu, xvu] _ _
    refine And.intro (Nat.le_of_ble_eq_true rfl) ?_
    show xw _ _ _ _ _ _ _ _ _ _ [xvr 0, xvi a, xvi b, xvi kind, xvi lies, xvi told, xvi r1, xvi r2, xvi 0, xvi r2, xvi (-1), xvu, xvu, xvu] _ _
    refine And.intro (Nat.le_of_ble_eq_true rfl) ?_
    show xw _ _ _ _ _ _ _ _ _ _ [xvr 0, xvi a, xvi b, xvi kind, xvi lies, xvi told, xvi r1, xvi r2, xvi 0, xvi r2, xvi (-1), xvi (-1), xvu, xvu] _ _
    intro z5 t5 e5 l5 h5
    try have w5 : t5 = 0 := by omega
    refine And.intro (rfl) (And.intro (⟨by omega, by omega⟩) ?_)
    intro v6 e6 l6 h6
    have e6 : v6 = σ 2 1 := e6
    -- rem
    refine And.intro (by omega) ?_
    intro z7 e7 f7 l7 h7
    replace f7 := f7 (by omega) (by omega)
    have g7 := Int.emod_nonneg z5 (b := v6) (by omega); have k7 := Int.emod_lt_of_pos z5 (b := v6) (by omega); rw [← f7] at g7 k7
    refine And.intro (Nat.le_of_ble_eq_true rfl) ?_
    show xw _ _ _ _ _ _ _ _ _ _ [xvr 0, xvi a, xvi b, xvi kind, xvi lies, xvi told, xvi r1, xvi r2, xvi 0, xvi r2, xvi (-1), xvi (-1), xvi z7, xvu] _ _
    have hfa : z7 = aft (σ 2 1) a := by
      have z := aft_mod (n := σ 2 1) (x := a) (by omega) (by omega)
      rw [Int.emod_eq_of_lt (by omega) (by omega)] at z
      rw [z, f7, show z5 = a + 1 from by omega, show v6 = σ 2 1 from by omega]
    refine And.intro (rfl) (And.intro (⟨by omega, by omega⟩) ?_)
    intro v8 e8 l8 h8
    have e8 : v8 = σ 2 5 := e8
    intro z9 t9 e9 l9 h9
    try have w9 : t9 = 0 := by omega
    refine And.intro (rfl) (And.intro (⟨by omega, by omega⟩) ?_)
    have hF := hF.pt (t := 2) (j := 5) (v := z9) (by decide) (by decide)
    intro z11 t11 e11 l11 h11
    try have w11 : t11 = 0 := by omega
    refine And.intro (rfl) (And.intro (⟨by omega, by omega⟩) ?_)
    intro v12 e12 l12 h12
    have e12 : v12 = (xput σ 2 5 z9) 2 z11.toNat := e12
    rw [xput_o (by omega), show z11.toNat = 553 + a.toNat from by omega] at e12
    intro z13 t13 e13 l13 h13
    try have w13 : t13 = 0 := by omega
    refine And.intro (rfl) (And.intro (⟨by omega, by omega⟩) ?_)
    have hF := hF.pt (t := 2) (j := z11.toNat) (v := z13) (by decide) (by decide)
    have hac : (xput (xput σ 2 5 z9) 2 z11.toNat z13) 2 = (acF (σ 2) a.toNat) := by
      show xput (xput σ 2 5 z9) 2 z11.toNat z13 2 = _
      rw [xput_up, xput_up]
      unfold acF
      rw [show z11.toNat = 553 + a.toNat from by omega, show z9 = wr (σ 2 5 + 1) from by unfold wr; omega, show z13 = wr (σ 2 (553 + a.toNat) + 1) from by unfold wr; omega]
    obtain ⟨hVa, oa⟩ := hp0.ac (a := a.toNat) (by omega)
    have oak := oa (151 + 13 * a.toNat + kind.toNat) (by omega) (by omega)
    have lp_115 : ∀ (s1 : xS), (Fr [2] [] σ s1 ∧ s1 2 = (ak1F (σ 2) a.toNat kind.toNat)) → X 115 [xvr 0, xvi a, xvi b, xvi kind, xvi lies, xvi told, xvi r1, xvi r2, xvi 0, xvi r2, xvi (-1), xvi (-1), xvi z7, xvu] s1 := by
      intro s1 hv_115
      clear e9 l9 h9 e13 l13 h13
      obtain ⟨hF, hE⟩ := hv_115
      obtain ⟨hVk, ok, okk⟩ := hp0.ak (a := a.toNat) (kind := kind.toNat) (by omega) (by omega) (by omega)
      obtain ⟨hVm, om, om6, omN⟩ := hp0.akm (a := a.toNat) (b := b.toNat) (kind := kind.toNat) (lies := lies) (by omega) (by omega) (by omega) (by omega) (by omega) (by omega) (by omega)
      have om1 := om 1 (by omega)
      have eK : ((kind.toNat : Nat) : Int) = kind := by omega
      have eMt : (akM (σ 2) a.toNat b.toNat kind.toNat lies) = if gvs (σ 2) b.toNat kind.toNat lies then booksF (gvI (ak1F (σ 2) a.toNat kind.toNat) a.toNat b.toNat kind.toNat) a.toNat kind.toNat else noF (denF (ak1F (σ 2) a.toNat kind.toNat) b.toNat kind.toNat) a.toNat kind.toNat := rfl
      have eNt : (akN (σ 2) a.toNat b.toNat kind.toNat lies) = if gvs (σ 2) b.toNat kind.toNat lies then (a.toNat : Int) else noN (denF (ak1F (σ 2) a.toNat kind.toNat) b.toNat kind.toNat) a.toNat kind.toNat := rfl
      have eR4 : askR (σ 2) a.toNat b.toNat kind.toNat lies 4 = if gvs (σ 2) b.toNat kind.toNat lies then -1 else if (denF (ak1F (σ 2) a.toNat kind.toNat) b.toNat kind.toNat) 7 = 0 then -1 else (denF (ak1F (σ 2) a.toNat kind.toNat) b.toNat kind.toNat) 8 := rfl
      have eR5 : askR (σ 2) a.toNat b.toNat kind.toNat lies 5 = if gvs (σ 2) b.toNat kind.toNat lies then lyF (gvI (ak1F (σ 2) a.toNat kind.toNat) a.toNat b.toNat kind.toNat) a.toNat kind.toNat else if (denF (ak1F (σ 2) a.toNat kind.toNat) b.toNat kind.toNat) 7 = 0 then -1 else lyF (dcM (up (denF (ak1F (σ 2) a.toNat kind.toNat) b.toNat kind.toNat) 6 0) a.toNat (noS (denF (ak1F (σ 2) a.toNat kind.toNat) b.toNat kind.toNat) kind.toNat)) a.toNat ((denF (ak1F (σ 2) a.toNat kind.toNat) b.toNat kind.toNat) 8).toNat := rfl
      have ok1 := ok 1 (by omega)
      have ok2 := ok 2 (by omega)
      have ok6 := ok 6 (by omega)
      have okb := ok (60 + 13 * b.toNat + kind.toNat) (by omega)
      generalize hgg : (ak1F (σ 2) a.toNat kind.toNat) = g at *
      obtain ⟨hkb, h4b⟩ := kn_r hVk.1 (p := b.toNat) (k := kind.toNat) (by omega) (by omega)
      refine hX 400 115 _ _ ?_
      have lp_439 : ∀ (dr5 : Int) (la5 : Int) (fr5 : Int) (u16_13 : xV) (s5 : xS), (Fr [2] [] σ s5 ∧ s5 2 = (akM (σ 2) a.toNat b.toNat kind.toNat lies) ∧ dr5 = askR (σ 2) a.toNat b.toNat kind.toNat lies 4 ∧ la5 = askR (σ 2) a.toNat b.toNat kind.toNat lies 5 ∧ fr5 = (akN (σ 2) a.toNat b.toNat kind.toNat lies)) → X 439 [xvr 0, xvi a, xvi b, xvi kind, xvi lies, xvi told, xvi r1, xvi r2, xvi 0, xvi r2, xvi dr5, xvi la5, xvi fr5, u16_13] s5 := by
        intro dr5 la5 fr5 u16_13 s5 hv_439
        obtain ⟨hF, hE5, hdr5, hla5, hfr5⟩ := hv_439
        refine hX 400 439 _ _ ?_
        have lp_471 : ∀ (s6 : xS), (Fr [2] [] σ s6 ∧ s6 2 = (askF (σ 2) a.toNat b.toNat kind.toNat lies)) → X 471 [xvr 0, xvi a, xvi b, xvi kind, xvi lies, xvi told, xvi r1, xvi r2, xvi 0, xvi r2, xvi dr5, xvi la5, xvi fr5, u16_13] s6 := by
          intro s6 hv_471
          obtain ⟨hF, hEA⟩ := hv_471
          have hF7 : s6 7 = σ 7 := hF.1 7 (by decide) (by decide)
          have hF24 : s6 0 24 = σ 0 24 := hF.2 24 (by decide)
          have hF : Fr [2, 7] [24] σ s6 := Fr.rf.tr hF (by decide) (by decide)
          refine hX 400 471 _ _ ?_
          refine And.intro (fun c18 => ?_) (fun c18 => ?_)
          · refine And.intro (by omega) ?_
            have hF := hF.p (j := 24) (v := 1) (by decide)
            refine And.intro (rfl) (And.intro (⟨by omega, by omega⟩) ?_)
            have hF := hF.pt (t := 7) (j := 0) (v := a) (by decide) (by decide)
            refine And.intro (rfl) (And.intro (⟨by omega, by omega⟩) ?_)
            have hF := hF.pt (t := 7) (j := 1) (v := b) (by decide) (by decide)
            refine And.intro (rfl) (And.intro (⟨by omega, by omega⟩) ?_)
            have hF := hF.pt (t := 7) (j := 2) (v := kind) (by decide) (by decide)
            refine And.intro (rfl) (And.intro (⟨by omega, by omega⟩) ?_)
            have hF := hF.pt (t := 7) (j := 3) (v := r2) (by decide) (by decide)
            refine And.intro (rfl) (And.intro (⟨by omega, by omega⟩) ?_)
            have hF := hF.pt (t := 7) (j := 4) (v := dr5) (by decide) (by decide)
            refine And.intro (rfl) (And.intro (⟨by omega, by omega⟩) ?_)
            have hF := hF.pt (t := 7) (j := 5) (v := la5) (by decide) (by decide)
            refine And.intro (rfl) (And.intro (⟨by omega, by omega⟩) ?_)
            have hF := hF.pt (t := 7) (j := 6) (v := 0) (by decide) (by decide)
            refine And.intro (rfl) (And.intro (⟨by omega, by omega⟩) ?_)
            have hF := hF.pt (t := 7) (j := 7) (v := r1) (by decide) (by decide)
            refine And.intro rfl ?_
            have hg3 : r2 = askR (σ 2) a.toNat b.toNat kind.toNat lies 3 := by
              show r2 = (if gvs (σ 2) b.toNat kind.toNat lies then σ 2 (60 + 13 * b.toNat + kind.toNat) else 0)
              by_cases c : gvs (σ 2) b.toNat kind.toNat lies
              · have c1 := c.1
                have c2 := c.2
                first | (rw [if_pos c]; done) | (rw [if_pos c]; omega) | (exfalso; omega)
              · have c1 : ¬ (0 < σ 2 (60 + 13 * b.toNat + kind.toNat) ∧ lies = 0) := c
                first | (rw [if_neg c]; done) | (rw [if_neg c]; omega) | (exfalso; omega)
            exact hQ _ _ hF ⟨hEA, hg3, Or.inr ⟨(by omega), rfl, fun i hi => by
              have h8 : i = 0 ∨ i = 1 ∨ i = 2 ∨ i = 3 ∨ i = 4 ∨ i = 5 ∨ i = 6 ∨ i = 7 := by omega
              rcases h8 with rfl | rfl | rfl | rfl | rfl | rfl | rfl | rfl
              · show a = ((a.toNat : Nat) : Int); omega
              · show b = ((b.toNat : Nat) : Int); omega
              · show kind = ((kind.toNat : Nat) : Int); omega
              · exact hg3
              · exact hdr5
              · exact hla5
              · show 0 = (if 0 < σ 2 (60 + 13 * b.toNat + kind.toNat) ∧ lies = 1 then 1 else 0)
                first | (rw [if_pos (by omega)]; done) | (rw [if_neg (by omega)]; done)
              · show r1 = sureF (σ 2) b.toNat kind.toNat
                omega⟩⟩
          · refine And.intro rfl ?_
            have hg3 : r2 = askR (σ 2) a.toNat b.toNat kind.toNat lies 3 := by
              show r2 = (if gvs (σ 2) b.toNat kind.toNat lies then σ 2 (60 + 13 * b.toNat + kind.toNat) else 0)
              by_cases c : gvs (σ 2) b.toNat kind.toNat lies
              · have c1 := c.1
                have c2 := c.2
                first | (rw [if_pos c]; done) | (rw [if_pos c]; omega) | (exfalso; omega)
              · have c1 : ¬ (0 < σ 2 (60 + 13 * b.toNat + kind.toNat) ∧ lies = 0) := c
                first | (rw [if_neg c]; done) | (rw [if_neg c]; omega) | (exfalso; omega)
            exact hQ _ _ hF ⟨hEA, hg3, Or.inl ⟨(by omega), hF7, hF24⟩⟩
        refine And.intro (rfl) (And.intro (⟨by omega, by omega⟩) ?_)
        intro v28 e28 l28 h28
        have e28 : v28 = s5 2 6 := e28
        rw [hE5] at e28
        refine And.intro (rfl) (And.intro (⟨by omega, by omega⟩) ?_)
        intro v29 e29 l29 h29
        have e29 : v29 = s5 2 1 := e29
        rw [hE5] at e29
        refine And.intro (fun c30 => ?_) (fun c30 => ?_)
        · have hne : ¬ (akM (σ 2) a.toNat b.toNat kind.toNat lies) 6 = (akM (σ 2) a.toNat b.toNat kind.toNat lies) 1 := by omega
          refine s_settlesF (σ := s5) (fr := fr5) (by rw [hE5]; exact hVm) (by omega) (fun _ => by rw [hE5]; omega) (fun σ31 f31 p31 => ?_)
          have hF := hF.tr f31 (by decide) (by decide)
          have hEF : σ31 2 = (askF (σ 2) a.toNat b.toNat kind.toNat lies) := by rw [askF_m, p31, hE5, hfr5]; unfold finF; rw [if_neg hne]
          exact lp_471 σ31 ⟨hF, hEF⟩
        · refine And.intro (rfl) (And.intro (⟨by omega, by omega⟩) ?_)
          have hF := hF.pt (t := 2) (j := 4) (v := (-1)) (by decide) (by decide)
          exact lp_471 (xput s5 2 4 (-1)) ⟨hF, by
                rw [askF_m]
                unfold finF
                rw [if_pos (by omega)]
                show xput s5 2 4 (-1) 2 = _
                rw [xput_up, hE5]⟩
      refine And.intro (fun c33 => ?_) (fun c33 => ?_)
      · have hgs : ¬ gvs (σ 2) b.toNat kind.toNat lies := fun z => by
          have z1 := z.1
          have z2 := z.2
          omega
        rw [if_neg hgs] at eMt eNt eR4 eR5
        obtain ⟨hVc, oc⟩ := hVk.cg (k := b.toNat) (kind := kind.toNat) (by omega)
        have ock := oc (151 + 13 * b.toNat + kind.toNat) (by omega)
        obtain ⟨hVd, od, _⟩ := hVk.den (k := b.toNat) (kind := kind.toNat) (by omega) (by omega)
        have od1 := od 1 (by omega)
        have od2 := od 2 (by omega)
        have od6 := od 6 (by omega)
        have lp_290 : ∀ (m290 : Nat) (s3 : xS), ((s3 2 (151 + 13 * b.toNat + kind.toNat)).toNat) = m290 → (Fr [2] [] σ s3 ∧ ∃ jj : Nat, (jj : Int) ≤ g (151 + 13 * b.toNat + kind.toNat) ∧ s3 2 = dnI (cgF g b.toNat kind.toNat) b.toNat kind.toNat jj) → X 290 [xvr 0, xvi a, xvi b, xvi kind, xvi lies, xvi told, xvi r1, xvi r2, xvi 0, xvi r2, xvi (-1), xvi (-1), xvi z7, xvu] s3 := by
          intro m290
          induction m290 using Nat.strongRecOn with
          | _ m290 ih_290 =>
          intro s3 hm_290 hv_290
          obtain ⟨hF, jj, hjl, hE3⟩ := hv_290
          have hVj := dnI_v hVc (k := b.toNat) (kind := kind.toNat) (by omega) (by omega) jj (by omega)
          have hjk : dnI (cgF g b.toNat kind.toNat) b.toNat kind.toNat jj (151 + 13 * b.toNat + kind.toNat) = g (151 + 13 * b.toNat + kind.toNat) - jj := by rw [dnI_k, ock]
          have hjk2 : s3 2 (151 + 13 * b.toNat + kind.toNat) = g (151 + 13 * b.toNat + kind.toNat) - jj := by rw [hE3, hjk]
          refine hX 400 290 _ _ ?_
          intro z35 t35 e35 l35 h35
          try have w35 : t35 = 0 := by omega
          intro z36 t36 e36 l36 h36
          try have w36 : t36 = 0 := by omega
          intro z37 t37 e37 l37 h37
          try have w37 : t37 = 0 := by omega
          refine And.intro (rfl) (And.intro (⟨by omega, by omega⟩) ?_)
          intro v38 e38 l38 h38
          have e38 : v38 = s3 2 z37.toNat := e38
          rw [show z37.toNat = (151 + 13 * b.toNat + kind.toNat) from by omega, hjk2] at e38
          refine And.intro (fun c39 => ?_) (fun c39 => ?_)
          · have hjj : jj = (g (151 + 13 * b.toNat + kind.toNat)).toNat := by omega
            refine s_cannotF (σ := s3) (k := b) (kind := kind) (by omega) hp4 (by rw [hE3]; exact hVj.1.w b.toNat (by omega)) (by rw [hE3]; exact hVj.2) (fun σ40 f40 p40 => ?_)
            have hED : σ40 2 = denF g b.toNat kind.toNat := by rw [p40, hE3, hjj]; unfold denF; rw [eK]
            have hF := hF.tr f40 (by decide) (by decide)
            generalize hdd : denF g b.toNat kind.toNat = d at *
            have m7 := hVd.1.1.2.2.2
            have m1d := hVd.1.1.2.1
            refine And.intro (rfl) (And.intro (⟨by omega, by omega⟩) ?_)
            intro v41 e41 l41 h41
            have e41 : v41 = σ40 2 6 := e41
            rw [hED] at e41
            intro z42 t42 e42 l42 h42
            try have w42 : t42 = 0 := by omega
            refine And.intro (rfl) (And.intro (⟨by omega, by omega⟩) ?_)
            have hF := hF.pt (t := 2) (j := 6) (v := z42) (by decide) (by decide)
            refine And.intro (rfl) (And.intro (⟨by omega, by omega⟩) ?_)
            intro v44 e44 l44 h44
            have e44 : v44 = σ40 2 7 := e44
            rw [hED] at e44
            refine And.intro (fun c45 => ?_) (fun c45 => ?_)
            · exact lp_439 (-1) (-1) z7 (xvu) (xput σ40 2 6 z42) ⟨hF, (by
                    rw [eMt]
                    unfold noF
                    rw [if_pos (by omega)]
                    show xput σ40 2 6 z42 2 = _
                    rw [xput_up, hED, show z42 = d 6 + 1 from by omega]), (by rw [eR4, if_pos (by omega)]), (by rw [eR5, if_pos (by omega)]), (by
                    rw [eNt]
                    unfold noN
                    rw [if_neg (by omega), show ((a.toNat : Nat) : Int) = a from by omega, hfa, od1, ok1])⟩
            · refine And.intro (rfl) (And.intro (⟨by omega, by omega⟩) ?_)
              have hF := hF.pt (t := 2) (j := 6) (v := 0) (by decide) (by decide)
              have hE6 : (xput (xput σ40 2 6 z42) 2 6 0) 2 = (up d 6 0) := by
                show xput (xput σ40 2 6 z42) 2 6 0 2 = _
                rw [xput_up, xput_up, upx_up, hED]
              have hV6 : VX (up d 6 0) := hVd.t (Or.inr rfl)
              have u1 : (up d 6 0) 1 = d 1 := up_n (by decide)
              have u7 : (up d 6 0) 7 = d 7 := up_n (by decide)
              have u8 : (up d 6 0) 8 = d 8 := up_n (by decide)
              have u2 : (up d 6 0) 2 = d 2 := up_n (by decide)
              have hd2 := drw_F hV6.1 (p := a.toNat) (by omega) (by omega)
              have ho2 := hV6.1.o51 (by omega) (by omega) (by omega) hd2
              have hc8 := hV6.1.c8 (by omega)
              obtain ⟨qd1, qd2⟩ := drawsF_q hV6.1 (p := a.toNat) (by omega) (by omega)
              have qd22 := qd1 2 (by omega)
              refine s_drawsF (σ := (xput (xput σ40 2 6 z42) 2 6 0)) (k := a) (by rw [hE6]; exact hV6.1) (by rw [hE6]; omega) (by rw [hE6]; omega) (fun r47 σ47 f47 p47 => ?_)
              rw [hE6, u8] at p47
              have hF := hF.tr f47 (by decide) (by decide)
              refine And.intro (Nat.le_of_ble_eq_true rfl) ?_
              show xw _ _ _ _ _ _ _ _ _ _ [xvr 0, xvi a, xvi b, xvi kind, xvi lies, xvi told, xvi r1, xvi r2, xvi 0, xvi r2, xvi r47, xvi (-1), xvi z7, xvu] _ _
              have hkr := kn_r (hV6.dc1 (p := a.toNat) (by omega) (by omega) (by omega)).1.1 (p := a.toNat) (k := ((up d 6 0) 8).toNat) (by omega) (by omega)
              unfold seeF at hkr
              rw [up_s, up_n (show 60 + 13 * a.toNat + ((up d 6 0) 8).toNat ≠ 151 + 13 * a.toNat + ((up d 6 0) 8).toNat from by omega)] at hkr
              have lp_419 : ∀ (_ : Unit), (noS d kind.toNat = 0) → X 419 [xvr 0, xvi a, xvi b, xvi kind, xvi lies, xvi told, xvi r1, xvi r2, xvi 0, xvi r2, xvi r47, xvi (-1), xvi z7, xvu] σ47 := by
                intro _ hv_419
                refine hX 400 419 _ _ ?_
                refine s_addsF (σ := σ47) (k := a) (mask := 0) (by omega) (by rw [p47.2]; exact ho2) (fun σ49 f49 p49 => ?_)
                rw [p47.2] at p49
                have hF := hF.tr f49 (by decide) (by decide)
                have lp_425 : ∀ (fr4 : Int) (s4 : xS), (Fr [2] [] σ s4 ∧ s4 2 = (dcM (up d 6 0) a.toNat (noS d kind.toNat)) ∧ fr4 = noN d a.toNat kind.toNat) → X 425 [xvr 0, xvi a, xvi b, xvi kind, xvi lies, xvi told, xvi r1, xvi r2, xvi 0, xvi r2, xvi r47, xvi (-1), xvi fr4, xvu] s4 := by
                  intro fr4 s4 hv_425
                  obtain ⟨hF, hE4, hN4⟩ := hv_425
                  refine hX 400 425 _ _ ?_
                  have hVdm : VX (dcM (up d 6 0) a.toNat (noS d kind.toNat)) := by
                    unfold dcM
                    by_cases c : noS d kind.toNat = 0
                    · rw [if_pos c]; exact (hV6.dc0 (p := a.toNat) (by omega) (by omega) (by omega)).1
                    · rw [if_neg c]; exact (hV6.dc1 (p := a.toNat) (by omega) (by omega) (by omega)).1
                  refine s_booksF (σ := s4) (k := a) (kind := r47) (by omega) (by omega) (by rw [hE4]; exact hVdm) (fun r51 σ51 f51 p51 => ?_)
                  rw [hE4, show r47.toNat = (d 8).toNat from by omega] at p51
                  have eM2 : σ51 2 = (akM (σ 2) a.toNat b.toNat kind.toNat lies) := by
                    rw [eMt, p51.1]
                    unfold noF dcF
                    rw [if_neg (by omega), u8]
                  have hF := hF.tr f51 (by decide) (by decide)
                  refine And.intro (fun c52 => ?_) (fun c52 => ?_)
                  · exact lp_439 r47 (-1) fr4 (xvu) σ51 ⟨hF, eM2, (by rw [eR4, if_neg (by omega)]; omega), (by
                          rw [eR5, if_neg (by omega)]
                          unfold lyF
                          first | (rw [if_pos (by omega)]; done) | (rw [if_neg (by omega)]; omega)), (by rw [eNt]; exact hN4)⟩
                  · refine And.intro (Nat.le_of_ble_eq_true rfl) ?_
                    show xw _ _ _ _ _ _ _ _ _ _ [xvr 0, xvi a, xvi b, xvi kind, xvi lies, xvi told, xvi r1, xvi r2, xvi 0, xvi r2, xvi r47, xvi r47, xvi fr4, xvu] _ _
                    exact lp_439 r47 r47 fr4 (xvu) σ51 ⟨hF, eM2, (by rw [eR4, if_neg (by omega)]; omega), (by
                          rw [eR5, if_neg (by omega)]
                          unfold lyF
                          first | (rw [if_pos (by omega)]; done) | (rw [if_neg (by omega)]; omega)), (by rw [eNt]; exact hN4)⟩
                exact lp_425 z7 σ49 ⟨hF, (by
                      unfold dcM
                      rw [if_pos hv_419]; exact p49), (by
                      unfold noN
                      rw [if_neg (by omega), show ((a.toNat : Nat) : Int) = a from by omega, hfa, od1, ok1])⟩
              have lp_425 : ∀ (fr4 : Int) (s4 : xS), (Fr [2] [] σ s4 ∧ s4 2 = (dcM (up d 6 0) a.toNat (noS d kind.toNat)) ∧ fr4 = noN d a.toNat kind.toNat) → X 425 [xvr 0, xvi a, xvi b, xvi kind, xvi lies, xvi told, xvi r1, xvi r2, xvi 0, xvi r2, xvi r47, xvi (-1), xvi fr4, xvu] s4 := by
                intro fr4 s4 hv_425
                obtain ⟨hF, hE4, hN4⟩ := hv_425
                refine hX 400 425 _ _ ?_
                have hVdm : VX (dcM (up d 6 0) a.toNat (noS d kind.toNat)) := by
                  unfold dcM
                  by_cases c : noS d kind.toNat = 0
                  · rw [if_pos c]; exact (hV6.dc0 (p := a.toNat) (by omega) (by omega) (by omega)).1
                  · rw [if_neg c]; exact (hV6.dc1 (p := a.toNat) (by omega) (by omega) (by omega)).1
                refine s_booksF (σ := s4) (k := a) (kind := r47) (by omega) (by omega) (by rw [hE4]; exact hVdm) (fun r54 σ54 f54 p54 => ?_)
                rw [hE4, show r47.toNat = (d 8).toNat from by omega] at p54
                have eM2 : σ54 2 = (akM (σ 2) a.toNat b.toNat kind.toNat lies) := by
                  rw [eMt, p54.1]
                  unfold noF dcF
                  rw [if_neg (by omega), u8]
                have hF := hF.tr f54 (by decide) (by decide)
                refine And.intro (fun c55 => ?_) (fun c55 => ?_)
                · exact lp_439 r47 (-1) fr4 (xvu) σ54 ⟨hF, eM2, (by rw [eR4, if_neg (by omega)]; omega), (by
                        rw [eR5, if_neg (by omega)]
                        unfold lyF
                        first | (rw [if_pos (by omega)]; done) | (rw [if_neg (by omega)]; omega)), (by rw [eNt]; exact hN4)⟩
                · refine And.intro (Nat.le_of_ble_eq_true rfl) ?_
                  show xw _ _ _ _ _ _ _ _ _ _ [xvr 0, xvi a, xvi b, xvi kind, xvi lies, xvi told, xvi r1, xvi r2, xvi 0, xvi r2, xvi r47, xvi r47, xvi fr4, xvu] _ _
                  exact lp_439 r47 r47 fr4 (xvu) σ54 ⟨hF, eM2, (by rw [eR4, if_neg (by omega)]; omega), (by
                        rw [eR5, if_neg (by omega)]
                        unfold lyF
                        first | (rw [if_pos (by omega)]; done) | (rw [if_neg (by omega)]; omega)), (by rw [eNt]; exact hN4)⟩
              refine And.intro (rfl) (And.intro (⟨by omega, by omega⟩) ?_)
              intro v56 e56 l56 h56
              have e56 : v56 = σ47 2 2 := e56
              rw [p47.2, qd22, u2] at e56
              refine And.intro (fun c57 => ?_) (fun c57 => ?_)
              · exact lp_419 () (by unfold noS; rw [if_neg (by omega)])
              · refine And.intro (fun c58 => ?_) (fun c58 => ?_)
                · exact lp_419 () (by unfold noS; rw [if_neg (by omega)])
                · intro z59 t59 e59 l59 h59
                  try have w59 : t59 = 0 := by omega
                  intro z60 t60 e60 l60 h60
                  try have w60 : t60 = 0 := by omega
                  intro z61 t61 e61 l61 h61
                  try have w61 : t61 = 0 := by omega
                  refine And.intro (rfl) (And.intro (⟨by omega, by omega⟩) ?_)
                  intro v62 e62 l62 h62
                  have e62 : v62 = σ47 2 z61.toNat := e62
                  rw [show z61.toNat = 151 + 13 * a.toNat + ((up d 6 0) 8).toNat from by omega, p47.2] at e62
                  intro z63 t63 e63 l63 h63
                  try have w63 : t63 = 0 := by omega
                  refine And.intro (rfl) (And.intro (⟨by omega, by omega⟩) ?_)
                  have hF := hF.pt (t := 2) (j := z61.toNat) (v := z63) (by decide) (by decide)
                  refine And.intro (Nat.le_of_ble_eq_true rfl) ?_
                  show xw _ _ _ _ _ _ _ _ _ _ [xvr 0, xvi a, xvi b, xvi kind, xvi lies, xvi told, xvi r1, xvi r2, xvi 0, xvi r2, xvi r47, xvi (-1), xvi a, xvu] _ _
                  exact lp_425 a (xput σ47 2 z61.toNat z63) ⟨hF, (by
                        show xput σ47 2 z61.toNat z63 2 = _
                        unfold dcM seeF noS
                        rw [if_pos (show d 2 = 1 ∧ d 8 = ((kind.toNat : Nat) : Int) from ⟨by omega, by omega⟩), if_neg (by decide), xput_up, p47.2, show z61.toNat = 151 + 13 * a.toNat + ((up d 6 0) 8).toNat from by omega, show z63 = drawsF (up d 6 0) a.toNat (151 + 13 * a.toNat + ((up d 6 0) 8).toNat) + 1 from by omega]), (by
                        unfold noN noS
                        rw [if_pos (show ¬ d 7 = 0 ∧ (if d 2 = 1 ∧ d 8 = ((kind.toNat : Nat) : Int) then (1 : Int) else 0) = 1 from ⟨by omega, if_pos ⟨by omega, by omega⟩⟩)]
                        omega)⟩
          · have h51 := hVj.1.o51k (p := b.toNat) (k := kind.toNat) (by omega) (by omega) (by show 1 ≤ dnI (cgF g b.toNat kind.toNat) b.toNat kind.toNat jj (151 + 13 * b.toNat + kind.toNat); omega)
            refine s_addsF (σ := s3) (k := b) (mask := 0) (by omega) (by rw [hE3]; exact h51) (fun σ65 f65 p65 => ?_)
            rw [hE3] at p65
            have hF := hF.tr f65 (by decide) (by decide)
            intro z66 t66 e66 l66 h66
            try have w66 : t66 = 0 := by omega
            intro z67 t67 e67 l67 h67
            try have w67 : t67 = 0 := by omega
            intro z68 t68 e68 l68 h68
            try have w68 : t68 = 0 := by omega
            refine And.intro (rfl) (And.intro (⟨by omega, by omega⟩) ?_)
            intro v69 e69 l69 h69
            have e69 : v69 = σ65 2 z68.toNat := e69
            rw [show z68.toNat = (151 + 13 * b.toNat + kind.toNat) from by omega, p65, addsF_o (by omega) (by omega), dnI_k, ock] at e69
            intro z70 t70 e70 l70 h70
            try have w70 : t70 = 0 := by omega
            refine And.intro (rfl) (And.intro (⟨by omega, by omega⟩) ?_)
            have hF := hF.pt (t := 2) (j := z68.toNat) (v := z70) (by decide) (by decide)
            have hme : (xput σ65 2 z68.toNat z70) 2 (151 + 13 * b.toNat + kind.toNat) = z70 := by
              rw [show z68.toNat = (151 + 13 * b.toNat + kind.toNat) from by omega]
              exact xput_s
            exact ih_290 _ (show ((xput σ65 2 z68.toNat z70) 2 (151 + 13 * b.toNat + kind.toNat)).toNat < m290 from by omega) (xput σ65 2 z68.toNat z70) rfl ⟨hF, jj + 1, by omega, by
                  show xput σ65 2 z68.toNat z70 2 = _
                  rw [xput_up, p65, show z68.toNat = (151 + 13 * b.toNat + kind.toNat) from by omega, show z70 = cgF g b.toNat kind.toNat (151 + 13 * b.toNat + kind.toNat) - (jj : Int) - 1 from by omega]
                  exact dnI_s (by omega)⟩
        intro z72 t72 e72 l72 h72
        try have w72 : t72 = 0 := by omega
        intro z73 t73 e73 l73 h73
        try have w73 : t73 = 0 := by omega
        intro z74 t74 e74 l74 h74
        try have w74 : t74 = 0 := by omega
        refine And.intro (rfl) (And.intro (⟨by omega, by omega⟩) ?_)
        intro v75 e75 l75 h75
        have e75 : v75 = s1 2 z74.toNat := e75
        rw [show z74.toNat = (151 + 13 * b.toNat + kind.toNat) from by omega, hE] at e75
        refine And.intro (fun c76 => ?_) (fun c76 => ?_)
        · exact lp_290 _ s1 rfl ⟨hF, 0, by omega, by rw [dnI_z]; unfold cgF; rw [if_neg (by omega)]; exact hE⟩
        · intro z77 t77 e77 l77 h77
          try have w77 : t77 = 0 := by omega
          refine And.intro (rfl) (And.intro (⟨by omega, by omega⟩) ?_)
          intro v78 e78 l78 h78
          have e78 : v78 = s1 2 z77.toNat := e78
          rw [show z77.toNat = 547 + b.toNat from by omega, hE] at e78
          intro z79 t79 e79 l79 h79
          try have w79 : t79 = 0 := by omega
          refine And.intro (rfl) (And.intro (⟨by omega, by omega⟩) ?_)
          have hF := hF.pt (t := 2) (j := z77.toNat) (v := z79) (by decide) (by decide)
          exact lp_290 _ (xput s1 2 z77.toNat z79) rfl ⟨hF, 0, by omega, by
                rw [dnI_z]
                unfold cgF
                rw [if_pos (by omega)]
                show xput s1 2 z77.toNat z79 2 = _
                rw [xput_up, hE, show z77.toNat = 547 + b.toNat from by omega, show z79 = wr (g (547 + b.toNat) + 1) from by unfold wr; omega]⟩
      · have hgs : gvs (σ 2) b.toNat kind.toNat lies := ⟨by omega, by omega⟩
        rw [if_pos hgs] at eMt eNt eR4 eR5
        intro z81 t81 e81 l81 h81
        try have w81 : t81 = 0 := by omega
        intro z82 t82 e82 l82 h82
        try have w82 : t82 = 0 := by omega
        intro z83 t83 e83 l83 h83
        try have w83 : t83 = 0 := by omega
        refine And.intro (rfl) (And.intro (⟨by omega, by omega⟩) ?_)
        intro v84 e84 l84 h84
        have e84 : v84 = s1 2 z83.toNat := e84
        rw [show z83.toNat = (151 + 13 * b.toNat + kind.toNat) from by omega, hE] at e84
        refine And.intro (Nat.le_of_ble_eq_true rfl) ?_
        show xw _ _ _ _ _ _ _ _ _ _ [xvr 0, xvi a, xvi b, xvi kind, xvi lies, xvi told, xvi r1, xvi r2, xvi 0, xvi r2, xvi (-1), xvi (-1), xvi z7, xvi v84] _ _
        have lp_137 : ∀ (m137 : Nat) (i : Int) (s2 : xS), ((5 - i).toNat) = m137 → (Fr [2] [] σ s2 ∧ s2 2 = itL g b.toNat kind (i - g (151 + 13 * b.toNat + kind.toNat)).toNat ∧ (g (151 + 13 * b.toNat + kind.toNat) ≤ i ∧ i ≤ g (60 + 13 * b.toNat + kind.toNat))) → X 137 [xvr 0, xvi a, xvi b, xvi kind, xvi lies, xvi told, xvi r1, xvi r2, xvi 0, xvi r2, xvi (-1), xvi (-1), xvi z7, xvi i] s2 := by
          intro m137
          induction m137 using Nat.strongRecOn with
          | _ m137 ih_137 =>
          intro i s2 hm_137 hv_137
          obtain ⟨hF, hE2, hv_137⟩ := hv_137
          obtain ⟨vX, vk, _, _, _⟩ := itL_v (kind := kind) hVk (k := b.toNat) (by omega) hp4 (i - g (151 + 13 * b.toNat + kind.toNat)).toNat (show g (151 + 13 * b.toNat + kind.toNat) + ((i - g (151 + 13 * b.toNat + kind.toNat)).toNat : Int) ≤ g (60 + 13 * b.toNat + kind.toNat) from by omega)
          rw [← hE2] at vX vk
          refine hX 400 137 _ _ ?_
          refine And.intro (fun c86 => ?_) (fun c86 => ?_)
          · intro z87 t87 e87 l87 h87
            try have w87 : t87 = 0 := by omega
            intro z88 t88 e88 l88 h88
            try have w88 : t88 = 0 := by omega
            intro z89 t89 e89 l89 h89
            try have w89 : t89 = 0 := by omega
            refine And.intro (rfl) (And.intro (⟨by omega, by omega⟩) ?_)
            have hF := hF.pt (t := 2) (j := z89.toNat) (v := 0) (by decide) (by decide)
            obtain ⟨_, _, vh2, vo, vq⟩ := itL_v (kind := kind) hVk (k := b.toNat) (by omega) hp4 (i - g (151 + 13 * b.toNat + kind.toNat)).toNat (show g (151 + 13 * b.toNat + kind.toNat) + ((i - g (151 + 13 * b.toNat + kind.toNat)).toNat : Int) ≤ g (60 + 13 * b.toNat + kind.toNat) from by omega)
            rw [← hE2] at vh2 vo vq
            unfold kn at vk vo
            unfold hd at vh2
            have vh1 := vh2 b.toNat kind.toNat (by omega) (by omega)
            have vha := vh2 a.toNat kind.toNat (by omega) (by omega)
            have v52 := vX.1.w b.toNat (by omega)
            have krp := kn_r vX.1 (p := a.toNat) (k := kind.toNat) (by omega) (by omega)
            have q1 := vq 1 (by omega)
            have hgi : gvI g a.toNat b.toNat kind.toNat = gvF (s2 2) a.toNat b.toNat kind.toNat (g (60 + 13 * b.toNat + kind.toNat)) := by
              unfold gvI
              rw [eK, show g (60 + 13 * b.toNat + kind.toNat) - g (151 + 13 * b.toNat + kind.toNat) = i - g (151 + 13 * b.toNat + kind.toNat) from by omega, ← hE2]
            obtain ⟨hVgi, _⟩ := hVk.gi (a := a.toNat) (b := b.toNat) (kind := kind.toNat) (by omega) (by omega) (by omega) (by omega) (by omega) (by omega)
            rw [hgi] at hVgi eMt eR5
            have hgv : g (60 + 13 * b.toNat + kind.toNat) = s2 2 (60 + 13 * b.toNat + kind.toNat) := vh1.symm
            generalize hh0 : s2 2 = h at *
            have hc0 : (xput s2 2 z89.toNat 0) 2 = up h (151 + 13 * b.toNat + kind.toNat) 0 := by
              show xput s2 2 z89.toNat 0 2 = _
              rw [xput_up, hh0, show z89.toNat = (151 + 13 * b.toNat + kind.toNat) from by omega]
            refine s_cannotF (σ := (xput s2 2 z89.toNat 0)) (k := b) (kind := kind) (by omega) hp4 (by rw [hc0, up_n (by omega)]; exact v52) (by rw [hc0]; exact vX.2.c (fun p hp => (vX.1.w p hp).2) (fun i h1 h2 => up_n (by omega))) (fun σ91 f91 p91 => ?_)
            rw [hc0] at p91
            have bo : ∀ i, i < 235 ∨ 547 ≤ i → σ91 2 i = up h (151 + 13 * b.toNat + kind.toNat) 0 i := fun i hi => by rw [p91]; exact barsF_o (by omega) (by rw [up_n (by omega)]; exact v52.2) hi
            have hF := hF.tr f91 (by decide) (by decide)
            have b1 := bo (151 + 13 * a.toNat + kind.toNat) (by omega); rw [up_n (by omega)] at b1
            have b2 := bo (60 + 13 * b.toNat + kind.toNat) (by omega); rw [up_n (by omega)] at b2
            have b3 := bo (60 + 13 * a.toNat + kind.toNat) (by omega); rw [up_n (by omega)] at b3
            have b4 := bo (559 + a.toNat) (by omega); rw [up_n (by omega)] at b4
            intro z92 t92 e92 l92 h92
            try have w92 : t92 = 0 := by omega
            refine s_handMF (σ := σ91) (k := b) (kind := kind) (more := z92) (by omega) hp4 (by rw [b2]; omega) (fun r93 σ93 f93 p93 => ?_)
            have c2 : σ93 2 = up (σ91 2) (60 + 13 * b.toNat + kind.toNat) (h (60 + 13 * b.toNat + kind.toNat) - h (60 + 13 * b.toNat + kind.toNat)) := by rw [p93.2, b2, show h (60 + 13 * b.toNat + kind.toNat) + z92 = h (60 + 13 * b.toNat + kind.toNat) - h (60 + 13 * b.toNat + kind.toNat) from by omega]
            have hF := hF.tr f93 (by decide) (by decide)
            have d3 : σ93 2 (60 + 13 * a.toNat + kind.toNat) = h (60 + 13 * a.toNat + kind.toNat) := by rw [c2, up_n (by omega)]; exact b3
            refine s_handMF (σ := σ93) (k := a) (kind := kind) (more := r2) (by omega) hp4 (by rw [d3]; omega) (fun r94 σ94 f94 p94 => ?_)
            have c3 : σ94 2 = up (σ93 2) (60 + 13 * a.toNat + kind.toNat) (h (60 + 13 * a.toNat + kind.toNat) + h (60 + 13 * b.toNat + kind.toNat)) := by rw [p94.2, d3, show h (60 + 13 * a.toNat + kind.toNat) + r2 = h (60 + 13 * a.toNat + kind.toNat) + h (60 + 13 * b.toNat + kind.toNat) from by omega]
            have hF := hF.tr f94 (by decide) (by decide)
            intro z95 t95 e95 l95 h95
            try have w95 : t95 = 0 := by omega
            intro z96 t96 e96 l96 h96
            try have w96 : t96 = 0 := by omega
            intro z97 t97 e97 l97 h97
            try have w97 : t97 = 0 := by omega
            refine And.intro (rfl) (And.intro (⟨by omega, by omega⟩) ?_)
            intro v98 e98 l98 h98
            have e98 : v98 = σ94 2 z97.toNat := e98
            rw [show z97.toNat = (151 + 13 * a.toNat + kind.toNat) from by omega, c3, up_n (by omega), c2, up_n (by omega), b1] at e98
            intro z99 t99 e99 l99 h99
            try have w99 : t99 = 0 := by omega
            refine And.intro (rfl) (And.intro (⟨by omega, by omega⟩) ?_)
            have hF := hF.pt (t := 2) (j := z97.toNat) (v := z99) (by decide) (by decide)
            intro z101 t101 e101 l101 h101
            try have w101 : t101 = 0 := by omega
            refine And.intro (rfl) (And.intro (⟨by omega, by omega⟩) ?_)
            intro v102 e102 l102 h102
            have e102 : v102 = (xput σ94 2 z97.toNat z99) 2 z101.toNat := e102
            rw [xput_o (by omega), show z101.toNat = 559 + a.toNat from by omega, c3, up_n (by omega), c2, up_n (by omega), b4] at e102
            intro z103 t103 e103 l103 h103
            try have w103 : t103 = 0 := by omega
            refine And.intro (rfl) (And.intro (⟨by omega, by omega⟩) ?_)
            have hF := hF.pt (t := 2) (j := z101.toNat) (v := z103) (by decide) (by decide)
            refine And.intro (rfl) (And.intro (⟨by omega, by omega⟩) ?_)
            have hF := hF.pt (t := 2) (j := 6) (v := 0) (by decide) (by decide)
            refine And.intro (Nat.le_of_ble_eq_true rfl) ?_
            show xw _ _ _ _ _ _ _ _ _ _ [xvr 0, xvi a, xvi b, xvi kind, xvi lies, xvi told, xvi r1, xvi r2, xvi 0, xvi r2, xvi (-1), xvi (-1), xvi a, xvi i] _ _
            have hEg : (xput (xput (xput σ94 2 z97.toNat z99) 2 z101.toNat z103) 2 6 0) 2 = gvF h a.toNat b.toNat kind.toNat (g (60 + 13 * b.toNat + kind.toNat)) := by
              show xput (xput (xput σ94 2 z97.toNat z99) 2 z101.toNat z103) 2 6 0 2 = _
              rw [xput_up, xput_up, xput_up, c3, c2, p91]
              unfold gvF
              rw [eK, hgv, show z97.toNat = (151 + 13 * a.toNat + kind.toNat) from by omega, show z101.toNat = 559 + a.toNat from by omega, show z99 = h (151 + 13 * a.toNat + kind.toNat) + h (60 + 13 * b.toNat + kind.toNat) from by omega, show z103 = wr (h (559 + a.toNat) + h (60 + 13 * b.toNat + kind.toNat)) from by unfold wr; omega]
            refine s_booksF (σ := (xput (xput (xput σ94 2 z97.toNat z99) 2 z101.toNat z103) 2 6 0)) (k := a) (kind := kind) (by omega) hp4 (by rw [hEg]; exact hVgi) (fun r106 σ106 f106 p106 => ?_)
            rw [hEg, ← eMt] at p106
            have hF := hF.tr f106 (by decide) (by decide)
            refine And.intro (fun c107 => ?_) (fun c107 => ?_)
            · exact lp_439 (-1) (-1) a (xvi i) σ106 ⟨hF, p106.1, (by rw [eR4]), (by
                    rw [eR5]
                    unfold lyF
                    first | (rw [if_pos (by omega)]; done) | (rw [if_neg (by omega)]; omega)), (by omega)⟩
            · refine And.intro (Nat.le_of_ble_eq_true rfl) ?_
              show xw _ _ _ _ _ _ _ _ _ _ [xvr 0, xvi a, xvi b, xvi kind, xvi lies, xvi told, xvi r1, xvi r2, xvi 0, xvi r2, xvi (-1), xvi kind, xvi a, xvi i] _ _
              exact lp_439 (-1) kind a (xvi i) σ106 ⟨hF, p106.1, (by rw [eR4]), (by
                    rw [eR5]
                    unfold lyF
                    first | (rw [if_pos (by omega)]; done) | (rw [if_neg (by omega)]; omega)), (by omega)⟩
          · refine s_learnsF (σ := s2) (k := b) (kind := kind) (by omega) hp4 (vX.1.w b.toNat (by omega)) vX.2 (by unfold kn at vk; omega) (fun σ108 f108 p108 => ?_)
            have hF := hF.tr f108 (by decide) (by decide)
            intro z109 t109 e109 l109 h109
            try have w109 : t109 = 0 := by omega
            show xw _ _ _ _ _ _ _ _ _ _ [xvr 0, xvi a, xvi b, xvi kind, xvi lies, xvi told, xvi r1, xvi r2, xvi 0, xvi r2, xvi (-1), xvi (-1), xvi z7, xvi z109] _ _
            exact ih_137 _ (show (5 - z109).toNat < m137 from by omega) z109 σ108 rfl ⟨hF, (by rw [p108, hE2, show (z109 - g (151 + 13 * b.toNat + kind.toNat)).toNat = (i - g (151 + 13 * b.toNat + kind.toNat)).toNat + 1 from by omega]; rfl), by omega⟩
        exact lp_137 _ v84 s1 rfl ⟨hF, (by rw [show (v84 - g (151 + 13 * b.toNat + kind.toNat)).toNat = 0 from by omega]; exact hE), by omega⟩
    intro z110 t110 e110 l110 h110
    try have w110 : t110 = 0 := by omega
    intro z111 t111 e111 l111 h111
    try have w111 : t111 = 0 := by omega
    intro z112 t112 e112 l112 h112
    try have w112 : t112 = 0 := by omega
    refine And.intro (rfl) (And.intro (⟨by omega, by omega⟩) ?_)
    intro v113 e113 l113 h113
    have e113 : v113 = (xput (xput σ 2 5 z9) 2 z11.toNat z13) 2 z112.toNat := e113
    have e105 : v113 = σ 2 (151 + 13 * a.toNat + kind.toNat) := by
      rw [show z112.toNat = (151 + 13 * a.toNat + kind.toNat) from by omega] at e113
      rw [e113]
      show (xput (xput σ 2 5 z9) 2 z11.toNat z13) 2 (151 + 13 * a.toNat + kind.toNat) = _
      rw [hac]; exact oak
    refine And.intro (fun c114 => ?_) (fun c114 => ?_)
    · exact lp_115 (xput (xput σ 2 5 z9) 2 z11.toNat z13) ⟨hF, by unfold ak1F; rw [if_neg (by omega)]; exact hac⟩
    · refine s_learnsF (σ := (xput (xput σ 2 5 z9) 2 z11.toNat z13)) (k := a) (kind := kind) (by omega) hp4 (by rw [hac]; exact hVa.1.w a.toNat (by omega)) (by rw [hac]; exact hVa.2) (by rw [hac, oak]; omega) (fun σ115 f115 p115 => ?_)
      rw [hac] at p115
      have hF := hF.tr f115 (by decide) (by decide)
      exact lp_115 σ115 ⟨hF, by unfold ak1F; rw [if_pos (by omega)]; rw [show ((kind.toNat : Nat) : Int) = kind from by omega]; exact p115⟩
  refine And.intro (fun c116 => ?_) (fun c116 => ?_)
  · exact lp_32 () (by omega)
  · refine And.intro (fun c117 => ?_) (fun c117 => ?_)
    · exact lp_32 () (by omega)
    · refine And.intro (Nat.le_of_ble_eq_true rfl) ?_
      show xw _ _ _ _ _ _ _ _ _ _ [xvr 0, xvi a, xvi b, xvi kind, xvi lies, xvi told, xvi r1, xvi r2, xvi 1, xvu, xvu, xvu, xvu, xvu] _ _
      refine And.intro (fun c118 => absurd (by decide) c118) (fun _ => ?_)
      refine And.intro (Nat.le_of_ble_eq_true rfl) ?_
      show xw _ _ _ _ _ _ _ _ _ _ [xvr 0, xvi a, xvi b, xvi kind, xvi lies, xvi told, xvi r1, xvi r2, xvi 1, xvi 0, xvu, xvu, xvu, xvu] _ _
      refine And.intro (Nat.le_of_ble_eq_true rfl) ?_
      show xw _ _ _ _ _ _ _ _ _ _ [xvr 0, xvi a, xvi b, xvi kind, xvi lies, xvi told, xvi r1, xvi r2, xvi 1, xvi 0, xvi (-1), xvu, xvu, xvu] _ _
      refine And.intro (Nat.le_of_ble_eq_true rfl) ?_
      show xw _ _ _ _ _ _ _ _ _ _ [xvr 0, xvi a, xvi b, xvi kind, xvi lies, xvi told, xvi r1, xvi r2, xvi 1, xvi 0, xvi (-1), xvi (-1), xvu, xvu] _ _
      intro z119 t119 e119 l119 h119
      try have w119 : t119 = 0 := by omega
      refine And.intro (rfl) (And.intro (⟨by omega, by omega⟩) ?_)
      intro v120 e120 l120 h120
      have e120 : v120 = σ 2 1 := e120
      -- rem
      refine And.intro (by omega) ?_
      intro z121 e121 f121 l121 h121
      replace f121 := f121 (by omega) (by omega)
      have g121 := Int.emod_nonneg z119 (b := v120) (by omega); have k121 := Int.emod_lt_of_pos z119 (b := v120) (by omega); rw [← f121] at g121 k121
      refine And.intro (Nat.le_of_ble_eq_true rfl) ?_
      show xw _ _ _ _ _ _ _ _ _ _ [xvr 0, xvi a, xvi b, xvi kind, xvi lies, xvi told, xvi r1, xvi r2, xvi 1, xvi 0, xvi (-1), xvi (-1), xvi z121, xvu] _ _
      have hfa : z121 = aft (σ 2 1) a := by
        have z := aft_mod (n := σ 2 1) (x := a) (by omega) (by omega)
        rw [Int.emod_eq_of_lt (by omega) (by omega)] at z
        rw [z, f121, show z119 = a + 1 from by omega, show v120 = σ 2 1 from by omega]
      refine And.intro (rfl) (And.intro (⟨by omega, by omega⟩) ?_)
      intro v122 e122 l122 h122
      have e122 : v122 = σ 2 5 := e122
      intro z123 t123 e123 l123 h123
      try have w123 : t123 = 0 := by omega
      refine And.intro (rfl) (And.intro (⟨by omega, by omega⟩) ?_)
      have hF := hF.pt (t := 2) (j := 5) (v := z123) (by decide) (by decide)
      intro z125 t125 e125 l125 h125
      try have w125 : t125 = 0 := by omega
      refine And.intro (rfl) (And.intro (⟨by omega, by omega⟩) ?_)
      intro v126 e126 l126 h126
      have e126 : v126 = (xput σ 2 5 z123) 2 z125.toNat := e126
      rw [xput_o (by omega), show z125.toNat = 553 + a.toNat from by omega] at e126
      intro z127 t127 e127 l127 h127
      try have w127 : t127 = 0 := by omega
      refine And.intro (rfl) (And.intro (⟨by omega, by omega⟩) ?_)
      have hF := hF.pt (t := 2) (j := z125.toNat) (v := z127) (by decide) (by decide)
      have hac : (xput (xput σ 2 5 z123) 2 z125.toNat z127) 2 = (acF (σ 2) a.toNat) := by
        show xput (xput σ 2 5 z123) 2 z125.toNat z127 2 = _
        rw [xput_up, xput_up]
        unfold acF
        rw [show z125.toNat = 553 + a.toNat from by omega, show z123 = wr (σ 2 5 + 1) from by unfold wr; omega, show z127 = wr (σ 2 (553 + a.toNat) + 1) from by unfold wr; omega]
      obtain ⟨hVa, oa⟩ := hp0.ac (a := a.toNat) (by omega)
      have oak := oa (151 + 13 * a.toNat + kind.toNat) (by omega) (by omega)
      have lp_115 : ∀ (s1 : xS), (Fr [2] [] σ s1 ∧ s1 2 = (ak1F (σ 2) a.toNat kind.toNat)) → X 115 [xvr 0, xvi a, xvi b, xvi kind, xvi lies, xvi told, xvi r1, xvi r2, xvi 1, xvi 0, xvi (-1), xvi (-1), xvi z121, xvu] s1 := by
        intro s1 hv_115
        clear e123 l123 h123 e127 l127 h127
        obtain ⟨hF, hE⟩ := hv_115
        obtain ⟨hVk, ok, okk⟩ := hp0.ak (a := a.toNat) (kind := kind.toNat) (by omega) (by omega) (by omega)
        obtain ⟨hVm, om, om6, omN⟩ := hp0.akm (a := a.toNat) (b := b.toNat) (kind := kind.toNat) (lies := lies) (by omega) (by omega) (by omega) (by omega) (by omega) (by omega) (by omega)
        have om1 := om 1 (by omega)
        have eK : ((kind.toNat : Nat) : Int) = kind := by omega
        have eMt : (akM (σ 2) a.toNat b.toNat kind.toNat lies) = if gvs (σ 2) b.toNat kind.toNat lies then booksF (gvI (ak1F (σ 2) a.toNat kind.toNat) a.toNat b.toNat kind.toNat) a.toNat kind.toNat else noF (denF (ak1F (σ 2) a.toNat kind.toNat) b.toNat kind.toNat) a.toNat kind.toNat := rfl
        have eNt : (akN (σ 2) a.toNat b.toNat kind.toNat lies) = if gvs (σ 2) b.toNat kind.toNat lies then (a.toNat : Int) else noN (denF (ak1F (σ 2) a.toNat kind.toNat) b.toNat kind.toNat) a.toNat kind.toNat := rfl
        have eR4 : askR (σ 2) a.toNat b.toNat kind.toNat lies 4 = if gvs (σ 2) b.toNat kind.toNat lies then -1 else if (denF (ak1F (σ 2) a.toNat kind.toNat) b.toNat kind.toNat) 7 = 0 then -1 else (denF (ak1F (σ 2) a.toNat kind.toNat) b.toNat kind.toNat) 8 := rfl
        have eR5 : askR (σ 2) a.toNat b.toNat kind.toNat lies 5 = if gvs (σ 2) b.toNat kind.toNat lies then lyF (gvI (ak1F (σ 2) a.toNat kind.toNat) a.toNat b.toNat kind.toNat) a.toNat kind.toNat else if (denF (ak1F (σ 2) a.toNat kind.toNat) b.toNat kind.toNat) 7 = 0 then -1 else lyF (dcM (up (denF (ak1F (σ 2) a.toNat kind.toNat) b.toNat kind.toNat) 6 0) a.toNat (noS (denF (ak1F (σ 2) a.toNat kind.toNat) b.toNat kind.toNat) kind.toNat)) a.toNat ((denF (ak1F (σ 2) a.toNat kind.toNat) b.toNat kind.toNat) 8).toNat := rfl
        have ok1 := ok 1 (by omega)
        have ok2 := ok 2 (by omega)
        have ok6 := ok 6 (by omega)
        have okb := ok (60 + 13 * b.toNat + kind.toNat) (by omega)
        generalize hgg : (ak1F (σ 2) a.toNat kind.toNat) = g at *
        obtain ⟨hkb, h4b⟩ := kn_r hVk.1 (p := b.toNat) (k := kind.toNat) (by omega) (by omega)
        refine hX 400 115 _ _ ?_
        have lp_439 : ∀ (dr5 : Int) (la5 : Int) (fr5 : Int) (u130_13 : xV) (s5 : xS), (Fr [2] [] σ s5 ∧ s5 2 = (akM (σ 2) a.toNat b.toNat kind.toNat lies) ∧ dr5 = askR (σ 2) a.toNat b.toNat kind.toNat lies 4 ∧ la5 = askR (σ 2) a.toNat b.toNat kind.toNat lies 5 ∧ fr5 = (akN (σ 2) a.toNat b.toNat kind.toNat lies)) → X 439 [xvr 0, xvi a, xvi b, xvi kind, xvi lies, xvi told, xvi r1, xvi r2, xvi 1, xvi 0, xvi dr5, xvi la5, xvi fr5, u130_13] s5 := by
          intro dr5 la5 fr5 u130_13 s5 hv_439
          obtain ⟨hF, hE5, hdr5, hla5, hfr5⟩ := hv_439
          refine hX 400 439 _ _ ?_
          have lp_471 : ∀ (s6 : xS), (Fr [2] [] σ s6 ∧ s6 2 = (askF (σ 2) a.toNat b.toNat kind.toNat lies)) → X 471 [xvr 0, xvi a, xvi b, xvi kind, xvi lies, xvi told, xvi r1, xvi r2, xvi 1, xvi 0, xvi dr5, xvi la5, xvi fr5, u130_13] s6 := by
            intro s6 hv_471
            obtain ⟨hF, hEA⟩ := hv_471
            have hF7 : s6 7 = σ 7 := hF.1 7 (by decide) (by decide)
            have hF24 : s6 0 24 = σ 0 24 := hF.2 24 (by decide)
            have hF : Fr [2, 7] [24] σ s6 := Fr.rf.tr hF (by decide) (by decide)
            refine hX 400 471 _ _ ?_
            refine And.intro (fun c132 => ?_) (fun c132 => ?_)
            · refine And.intro (by omega) ?_
              have hF := hF.p (j := 24) (v := 1) (by decide)
              refine And.intro (rfl) (And.intro (⟨by omega, by omega⟩) ?_)
              have hF := hF.pt (t := 7) (j := 0) (v := a) (by decide) (by decide)
              refine And.intro (rfl) (And.intro (⟨by omega, by omega⟩) ?_)
              have hF := hF.pt (t := 7) (j := 1) (v := b) (by decide) (by decide)
              refine And.intro (rfl) (And.intro (⟨by omega, by omega⟩) ?_)
              have hF := hF.pt (t := 7) (j := 2) (v := kind) (by decide) (by decide)
              refine And.intro (rfl) (And.intro (⟨by omega, by omega⟩) ?_)
              have hF := hF.pt (t := 7) (j := 3) (v := 0) (by decide) (by decide)
              refine And.intro (rfl) (And.intro (⟨by omega, by omega⟩) ?_)
              have hF := hF.pt (t := 7) (j := 4) (v := dr5) (by decide) (by decide)
              refine And.intro (rfl) (And.intro (⟨by omega, by omega⟩) ?_)
              have hF := hF.pt (t := 7) (j := 5) (v := la5) (by decide) (by decide)
              refine And.intro (rfl) (And.intro (⟨by omega, by omega⟩) ?_)
              have hF := hF.pt (t := 7) (j := 6) (v := 1) (by decide) (by decide)
              refine And.intro (rfl) (And.intro (⟨by omega, by omega⟩) ?_)
              have hF := hF.pt (t := 7) (j := 7) (v := r1) (by decide) (by decide)
              refine And.intro rfl ?_
              have hg3 : 0 = askR (σ 2) a.toNat b.toNat kind.toNat lies 3 := by
                show 0 = (if gvs (σ 2) b.toNat kind.toNat lies then σ 2 (60 + 13 * b.toNat + kind.toNat) else 0)
                by_cases c : gvs (σ 2) b.toNat kind.toNat lies
                · have c1 := c.1
                  have c2 := c.2
                  first | (rw [if_pos c]; done) | (rw [if_pos c]; omega) | (exfalso; omega)
                · have c1 : ¬ (0 < σ 2 (60 + 13 * b.toNat + kind.toNat) ∧ lies = 0) := c
                  first | (rw [if_neg c]; done) | (rw [if_neg c]; omega) | (exfalso; omega)
              exact hQ _ _ hF ⟨hEA, hg3, Or.inr ⟨(by omega), rfl, fun i hi => by
                have h8 : i = 0 ∨ i = 1 ∨ i = 2 ∨ i = 3 ∨ i = 4 ∨ i = 5 ∨ i = 6 ∨ i = 7 := by omega
                rcases h8 with rfl | rfl | rfl | rfl | rfl | rfl | rfl | rfl
                · show a = ((a.toNat : Nat) : Int); omega
                · show b = ((b.toNat : Nat) : Int); omega
                · show kind = ((kind.toNat : Nat) : Int); omega
                · exact hg3
                · exact hdr5
                · exact hla5
                · show 1 = (if 0 < σ 2 (60 + 13 * b.toNat + kind.toNat) ∧ lies = 1 then 1 else 0)
                  first | (rw [if_pos (by omega)]; done) | (rw [if_neg (by omega)]; done)
                · show r1 = sureF (σ 2) b.toNat kind.toNat
                  omega⟩⟩
            · refine And.intro rfl ?_
              have hg3 : 0 = askR (σ 2) a.toNat b.toNat kind.toNat lies 3 := by
                show 0 = (if gvs (σ 2) b.toNat kind.toNat lies then σ 2 (60 + 13 * b.toNat + kind.toNat) else 0)
                by_cases c : gvs (σ 2) b.toNat kind.toNat lies
                · have c1 := c.1
                  have c2 := c.2
                  first | (rw [if_pos c]; done) | (rw [if_pos c]; omega) | (exfalso; omega)
                · have c1 : ¬ (0 < σ 2 (60 + 13 * b.toNat + kind.toNat) ∧ lies = 0) := c
                  first | (rw [if_neg c]; done) | (rw [if_neg c]; omega) | (exfalso; omega)
              exact hQ _ _ hF ⟨hEA, hg3, Or.inl ⟨(by omega), hF7, hF24⟩⟩
          refine And.intro (rfl) (And.intro (⟨by omega, by omega⟩) ?_)
          intro v142 e142 l142 h142
          have e142 : v142 = s5 2 6 := e142
          rw [hE5] at e142
          refine And.intro (rfl) (And.intro (⟨by omega, by omega⟩) ?_)
          intro v143 e143 l143 h143
          have e143 : v143 = s5 2 1 := e143
          rw [hE5] at e143
          refine And.intro (fun c144 => ?_) (fun c144 => ?_)
          · have hne : ¬ (akM (σ 2) a.toNat b.toNat kind.toNat lies) 6 = (akM (σ 2) a.toNat b.toNat kind.toNat lies) 1 := by omega
            refine s_settlesF (σ := s5) (fr := fr5) (by rw [hE5]; exact hVm) (by omega) (fun _ => by rw [hE5]; omega) (fun σ145 f145 p145 => ?_)
            have hF := hF.tr f145 (by decide) (by decide)
            have hEF : σ145 2 = (askF (σ 2) a.toNat b.toNat kind.toNat lies) := by rw [askF_m, p145, hE5, hfr5]; unfold finF; rw [if_neg hne]
            exact lp_471 σ145 ⟨hF, hEF⟩
          · refine And.intro (rfl) (And.intro (⟨by omega, by omega⟩) ?_)
            have hF := hF.pt (t := 2) (j := 4) (v := (-1)) (by decide) (by decide)
            exact lp_471 (xput s5 2 4 (-1)) ⟨hF, by
                  rw [askF_m]
                  unfold finF
                  rw [if_pos (by omega)]
                  show xput s5 2 4 (-1) 2 = _
                  rw [xput_up, hE5]⟩
        refine And.intro (fun _ => ?_) (fun c147 => absurd (by decide) c147)
        have hgs : ¬ gvs (σ 2) b.toNat kind.toNat lies := fun z => by
          have z1 := z.1
          have z2 := z.2
          omega
        rw [if_neg hgs] at eMt eNt eR4 eR5
        obtain ⟨hVc, oc⟩ := hVk.cg (k := b.toNat) (kind := kind.toNat) (by omega)
        have ock := oc (151 + 13 * b.toNat + kind.toNat) (by omega)
        obtain ⟨hVd, od, _⟩ := hVk.den (k := b.toNat) (kind := kind.toNat) (by omega) (by omega)
        have od1 := od 1 (by omega)
        have od2 := od 2 (by omega)
        have od6 := od 6 (by omega)
        have lp_290 : ∀ (m290 : Nat) (s3 : xS), ((s3 2 (151 + 13 * b.toNat + kind.toNat)).toNat) = m290 → (Fr [2] [] σ s3 ∧ ∃ jj : Nat, (jj : Int) ≤ g (151 + 13 * b.toNat + kind.toNat) ∧ s3 2 = dnI (cgF g b.toNat kind.toNat) b.toNat kind.toNat jj) → X 290 [xvr 0, xvi a, xvi b, xvi kind, xvi lies, xvi told, xvi r1, xvi r2, xvi 1, xvi 0, xvi (-1), xvi (-1), xvi z121, xvu] s3 := by
          intro m290
          induction m290 using Nat.strongRecOn with
          | _ m290 ih_290 =>
          intro s3 hm_290 hv_290
          obtain ⟨hF, jj, hjl, hE3⟩ := hv_290
          have hVj := dnI_v hVc (k := b.toNat) (kind := kind.toNat) (by omega) (by omega) jj (by omega)
          have hjk : dnI (cgF g b.toNat kind.toNat) b.toNat kind.toNat jj (151 + 13 * b.toNat + kind.toNat) = g (151 + 13 * b.toNat + kind.toNat) - jj := by rw [dnI_k, ock]
          have hjk2 : s3 2 (151 + 13 * b.toNat + kind.toNat) = g (151 + 13 * b.toNat + kind.toNat) - jj := by rw [hE3, hjk]
          refine hX 400 290 _ _ ?_
          intro z149 t149 e149 l149 h149
          try have w149 : t149 = 0 := by omega
          intro z150 t150 e150 l150 h150
          try have w150 : t150 = 0 := by omega
          intro z151 t151 e151 l151 h151
          try have w151 : t151 = 0 := by omega
          refine And.intro (rfl) (And.intro (⟨by omega, by omega⟩) ?_)
          intro v152 e152 l152 h152
          have e152 : v152 = s3 2 z151.toNat := e152
          rw [show z151.toNat = (151 + 13 * b.toNat + kind.toNat) from by omega, hjk2] at e152
          refine And.intro (fun c153 => ?_) (fun c153 => ?_)
          · have hjj : jj = (g (151 + 13 * b.toNat + kind.toNat)).toNat := by omega
            refine s_cannotF (σ := s3) (k := b) (kind := kind) (by omega) hp4 (by rw [hE3]; exact hVj.1.w b.toNat (by omega)) (by rw [hE3]; exact hVj.2) (fun σ154 f154 p154 => ?_)
            have hED : σ154 2 = denF g b.toNat kind.toNat := by rw [p154, hE3, hjj]; unfold denF; rw [eK]
            have hF := hF.tr f154 (by decide) (by decide)
            generalize hdd : denF g b.toNat kind.toNat = d at *
            have m7 := hVd.1.1.2.2.2
            have m1d := hVd.1.1.2.1
            refine And.intro (rfl) (And.intro (⟨by omega, by omega⟩) ?_)
            intro v155 e155 l155 h155
            have e155 : v155 = σ154 2 6 := e155
            rw [hED] at e155
            intro z156 t156 e156 l156 h156
            try have w156 : t156 = 0 := by omega
            refine And.intro (rfl) (And.intro (⟨by omega, by omega⟩) ?_)
            have hF := hF.pt (t := 2) (j := 6) (v := z156) (by decide) (by decide)
            refine And.intro (rfl) (And.intro (⟨by omega, by omega⟩) ?_)
            intro v158 e158 l158 h158
            have e158 : v158 = σ154 2 7 := e158
            rw [hED] at e158
            refine And.intro (fun c159 => ?_) (fun c159 => ?_)
            · exact lp_439 (-1) (-1) z121 (xvu) (xput σ154 2 6 z156) ⟨hF, (by
                    rw [eMt]
                    unfold noF
                    rw [if_pos (by omega)]
                    show xput σ154 2 6 z156 2 = _
                    rw [xput_up, hED, show z156 = d 6 + 1 from by omega]), (by rw [eR4, if_pos (by omega)]), (by rw [eR5, if_pos (by omega)]), (by
                    rw [eNt]
                    unfold noN
                    rw [if_neg (by omega), show ((a.toNat : Nat) : Int) = a from by omega, hfa, od1, ok1])⟩
            · refine And.intro (rfl) (And.intro (⟨by omega, by omega⟩) ?_)
              have hF := hF.pt (t := 2) (j := 6) (v := 0) (by decide) (by decide)
              have hE6 : (xput (xput σ154 2 6 z156) 2 6 0) 2 = (up d 6 0) := by
                show xput (xput σ154 2 6 z156) 2 6 0 2 = _
                rw [xput_up, xput_up, upx_up, hED]
              have hV6 : VX (up d 6 0) := hVd.t (Or.inr rfl)
              have u1 : (up d 6 0) 1 = d 1 := up_n (by decide)
              have u7 : (up d 6 0) 7 = d 7 := up_n (by decide)
              have u8 : (up d 6 0) 8 = d 8 := up_n (by decide)
              have u2 : (up d 6 0) 2 = d 2 := up_n (by decide)
              have hd2 := drw_F hV6.1 (p := a.toNat) (by omega) (by omega)
              have ho2 := hV6.1.o51 (by omega) (by omega) (by omega) hd2
              have hc8 := hV6.1.c8 (by omega)
              obtain ⟨qd1, qd2⟩ := drawsF_q hV6.1 (p := a.toNat) (by omega) (by omega)
              have qd22 := qd1 2 (by omega)
              refine s_drawsF (σ := (xput (xput σ154 2 6 z156) 2 6 0)) (k := a) (by rw [hE6]; exact hV6.1) (by rw [hE6]; omega) (by rw [hE6]; omega) (fun r161 σ161 f161 p161 => ?_)
              rw [hE6, u8] at p161
              have hF := hF.tr f161 (by decide) (by decide)
              refine And.intro (Nat.le_of_ble_eq_true rfl) ?_
              show xw _ _ _ _ _ _ _ _ _ _ [xvr 0, xvi a, xvi b, xvi kind, xvi lies, xvi told, xvi r1, xvi r2, xvi 1, xvi 0, xvi r161, xvi (-1), xvi z121, xvu] _ _
              have hkr := kn_r (hV6.dc1 (p := a.toNat) (by omega) (by omega) (by omega)).1.1 (p := a.toNat) (k := ((up d 6 0) 8).toNat) (by omega) (by omega)
              unfold seeF at hkr
              rw [up_s, up_n (show 60 + 13 * a.toNat + ((up d 6 0) 8).toNat ≠ 151 + 13 * a.toNat + ((up d 6 0) 8).toNat from by omega)] at hkr
              have lp_419 : ∀ (_ : Unit), (noS d kind.toNat = 0) → X 419 [xvr 0, xvi a, xvi b, xvi kind, xvi lies, xvi told, xvi r1, xvi r2, xvi 1, xvi 0, xvi r161, xvi (-1), xvi z121, xvu] σ161 := by
                intro _ hv_419
                refine hX 400 419 _ _ ?_
                refine s_addsF (σ := σ161) (k := a) (mask := 0) (by omega) (by rw [p161.2]; exact ho2) (fun σ163 f163 p163 => ?_)
                rw [p161.2] at p163
                have hF := hF.tr f163 (by decide) (by decide)
                have lp_425 : ∀ (fr4 : Int) (s4 : xS), (Fr [2] [] σ s4 ∧ s4 2 = (dcM (up d 6 0) a.toNat (noS d kind.toNat)) ∧ fr4 = noN d a.toNat kind.toNat) → X 425 [xvr 0, xvi a, xvi b, xvi kind, xvi lies, xvi told, xvi r1, xvi r2, xvi 1, xvi 0, xvi r161, xvi (-1), xvi fr4, xvu] s4 := by
                  intro fr4 s4 hv_425
                  obtain ⟨hF, hE4, hN4⟩ := hv_425
                  refine hX 400 425 _ _ ?_
                  have hVdm : VX (dcM (up d 6 0) a.toNat (noS d kind.toNat)) := by
                    unfold dcM
                    by_cases c : noS d kind.toNat = 0
                    · rw [if_pos c]; exact (hV6.dc0 (p := a.toNat) (by omega) (by omega) (by omega)).1
                    · rw [if_neg c]; exact (hV6.dc1 (p := a.toNat) (by omega) (by omega) (by omega)).1
                  refine s_booksF (σ := s4) (k := a) (kind := r161) (by omega) (by omega) (by rw [hE4]; exact hVdm) (fun r165 σ165 f165 p165 => ?_)
                  rw [hE4, show r161.toNat = (d 8).toNat from by omega] at p165
                  have eM2 : σ165 2 = (akM (σ 2) a.toNat b.toNat kind.toNat lies) := by
                    rw [eMt, p165.1]
                    unfold noF dcF
                    rw [if_neg (by omega), u8]
                  have hF := hF.tr f165 (by decide) (by decide)
                  refine And.intro (fun c166 => ?_) (fun c166 => ?_)
                  · exact lp_439 r161 (-1) fr4 (xvu) σ165 ⟨hF, eM2, (by rw [eR4, if_neg (by omega)]; omega), (by
                          rw [eR5, if_neg (by omega)]
                          unfold lyF
                          first | (rw [if_pos (by omega)]; done) | (rw [if_neg (by omega)]; omega)), (by rw [eNt]; exact hN4)⟩
                  · refine And.intro (Nat.le_of_ble_eq_true rfl) ?_
                    show xw _ _ _ _ _ _ _ _ _ _ [xvr 0, xvi a, xvi b, xvi kind, xvi lies, xvi told, xvi r1, xvi r2, xvi 1, xvi 0, xvi r161, xvi r161, xvi fr4, xvu] _ _
                    exact lp_439 r161 r161 fr4 (xvu) σ165 ⟨hF, eM2, (by rw [eR4, if_neg (by omega)]; omega), (by
                          rw [eR5, if_neg (by omega)]
                          unfold lyF
                          first | (rw [if_pos (by omega)]; done) | (rw [if_neg (by omega)]; omega)), (by rw [eNt]; exact hN4)⟩
                exact lp_425 z121 σ163 ⟨hF, (by
                      unfold dcM
                      rw [if_pos hv_419]; exact p163), (by
                      unfold noN
                      rw [if_neg (by omega), show ((a.toNat : Nat) : Int) = a from by omega, hfa, od1, ok1])⟩
              have lp_425 : ∀ (fr4 : Int) (s4 : xS), (Fr [2] [] σ s4 ∧ s4 2 = (dcM (up d 6 0) a.toNat (noS d kind.toNat)) ∧ fr4 = noN d a.toNat kind.toNat) → X 425 [xvr 0, xvi a, xvi b, xvi kind, xvi lies, xvi told, xvi r1, xvi r2, xvi 1, xvi 0, xvi r161, xvi (-1), xvi fr4, xvu] s4 := by
                intro fr4 s4 hv_425
                obtain ⟨hF, hE4, hN4⟩ := hv_425
                refine hX 400 425 _ _ ?_
                have hVdm : VX (dcM (up d 6 0) a.toNat (noS d kind.toNat)) := by
                  unfold dcM
                  by_cases c : noS d kind.toNat = 0
                  · rw [if_pos c]; exact (hV6.dc0 (p := a.toNat) (by omega) (by omega) (by omega)).1
                  · rw [if_neg c]; exact (hV6.dc1 (p := a.toNat) (by omega) (by omega) (by omega)).1
                refine s_booksF (σ := s4) (k := a) (kind := r161) (by omega) (by omega) (by rw [hE4]; exact hVdm) (fun r168 σ168 f168 p168 => ?_)
                rw [hE4, show r161.toNat = (d 8).toNat from by omega] at p168
                have eM2 : σ168 2 = (akM (σ 2) a.toNat b.toNat kind.toNat lies) := by
                  rw [eMt, p168.1]
                  unfold noF dcF
                  rw [if_neg (by omega), u8]
                have hF := hF.tr f168 (by decide) (by decide)
                refine And.intro (fun c169 => ?_) (fun c169 => ?_)
                · exact lp_439 r161 (-1) fr4 (xvu) σ168 ⟨hF, eM2, (by rw [eR4, if_neg (by omega)]; omega), (by
                        rw [eR5, if_neg (by omega)]
                        unfold lyF
                        first | (rw [if_pos (by omega)]; done) | (rw [if_neg (by omega)]; omega)), (by rw [eNt]; exact hN4)⟩
                · refine And.intro (Nat.le_of_ble_eq_true rfl) ?_
                  show xw _ _ _ _ _ _ _ _ _ _ [xvr 0, xvi a, xvi b, xvi kind, xvi lies, xvi told, xvi r1, xvi r2, xvi 1, xvi 0, xvi r161, xvi r161, xvi fr4, xvu] _ _
                  exact lp_439 r161 r161 fr4 (xvu) σ168 ⟨hF, eM2, (by rw [eR4, if_neg (by omega)]; omega), (by
                        rw [eR5, if_neg (by omega)]
                        unfold lyF
                        first | (rw [if_pos (by omega)]; done) | (rw [if_neg (by omega)]; omega)), (by rw [eNt]; exact hN4)⟩
              refine And.intro (rfl) (And.intro (⟨by omega, by omega⟩) ?_)
              intro v170 e170 l170 h170
              have e170 : v170 = σ161 2 2 := e170
              rw [p161.2, qd22, u2] at e170
              refine And.intro (fun c171 => ?_) (fun c171 => ?_)
              · exact lp_419 () (by unfold noS; rw [if_neg (by omega)])
              · refine And.intro (fun c172 => ?_) (fun c172 => ?_)
                · exact lp_419 () (by unfold noS; rw [if_neg (by omega)])
                · intro z173 t173 e173 l173 h173
                  try have w173 : t173 = 0 := by omega
                  intro z174 t174 e174 l174 h174
                  try have w174 : t174 = 0 := by omega
                  intro z175 t175 e175 l175 h175
                  try have w175 : t175 = 0 := by omega
                  refine And.intro (rfl) (And.intro (⟨by omega, by omega⟩) ?_)
                  intro v176 e176 l176 h176
                  have e176 : v176 = σ161 2 z175.toNat := e176
                  rw [show z175.toNat = 151 + 13 * a.toNat + ((up d 6 0) 8).toNat from by omega, p161.2] at e176
                  intro z177 t177 e177 l177 h177
                  try have w177 : t177 = 0 := by omega
                  refine And.intro (rfl) (And.intro (⟨by omega, by omega⟩) ?_)
                  have hF := hF.pt (t := 2) (j := z175.toNat) (v := z177) (by decide) (by decide)
                  refine And.intro (Nat.le_of_ble_eq_true rfl) ?_
                  show xw _ _ _ _ _ _ _ _ _ _ [xvr 0, xvi a, xvi b, xvi kind, xvi lies, xvi told, xvi r1, xvi r2, xvi 1, xvi 0, xvi r161, xvi (-1), xvi a, xvu] _ _
                  exact lp_425 a (xput σ161 2 z175.toNat z177) ⟨hF, (by
                        show xput σ161 2 z175.toNat z177 2 = _
                        unfold dcM seeF noS
                        rw [if_pos (show d 2 = 1 ∧ d 8 = ((kind.toNat : Nat) : Int) from ⟨by omega, by omega⟩), if_neg (by decide), xput_up, p161.2, show z175.toNat = 151 + 13 * a.toNat + ((up d 6 0) 8).toNat from by omega, show z177 = drawsF (up d 6 0) a.toNat (151 + 13 * a.toNat + ((up d 6 0) 8).toNat) + 1 from by omega]), (by
                        unfold noN noS
                        rw [if_pos (show ¬ d 7 = 0 ∧ (if d 2 = 1 ∧ d 8 = ((kind.toNat : Nat) : Int) then (1 : Int) else 0) = 1 from ⟨by omega, if_pos ⟨by omega, by omega⟩⟩)]
                        omega)⟩
          · have h51 := hVj.1.o51k (p := b.toNat) (k := kind.toNat) (by omega) (by omega) (by show 1 ≤ dnI (cgF g b.toNat kind.toNat) b.toNat kind.toNat jj (151 + 13 * b.toNat + kind.toNat); omega)
            refine s_addsF (σ := s3) (k := b) (mask := 0) (by omega) (by rw [hE3]; exact h51) (fun σ179 f179 p179 => ?_)
            rw [hE3] at p179
            have hF := hF.tr f179 (by decide) (by decide)
            intro z180 t180 e180 l180 h180
            try have w180 : t180 = 0 := by omega
            intro z181 t181 e181 l181 h181
            try have w181 : t181 = 0 := by omega
            intro z182 t182 e182 l182 h182
            try have w182 : t182 = 0 := by omega
            refine And.intro (rfl) (And.intro (⟨by omega, by omega⟩) ?_)
            intro v183 e183 l183 h183
            have e183 : v183 = σ179 2 z182.toNat := e183
            rw [show z182.toNat = (151 + 13 * b.toNat + kind.toNat) from by omega, p179, addsF_o (by omega) (by omega), dnI_k, ock] at e183
            intro z184 t184 e184 l184 h184
            try have w184 : t184 = 0 := by omega
            refine And.intro (rfl) (And.intro (⟨by omega, by omega⟩) ?_)
            have hF := hF.pt (t := 2) (j := z182.toNat) (v := z184) (by decide) (by decide)
            have hme : (xput σ179 2 z182.toNat z184) 2 (151 + 13 * b.toNat + kind.toNat) = z184 := by
              rw [show z182.toNat = (151 + 13 * b.toNat + kind.toNat) from by omega]
              exact xput_s
            exact ih_290 _ (show ((xput σ179 2 z182.toNat z184) 2 (151 + 13 * b.toNat + kind.toNat)).toNat < m290 from by omega) (xput σ179 2 z182.toNat z184) rfl ⟨hF, jj + 1, by omega, by
                  show xput σ179 2 z182.toNat z184 2 = _
                  rw [xput_up, p179, show z182.toNat = (151 + 13 * b.toNat + kind.toNat) from by omega, show z184 = cgF g b.toNat kind.toNat (151 + 13 * b.toNat + kind.toNat) - (jj : Int) - 1 from by omega]
                  exact dnI_s (by omega)⟩
        intro z186 t186 e186 l186 h186
        try have w186 : t186 = 0 := by omega
        intro z187 t187 e187 l187 h187
        try have w187 : t187 = 0 := by omega
        intro z188 t188 e188 l188 h188
        try have w188 : t188 = 0 := by omega
        refine And.intro (rfl) (And.intro (⟨by omega, by omega⟩) ?_)
        intro v189 e189 l189 h189
        have e189 : v189 = s1 2 z188.toNat := e189
        rw [show z188.toNat = (151 + 13 * b.toNat + kind.toNat) from by omega, hE] at e189
        refine And.intro (fun c190 => ?_) (fun c190 => ?_)
        · exact lp_290 _ s1 rfl ⟨hF, 0, by omega, by rw [dnI_z]; unfold cgF; rw [if_neg (by omega)]; exact hE⟩
        · intro z191 t191 e191 l191 h191
          try have w191 : t191 = 0 := by omega
          refine And.intro (rfl) (And.intro (⟨by omega, by omega⟩) ?_)
          intro v192 e192 l192 h192
          have e192 : v192 = s1 2 z191.toNat := e192
          rw [show z191.toNat = 547 + b.toNat from by omega, hE] at e192
          intro z193 t193 e193 l193 h193
          try have w193 : t193 = 0 := by omega
          refine And.intro (rfl) (And.intro (⟨by omega, by omega⟩) ?_)
          have hF := hF.pt (t := 2) (j := z191.toNat) (v := z193) (by decide) (by decide)
          exact lp_290 _ (xput s1 2 z191.toNat z193) rfl ⟨hF, 0, by omega, by
                rw [dnI_z]
                unfold cgF
                rw [if_pos (by omega)]
                show xput s1 2 z191.toNat z193 2 = _
                rw [xput_up, hE, show z191.toNat = 547 + b.toNat from by omega, show z193 = wr (g (547 + b.toNat) + 1) from by unfold wr; omega]⟩
      intro z195 t195 e195 l195 h195
      try have w195 : t195 = 0 := by omega
      intro z196 t196 e196 l196 h196
      try have w196 : t196 = 0 := by omega
      intro z197 t197 e197 l197 h197
      try have w197 : t197 = 0 := by omega
      refine And.intro (rfl) (And.intro (⟨by omega, by omega⟩) ?_)
      intro v198 e198 l198 h198
      have e198 : v198 = (xput (xput σ 2 5 z123) 2 z125.toNat z127) 2 z197.toNat := e198
      have e105 : v198 = σ 2 (151 + 13 * a.toNat + kind.toNat) := by
        rw [show z197.toNat = (151 + 13 * a.toNat + kind.toNat) from by omega] at e198
        rw [e198]
        show (xput (xput σ 2 5 z123) 2 z125.toNat z127) 2 (151 + 13 * a.toNat + kind.toNat) = _
        rw [hac]; exact oak
      refine And.intro (fun c199 => ?_) (fun c199 => ?_)
      · exact lp_115 (xput (xput σ 2 5 z123) 2 z125.toNat z127) ⟨hF, by unfold ak1F; rw [if_neg (by omega)]; exact hac⟩
      · refine s_learnsF (σ := (xput (xput σ 2 5 z123) 2 z125.toNat z127)) (k := a) (kind := kind) (by omega) hp4 (by rw [hac]; exact hVa.1.w a.toNat (by omega)) (by rw [hac]; exact hVa.2) (by rw [hac, oak]; omega) (fun σ200 f200 p200 => ?_)
        rw [hac] at p200
        have hF := hF.tr f200 (by decide) (by decide)
        exact lp_115 σ200 ⟨hF, by unfold ak1F; rw [if_pos (by omega)]; rw [show ((kind.toNat : Nat) : Int) = kind from by omega]; exact p200⟩

