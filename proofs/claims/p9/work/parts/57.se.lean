/-! A sentence: what its codes leave to be joined, and what waits on the stack. -/
def CC (a b x y : Int) : Prop := (a = 10 ∧ 1 ≤ x ∧ y = x) ∨ ((a = 11 ∨ a = 12) ∧ 2 ≤ x ∧ y = x - 1) ∨ ((0 ≤ a ∧ a ≤ 6) ∧ 0 ≤ x ∧ y = x + 1 ∧ (a = 1 ∨ a = 2 → 0 ≤ b ∧ b ≤ 5))
def CR (rd : Nat → Int) (n D : Int) : Prop := ∃ d : Nat → Int, d 0 = 0 ∧ d n.toNat = D ∧ ∀ i : Nat, (i : Int) < n → CC (rd (3 * i)) (rd (3 * i + 2)) (d i) (d (i + 1))
theorem CR.z {rd : Nat → Int} {n D : Int} (h : n = 0) (h2 : D = 0) : CR rd n D := ⟨fun _ => 0, rfl, h2.symm, fun i hi => by omega⟩
theorem CR.add {rd rd' : Nat → Int} {n m D D' a b : Int} (h : CR rd n D) (hn : 0 ≤ n) (hm : m = n + 1) (hc : CC a b D D') (e0 : rd' (3 * n).toNat = a) (e2 : rd' (3 * n + 2).toNat = b) (s : ∀ i : Nat, (i : Int) < 3 * n → rd' i = rd i) : CR rd' m D' := by
  obtain ⟨d, h0, h1, h2⟩ := h
  refine ⟨up d (n.toNat + 1) D', ?_, ?_, fun i hi => ?_⟩
  · rw [up_n (by omega)]; exact h0
  · rw [show m.toNat = n.toNat + 1 from by omega, up_s]
  · by_cases e : i = n.toNat
    · subst e
      rw [up_n (by omega), up_s, h1, show 3 * n.toNat = (3 * n).toNat from by omega, show (3 * n).toNat + 2 = (3 * n + 2).toNat from by omega, e0, e2]
      exact hc
    · rw [up_n (by omega), up_n (by omega), s _ (by omega), s _ (by omega)]
      exact h2 i (by omega)
theorem CR.eq {rd : Nat → Int} {n m D D' : Int} (h : CR rd n D) (e : m = n) (e2 : D' = D) : CR rd m D' := by rw [e, e2]; exact h
theorem CR.co {rd f : Nat → Int} {n D : Int} (h : CR rd n D) (hn : 0 ≤ n ∧ n ≤ 40) (e : f 584 = n) (s : ∀ i : Nat, (i : Int) < 3 * n → f (585 + i) = rd i) : CO f := by
  obtain ⟨d, h0, h1, h2⟩ := h
  refine ⟨by omega, d, h0, fun i hi => ?_⟩
  rw [s (3 * i) (by omega), show 587 + 3 * i = 585 + (3 * i + 2) from by omega, s (3 * i + 2) (by omega)]
  exact h2 i (by omega)
def bn (st : Nat → Int) (t : Int) : Int := sm t.toNat (fun i => if st i = 11 ∨ st i = 12 then 1 else 0)
theorem bn_nn {st : Nat → Int} {t : Int} : 0 ≤ bn st t := sm_nn (fun i _ => by split <;> omega)
theorem bn_pop {st : Nat → Int} {t u : Int} (ht : 0 < t) (hu : u = t - 1) : bn st t = bn st u + (if st u.toNat = 11 ∨ st u.toNat = 12 then 1 else 0) := by
  unfold bn
  rw [show t.toNat = u.toNat + 1 from by omega]; rfl
theorem bn_popn {st : Nat → Int} {t u : Int} (ht : 0 < t) (hu : u = t - 1) (h : ¬ (st u.toNat = 11 ∨ st u.toNat = 12)) : bn st u = bn st t := by rw [bn_pop ht hu, if_neg h]; omega
theorem bn_popb {st : Nat → Int} {t u : Int} (ht : 0 < t) (hu : u = t - 1) (h : st u.toNat = 11 ∨ st u.toNat = 12) : bn st u = bn st t - 1 := by rw [bn_pop ht hu, if_pos h]; omega
theorem bn_up {st : Nat → Int} {t u v : Int} {j : Nat} (ht : 0 ≤ t) (hu : u = t + 1) (hj : j = t.toNat) : bn (up st j v) u = bn st t + (if v = 11 ∨ v = 12 then 1 else 0) := by
  rw [bn_pop (t := u) (u := t) (by omega) (by omega)]
  subst hj
  rw [up_s]
  unfold bn
  rw [sm_congr (fun i hi => by rw [up_n (by omega)])]
set_option maxHeartbeats 4000000 in
set_option maxRecDepth 100000 in
theorem s_code {σ : xS} {what sign0 n : Int} {Q : Option xV → xS → Prop} (hp0 : 0 ≤ σ 0 56 ∧ σ 0 56 ≤ 44) (hQ : ∀ σ' : xS, Fr [4] [56] σ σ' → (σ' 0 56 = σ 0 56 + 1 ∧ σ' 4 (3 * σ 0 56).toNat = what ∧ σ' 4 (3 * σ 0 56 + 2).toNat = n ∧ (∀ i : Nat, (i : Int) < 3 * σ 0 56 → σ' 4 i = σ 4 i)) → Q none σ') : xT kX11_code [xvr 0, xvi what, xvi sign0, xvi n] σ Q := by
  refine ⟨Nat.le_of_ble_eq_true rfl, fun X hX => ?_⟩
  show X 0 [xvr 0, xvi what, xvi sign0, xvi n] σ
  have hF : Fr [4] [56] σ σ := Fr.rf
  refine hX 400 0 _ _ ?_
  intro v1 e1 l1 h1
  have e1 : v1 = σ 0 56 := e1
  intro z2 t2 e2 l2 h2
  try have w2 : t2 = 0 := by omega
  refine And.intro (rfl) (And.intro (⟨by omega, by omega⟩) ?_)
  have hF := hF.pt (t := 4) (j := z2.toNat) (v := what) (by decide) (by decide)
  intro v4 e4 l4 h4
  have e4 : v4 = σ 0 56 := e4
  intro z5 t5 e5 l5 h5
  try have w5 : t5 = 0 := by omega
  intro z6 t6 e6 l6 h6
  try have w6 : t6 = 0 := by omega
  refine And.intro (rfl) (And.intro (⟨by omega, by omega⟩) ?_)
  have hF := hF.pt (t := 4) (j := z6.toNat) (v := sign0) (by decide) (by decide)
  intro v8 e8 l8 h8
  have e8 : v8 = σ 0 56 := e8
  intro z9 t9 e9 l9 h9
  try have w9 : t9 = 0 := by omega
  intro z10 t10 e10 l10 h10
  try have w10 : t10 = 0 := by omega
  refine And.intro (rfl) (And.intro (⟨by omega, by omega⟩) ?_)
  have hF := hF.pt (t := 4) (j := z10.toNat) (v := n) (by decide) (by decide)
  intro v12 e12 l12 h12
  have e12 : v12 = σ 0 56 := e12
  intro z13 t13 e13 l13 h13
  try have w13 : t13 = 0 := by omega
  have hF := hF.p (j := 56) (v := z13) (by decide)
  refine And.intro rfl (And.intro rfl ?_)
  exact hQ _ hF ⟨(show z13 = σ 0 56 + 1 from by omega), (show xput (xput (xput σ 4 z2.toNat what) 4 z6.toNat sign0) 4 z10.toNat n 4 (3 * σ 0 56).toNat = what from by rw [show (3 * σ 0 56).toNat = z2.toNat from by omega, xput_o (by omega), xput_o (by omega), xput_s]), (show xput (xput (xput σ 4 z2.toNat what) 4 z6.toNat sign0) 4 z10.toNat n 4 (3 * σ 0 56 + 2).toNat = n from by rw [show (3 * σ 0 56 + 2).toNat = z10.toNat from by omega, xput_s]), (fun i hi => show xput (xput (xput σ 4 z2.toNat what) 4 z6.toNat sign0) 4 z10.toNat n 4 i = _ from by rw [xput_o (by omega), xput_o (by omega), xput_o (by omega)])⟩
set_option maxHeartbeats 4000000 in
set_option maxRecDepth 100000 in
theorem s_nots {σ : xS} {Q : Option xV → xS → Prop} (hp0 : CR (σ 4) (σ 0 56) (bn (σ 23) (σ 0 58) + 1)) (hp1 : 0 ≤ σ 0 56 ∧ 0 ≤ σ 0 58 ∧ σ 0 56 + σ 0 58 ≤ 40) (hQ : ∀ σ' : xS, Fr [4] [56, 58, 59] σ σ' → (CR (σ' 4) (σ' 0 56) (bn (σ 23) (σ' 0 58) + 1) ∧ (0 ≤ σ' 0 56 ∧ 0 ≤ σ' 0 58 ∧ σ' 0 56 + σ' 0 58 = σ 0 56 + σ 0 58)) → Q none σ') : xT kX11_nots [xvr 0] σ Q := by
  refine ⟨Nat.le_of_ble_eq_true rfl, fun X hX => ?_⟩
  show X 0 [xvr 0] σ
  have hF : Fr [4] [56, 58, 59] σ σ := Fr.rf
  have lp_0 : ∀ (m0 : Nat) (s1 : xS), ((s1 0 58).toNat) = m0 → (Fr [4] [56, 58, 59] σ s1 ∧ CR (s1 4) (s1 0 56) (bn (σ 23) (s1 0 58) + 1) ∧ (0 ≤ s1 0 56 ∧ 0 ≤ s1 0 58 ∧ s1 0 56 + s1 0 58 = σ 0 56 + σ 0 58)) → X 0 [xvr 0] s1 := by
    intro m0
    induction m0 using Nat.strongRecOn with
    | _ m0 ih_0 =>
    intro s1 hm_0 hv_0
    obtain ⟨hF, hC, hv_0⟩ := hv_0
    have h23 : s1 23 = σ 23 := hF.1 23 (by decide) (by decide)
    refine hX 400 0 _ _ ?_
    intro v2 e2 l2 h2
    have e2 : v2 = s1 0 58 := e2
    refine And.intro (fun c3 => ?_) (fun c3 => ?_)
    · refine hX 400 54 _ _ ?_
      refine And.intro rfl (And.intro rfl ?_)
      exact hQ _ hF ⟨hC, hv_0⟩
    · intro v4 e4 l4 h4
      have e4 : v4 = s1 0 58 := e4
      intro z5 t5 e5 l5 h5
      try have w5 : t5 = 0 := by omega
      refine And.intro (rfl) (And.intro (⟨by omega, by omega⟩) ?_)
      intro v6 e6 l6 h6
      have e6 : v6 = s1 23 z5.toNat := e6
      have xv6 : v6 = σ 23 z5.toNat := by rw [e6, h23]
      refine And.intro (fun c7 => ?_) (fun c7 => ?_)
      · refine hX 400 54 _ _ ?_
        refine And.intro rfl (And.intro rfl ?_)
        exact hQ _ hF ⟨hC, hv_0⟩
      · intro v8 e8 l8 h8
        have e8 : v8 = s1 0 58 := e8
        intro z9 t9 e9 l9 h9
        try have w9 : t9 = 0 := by omega
        have hF := hF.p (j := 58) (v := z9) (by decide)
        intro v11 e11 l11 h11
        have e11 : v11 = s1 0 59 := e11
        intro z12 t12 e12 l12 h12
        try have w12 : t12 = 0 := by omega
        have hF := hF.p (j := 59) (v := z12) (by decide)
        refine s_code (σ := (xput (xput s1 0 58 z9) 0 59 z12)) (what := 10) (sign0 := 0) (n := 0) (show 0 ≤ s1 0 56 ∧ s1 0 56 ≤ 44 from by omega) (fun σ14 f14 p14 => ?_)
        have hF := hF.tr f14 (by decide) (by decide)
        have kt23_14 : σ14 23 = s1 23 := f14.1 23 (by decide) (by decide)
        have kf57_14 : σ14 0 57 = s1 0 57 := f14.2 57 (by decide)
        have kf58_14 : σ14 0 58 = z9 := f14.2 58 (by decide)
        have kf60_14 : σ14 0 60 = s1 0 60 := f14.2 60 (by decide)
        have kf11_14 : σ14 0 11 = s1 0 11 := f14.2 11 (by decide)
        have kf4_14 : σ14 0 4 = s1 0 4 := f14.2 4 (by decide)
        have kf3_14 : σ14 0 3 = s1 0 3 := f14.2 3 (by decide)
        have kf14_14 : σ14 0 14 = s1 0 14 := f14.2 14 (by decide)
        have c14 : σ14 0 56 = s1 0 56 + 1 := p14.1
        have hC : CR (σ14 4) (σ14 0 56) (bn (σ 23) (s1 0 58) + 1) := hC.add (by omega) c14 (Or.inl ⟨by omega, by have := bn_nn (st := σ 23) (t := s1 0 58); omega, rfl⟩) p14.2.1 p14.2.2.1 p14.2.2.2
        exact ih_0 _ (show ((σ14 0 58)).toNat < m0 from by omega) σ14 rfl ⟨hF, hC.eq rfl (by rw [kf58_14, bn_popn (t := s1 0 58) (u := z9) (by omega) (by omega) (by rw [show (z9).toNat = z5.toNat from by omega]; omega)]), by omega⟩
  exact lp_0 _ σ rfl ⟨hF, hp0, by omega⟩
set_option maxHeartbeats 4000000 in
set_option maxRecDepth 100000 in
theorem s_joins {σ : xS} {till : Int} {Q : Option xV → xS → Prop} (hp0 : CR (σ 4) (σ 0 56) (bn (σ 23) (σ 0 58) + 1)) (hp1 : 0 ≤ σ 0 56 ∧ 0 ≤ σ 0 58 ∧ σ 0 56 + σ 0 58 ≤ 40) (hQ : ∀ σ' : xS, Fr [4] [56, 58, 59] σ σ' → (CR (σ' 4) (σ' 0 56) (bn (σ 23) (σ' 0 58) + 1) ∧ (0 ≤ σ' 0 56 ∧ 0 ≤ σ' 0 58 ∧ σ' 0 56 + σ' 0 58 = σ 0 56 + σ 0 58) ∧ (till = 12 → σ' 0 58 = 0 ∨ ¬ (σ 23 (σ' 0 58 - 1).toNat = 11 ∨ σ 23 (σ' 0 58 - 1).toNat = 12))) → Q none σ') : xT kX11_joins [xvr 0, xvi till] σ Q := by
  refine ⟨Nat.le_of_ble_eq_true rfl, fun X hX => ?_⟩
  show X 0 [xvr 0, xvi till] σ
  have hF : Fr [4] [56, 58, 59] σ σ := Fr.rf
  have lp_0 : ∀ (m0 : Nat) (s1 : xS), ((s1 0 58).toNat) = m0 → (Fr [4] [56, 58, 59] σ s1 ∧ CR (s1 4) (s1 0 56) (bn (σ 23) (s1 0 58) + 1) ∧ (0 ≤ s1 0 56 ∧ 0 ≤ s1 0 58 ∧ s1 0 56 + s1 0 58 = σ 0 56 + σ 0 58)) → X 0 [xvr 0, xvi till] s1 := by
    intro m0
    induction m0 using Nat.strongRecOn with
    | _ m0 ih_0 =>
    intro s1 hm_0 hv_0
    obtain ⟨hF, hC, hv_0⟩ := hv_0
    have h23 : s1 23 = σ 23 := hF.1 23 (by decide) (by decide)
    refine hX 400 0 _ _ ?_
    have lp_73 : ∀ (_ : Unit), (till = 12 → s1 0 58 = 0 ∨ ¬ (σ 23 (s1 0 58 - 1).toNat = 11 ∨ σ 23 (s1 0 58 - 1).toNat = 12)) → X 73 [xvr 0, xvi till] s1 := by
      intro _ hv_73
      refine hX 400 73 _ _ ?_
      refine And.intro rfl (And.intro rfl ?_)
      exact hQ _ hF ⟨hC, hv_0, hv_73⟩
    intro v3 e3 l3 h3
    have e3 : v3 = s1 0 58 := e3
    refine And.intro (fun c4 => ?_) (fun c4 => ?_)
    · exact lp_73 () (fun ht => Or.inl (by omega))
    · have lp_45 : ∀ (_ : Unit), (σ 23 (s1 0 58 - 1).toNat = 11 ∨ σ 23 (s1 0 58 - 1).toNat = 12) → X 45 [xvr 0, xvi till] s1 := by
        intro _ hv_45
        refine hX 400 45 _ _ ?_
        intro v6 e6 l6 h6
        have e6 : v6 = s1 0 58 := e6
        intro z7 t7 e7 l7 h7
        try have w7 : t7 = 0 := by omega
        have hF := hF.p (j := 58) (v := z7) (by decide)
        intro v9 e9 l9 h9
        have e9 : v9 = z7 := e9
        refine And.intro (rfl) (And.intro (⟨by omega, by omega⟩) ?_)
        intro v10 e10 l10 h10
        have e10 : v10 = s1 23 v9.toNat := e10
        have xv10 : v10 = σ 23 v9.toNat := by rw [e10, h23]
        have hb : σ 23 (z7).toNat = 11 ∨ σ 23 (z7).toNat = 12 := by
          rw [show (z7).toNat = (s1 0 58 - 1).toNat from by omega]; exact hv_45
        have hb2 : v10 = 11 ∨ v10 = 12 := by rw [xv10, show v9.toNat = (z7).toNat from by omega]; exact hb
        refine s_code (σ := (xput s1 0 58 z7)) (what := v10) (sign0 := 0) (n := 0) (show 0 ≤ s1 0 56 ∧ s1 0 56 ≤ 44 from by omega) (fun σ11 f11 p11 => ?_)
        have hF := hF.tr f11 (by decide) (by decide)
        have kt23_11 : σ11 23 = s1 23 := f11.1 23 (by decide) (by decide)
        have kf57_11 : σ11 0 57 = s1 0 57 := f11.2 57 (by decide)
        have kf58_11 : σ11 0 58 = z7 := f11.2 58 (by decide)
        have kf60_11 : σ11 0 60 = s1 0 60 := f11.2 60 (by decide)
        have kf11_11 : σ11 0 11 = s1 0 11 := f11.2 11 (by decide)
        have kf4_11 : σ11 0 4 = s1 0 4 := f11.2 4 (by decide)
        have kf3_11 : σ11 0 3 = s1 0 3 := f11.2 3 (by decide)
        have kf14_11 : σ11 0 14 = s1 0 14 := f11.2 14 (by decide)
        have c11 : σ11 0 56 = s1 0 56 + 1 := p11.1
        have hC : CR (σ11 4) (σ11 0 56) (bn (σ 23) (s1 0 58) + 1 - 1) := hC.add (by omega) c11 (Or.inr (Or.inl ⟨by omega, by have := bn_nn (st := σ 23) (t := z7); have := bn_popb (st := σ 23) (t := s1 0 58) (u := z7) (by omega) (by omega) hb; omega, rfl⟩)) p11.2.1 p11.2.2.1 p11.2.2.2
        exact ih_0 _ (show ((σ11 0 58)).toNat < m0 from by omega) σ11 rfl ⟨hF, hC.eq rfl (by rw [kf58_11, bn_popb (t := s1 0 58) (by omega) (by omega) hb]; omega), by omega⟩
      intro v12 e12 l12 h12
      have e12 : v12 = s1 0 58 := e12
      intro z13 t13 e13 l13 h13
      try have w13 : t13 = 0 := by omega
      refine And.intro (rfl) (And.intro (⟨by omega, by omega⟩) ?_)
      intro v14 e14 l14 h14
      have e14 : v14 = s1 23 z13.toNat := e14
      have xv14 : v14 = σ 23 z13.toNat := by rw [e14, h23]
      refine And.intro (fun c15 => ?_) (fun c15 => ?_)
      · exact lp_45 () (by rw [show (s1 0 58 - 1).toNat = z13.toNat from by omega]; omega)
      · intro v16 e16 l16 h16
        have e16 : v16 = s1 0 58 := e16
        intro z17 t17 e17 l17 h17
        try have w17 : t17 = 0 := by omega
        refine And.intro (rfl) (And.intro (⟨by omega, by omega⟩) ?_)
        intro v18 e18 l18 h18
        have e18 : v18 = s1 23 z17.toNat := e18
        have xv18 : v18 = σ 23 z17.toNat := by rw [e18, h23]
        have yv18 : v18 = v14 := by rw [xv18, xv14, show z17 = z13 from by omega]
        refine And.intro (fun c19 => ?_) (fun c19 => ?_)
        · exact lp_73 () (fun ht => by
                by_cases c : s1 0 58 ≤ 0
                · exact Or.inl (by omega)
                · refine Or.inr ?_
                  rw [show (s1 0 58 - 1).toNat = z17.toNat from by omega]; omega)
        · refine And.intro (fun c20 => ?_) (fun c20 => ?_)
          · exact lp_73 () (fun ht => by
                  by_cases c : s1 0 58 ≤ 0
                  · exact Or.inl (by omega)
                  · refine Or.inr ?_
                    rw [show (s1 0 58 - 1).toNat = z17.toNat from by omega]; omega)
          · exact lp_45 () (by rw [show (s1 0 58 - 1).toNat = z17.toNat from by omega]; omega)
  exact lp_0 _ σ rfl ⟨hF, hp0, by omega⟩
set_option maxHeartbeats 4000000 in
set_option maxRecDepth 100000 in
theorem s_leafOf {σ : xS} {Q : Option xV → xS → Prop} (hQ : ∀ r : Int, (-1 ≤ r ∧ r ≤ 6 ∧ (0 ≤ r → σ 0 11 = 1)) → Q (some (xvi r)) σ) : xT kX11_leafOf [xvr 0] σ Q := by
  refine ⟨Nat.le_of_ble_eq_true rfl, fun X hX => ?_⟩
  show X 0 [xvr 0] σ
  refine hX 400 0 _ _ ?_
  refine s_isWord (σ := σ) (w := 1651470187)  (fun r1 p1 => ?_)
  have p1 : (r1 = 1 ∧ (σ 0 11) = 1) ∨ (r1 = 0 ∧ (0 : Int) ≤ 0) := p1
  refine And.intro (fun c2 => ?_) (fun c2 => ?_)
  · replace p1 : (0 : Int) ≤ 0 := by
      rcases p1 with q | q
      · exact absurd q.1 (by omega)
      · exact q.2
    refine s_isWord (σ := σ) (w := 461414299502)  (fun r3 p3 => ?_)
    have p3 : (r3 = 1 ∧ (σ 0 11) = 1) ∨ (r3 = 0 ∧ (0 : Int) ≤ 0) := p3
    refine And.intro (fun c4 => ?_) (fun c4 => ?_)
    · replace p3 : (0 : Int) ≤ 0 := by
        rcases p3 with q | q
        · exact absurd q.1 (by omega)
        · exact q.2
      refine s_isWord (σ := σ) (w := 1751477348)  (fun r5 p5 => ?_)
      have p5 : (r5 = 1 ∧ (σ 0 11) = 1) ∨ (r5 = 0 ∧ (0 : Int) ≤ 0) := p5
      refine And.intro (fun c6 => ?_) (fun c6 => ?_)
      · replace p5 : (0 : Int) ≤ 0 := by
          rcases p5 with q | q
          · exact absurd q.1 (by omega)
          · exact q.2
        refine s_isWord (σ := σ) (w := 448311223411)  (fun r7 p7 => ?_)
        have p7 : (r7 = 1 ∧ (σ 0 11) = 1) ∨ (r7 = 0 ∧ (0 : Int) ≤ 0) := p7
        refine And.intro (fun c8 => ?_) (fun c8 => ?_)
        · replace p7 : (0 : Int) ≤ 0 := by
            rcases p7 with q | q
            · exact absurd q.1 (by omega)
            · exact q.2
          refine s_isWord (σ := σ) (w := 114784635741540)  (fun r9 p9 => ?_)
          have p9 : (r9 = 1 ∧ (σ 0 11) = 1) ∨ (r9 = 0 ∧ (0 : Int) ≤ 0) := p9
          refine And.intro (fun c10 => ?_) (fun c10 => ?_)
          · replace p9 : (0 : Int) ≤ 0 := by
              rcases p9 with q | q
              · exact absurd q.1 (by omega)
              · exact q.2
            refine s_isWord (σ := σ) (w := 1836020596)  (fun r11 p11 => ?_)
            have p11 : (r11 = 1 ∧ (σ 0 11) = 1) ∨ (r11 = 0 ∧ (0 : Int) ≤ 0) := p11
            refine And.intro (fun c12 => ?_) (fun c12 => ?_)
            · replace p11 : (0 : Int) ≤ 0 := by
                rcases p11 with q | q
                · exact absurd q.1 (by omega)
                · exact q.2
              refine s_isWord (σ := σ) (w := 482854658917)  (fun r13 p13 => ?_)
              have p13 : (r13 = 1 ∧ (σ 0 11) = 1) ∨ (r13 = 0 ∧ (0 : Int) ≤ 0) := p13
              refine And.intro (fun c14 => ?_) (fun c14 => ?_)
              · replace p13 : (0 : Int) ≤ 0 := by
                  rcases p13 with q | q
                  · exact absurd q.1 (by omega)
                  · exact q.2
                refine And.intro rfl ?_
                exact hQ _ (show -1 ≤ (-1) ∧ (-1) ≤ 6 ∧ (0 ≤ (-1) → σ 0 11 = 1) from by first | trivial | omega)
              · replace p13 : (σ 0 11) = 1 := by
                  rcases p13 with q | q
                  · exact q.2
                  · exact absurd q.1 (by omega)
                refine And.intro rfl ?_
                exact hQ _ (show -1 ≤ 6 ∧ 6 ≤ 6 ∧ (0 ≤ 6 → σ 0 11 = 1) from by first | trivial | omega)
            · replace p11 : (σ 0 11) = 1 := by
                rcases p11 with q | q
                · exact q.2
                · exact absurd q.1 (by omega)
              refine And.intro rfl ?_
              exact hQ _ (show -1 ≤ 5 ∧ 5 ≤ 6 ∧ (0 ≤ 5 → σ 0 11 = 1) from by first | trivial | omega)
          · replace p9 : (σ 0 11) = 1 := by
              rcases p9 with q | q
              · exact q.2
              · exact absurd q.1 (by omega)
            refine And.intro rfl ?_
            exact hQ _ (show -1 ≤ 4 ∧ 4 ≤ 6 ∧ (0 ≤ 4 → σ 0 11 = 1) from by first | trivial | omega)
        · replace p7 : (σ 0 11) = 1 := by
            rcases p7 with q | q
            · exact q.2
            · exact absurd q.1 (by omega)
          refine And.intro rfl ?_
          exact hQ _ (show -1 ≤ 3 ∧ 3 ≤ 6 ∧ (0 ≤ 3 → σ 0 11 = 1) from by first | trivial | omega)
      · replace p5 : (σ 0 11) = 1 := by
          rcases p5 with q | q
          · exact q.2
          · exact absurd q.1 (by omega)
        refine And.intro rfl ?_
        exact hQ _ (show -1 ≤ 2 ∧ 2 ≤ 6 ∧ (0 ≤ 2 → σ 0 11 = 1) from by first | trivial | omega)
    · replace p3 : (σ 0 11) = 1 := by
        rcases p3 with q | q
        · exact q.2
        · exact absurd q.1 (by omega)
      refine And.intro rfl ?_
      exact hQ _ (show -1 ≤ 1 ∧ 1 ≤ 6 ∧ (0 ≤ 1 → σ 0 11 = 1) from by first | trivial | omega)
  · replace p1 : (σ 0 11) = 1 := by
      rcases p1 with q | q
      · exact q.2
      · exact absurd q.1 (by omega)
    refine And.intro rfl ?_
    exact hQ _ (show -1 ≤ 0 ∧ 0 ≤ 6 ∧ (0 ≤ 0 → σ 0 11 = 1) from by first | trivial | omega)
set_option maxHeartbeats 4000000 in
set_option maxRecDepth 100000 in
theorem s_operand {σ : xS} {Q : Option xV → xS → Prop} (hp0 : 0 ≤ σ 0 4 ∧ σ 0 4 ≤ σ 0 3 ∧ σ 0 3 ≤ 940) (hp1 : 0 ≤ σ 2 1 ∧ σ 2 1 ≤ 6) (hp2 : CR (σ 4) (σ 0 56) (bn (σ 23) (σ 0 58) + σ 0 60)) (hp3 : (σ 0 60 = 0 ∨ σ 0 60 = 1) ∧ 0 ≤ σ 0 56 ∧ 0 ≤ σ 0 58 ∧ σ 0 56 + σ 0 58 ≤ 2 * σ 0 57 - σ 0 60 ∧ 0 ≤ σ 0 57 ∧ σ 0 57 ≤ 20) (hp4 : σ 0 60 = 0) (hQ : ∀ r : Int, ∀ σ' : xS, Fr [4, 23] [4, 11, 12, 13, 14, 15, 16, 17, 56, 57, 58, 59, 60] σ σ' → ((r = 1 ∧ CR (σ' 4) (σ' 0 56) (bn (σ' 23) (σ' 0 58) + σ' 0 60) ∧ ((σ' 0 60 = 0 ∨ σ' 0 60 = 1) ∧ 0 ≤ σ' 0 56 ∧ 0 ≤ σ' 0 58 ∧ σ' 0 56 + σ' 0 58 ≤ 2 * σ' 0 57 - σ' 0 60 ∧ 0 ≤ σ' 0 57 ∧ σ' 0 57 ≤ 20) ∧ σ' 0 3 = σ 0 3 ∧ σ 0 4 ≤ σ' 0 4 ∧ σ' 0 4 ≤ σ' 0 3 ∧ (1 ≤ σ' 0 11 ∧ σ' 0 11 ≤ 3 → σ 0 4 < σ' 0 4) ∧ (1 ≤ σ 0 11 ∧ σ 0 11 ≤ 3)) ∨ r = 0) → Q (some (xvi r)) σ') : xT kX11_operand [xvr 0] σ Q := by
  refine ⟨Nat.le_of_ble_eq_true rfl, fun X hX => ?_⟩
  show X 0 [xvr 0, xvu, xvu, xvu, xvu] σ
  have hF : Fr [4, 23] [4, 11, 12, 13, 14, 15, 16, 17, 56, 57, 58, 59, 60] σ σ := Fr.rf
  refine hX 400 0 _ _ ?_
  have hC : CR (σ 4) (σ 0 56) (bn (σ 23) (σ 0 58) + 0) := hp2.eq rfl (by omega)
  refine s_isWord (σ := σ) (w := 7237492)  (fun r1 p1 => ?_)
  have p1 : (r1 = 1 ∧ (σ 0 11) = 1) ∨ (r1 = 0 ∧ (0 : Int) ≤ 0) := p1
  refine And.intro (Nat.le_of_ble_eq_true rfl) ?_
  show xw _ _ _ _ _ _ _ _ _ _ [xvr 0, xvi r1, xvu, xvu, xvu] _ _
  refine s_isSign (σ := σ) (c := 40)  (fun r2 p2 => ?_)
  have p2 : (r2 = 1 ∧ (σ 0 11) = 3 ∧ (σ 0 14) = 40) ∨ (r2 = 0 ∧ (0 : Int) ≤ 0) := p2
  refine And.intro (Nat.le_of_ble_eq_true rfl) ?_
  show xw _ _ _ _ _ _ _ _ _ _ [xvr 0, xvi r1, xvi r2, xvu, xvu] _ _
  refine s_leafOf (σ := σ)   (fun r3 p3 => ?_)
  have p3 : -1 ≤ r3 ∧ r3 ≤ 6 ∧ (0 ≤ r3 → (σ 0 11) = 1) := p3
  refine And.intro (Nat.le_of_ble_eq_true rfl) ?_
  show xw _ _ _ _ _ _ _ _ _ _ [xvr 0, xvi r1, xvi r2, xvi r3, xvu] _ _
  have lp_38 : ∀ (_ : Unit), (1 ≤ σ 0 11 ∧ σ 0 11 ≤ 3 ∧ (r1 = 0 → r2 = 0 → 0 ≤ r3)) → X 38 [xvr 0, xvi r1, xvi r2, xvi r3, xvu] σ := by
    intro _ hv_38
    refine hX 400 38 _ _ ?_
    intro v5 e5 l5 h5
    have e5 : v5 = σ 0 57 := e5
    refine And.intro (fun c6 => ?_) (fun c6 => ?_)
    · refine hX 400 56 _ _ ?_
      refine s_badF (σ := σ) (kind := 4) (fun r7 σ7 f7 p7 => ?_)
      have p7 : r7 = 0 := p7
      have hF := hF.tr f7 (by decide) (by decide)
      refine And.intro rfl ?_
      refine And.intro (by omega) ?_
      exact hQ _ _ hF (Or.inr (by omega))
    · intro v8 e8 l8 h8
      have e8 : v8 = σ 0 59 := e8
      refine And.intro (fun c9 => ?_) (fun c9 => ?_)
      · intro v10 e10 l10 h10
        have e10 : v10 = σ 0 57 := e10
        intro z11 t11 e11 l11 h11
        try have w11 : t11 = 0 := by omega
        have hF := hF.p (j := 57) (v := z11) (by decide)
        refine s_next (σ := (xput σ 0 57 z11))  (show 0 ≤ σ 0 4 ∧ σ 0 4 ≤ σ 0 3 ∧ σ 0 3 ≤ 940 from by omega) (fun σ13 f13 p13 => ?_)
        have p13 : σ13 0 3 = (σ 0 3) ∧ (σ 0 4) ≤ σ13 0 4 ∧ σ13 0 4 ≤ σ13 0 3 ∧ (0 ≤ σ13 0 11 ∧ σ13 0 11 ≤ 4) ∧ (1 ≤ σ13 0 11 ∧ σ13 0 11 ≤ 3 → (σ 0 4) < σ13 0 4 ∧ 0 ≤ σ13 0 14) := p13
        have hF := hF.tr f13 (by decide) (by decide)
        have kt2_13 : σ13 2 = σ 2 := f13.1 2 (by decide) (by decide)
        have kt4_13 : σ13 4 = σ 4 := f13.1 4 (by decide) (by decide)
        have kt23_13 : σ13 23 = σ 23 := f13.1 23 (by decide) (by decide)
        have kp2_1_13 : σ13 2 1 = σ 2 1 := congrFun kt2_13 1
        have kf56_13 : σ13 0 56 = σ 0 56 := f13.2 56 (by decide)
        have kf57_13 : σ13 0 57 = z11 := f13.2 57 (by decide)
        have kf58_13 : σ13 0 58 = σ 0 58 := f13.2 58 (by decide)
        have kf60_13 : σ13 0 60 = σ 0 60 := f13.2 60 (by decide)
        have hC : CR (σ13 4) (σ13 0 56) (bn (σ13 23) (σ13 0 58) + 0) := by rw [kt4_13, kt23_13, kf56_13, kf58_13]; exact hC
        have lp_84 : ∀ (_ : Unit), (True) → X 84 [xvr 0, xvi r1, xvi r2, xvi r3, xvu] σ13 := by
          intro _ hv_84
          refine hX 400 84 _ _ ?_
          intro v15 e15 l15 h15
          have e15 : v15 = σ13 0 58 := e15
          refine And.intro (fun c16 => ?_) (fun c16 => ?_)
          · replace p1 : (0 : Int) ≤ 0 := by
              rcases p1 with q | q
              · exact absurd q.1 (by omega)
              · exact q.2
            refine And.intro (rfl) (And.intro (⟨by omega, by omega⟩) ?_)
            have hF := hF.pt (t := 23) (j := v15.toNat) (v := 13) (by decide) (by decide)
            intro v18 e18 l18 h18
            have e18 : v18 = σ13 0 58 := e18
            intro z19 t19 e19 l19 h19
            try have w19 : t19 = 0 := by omega
            have hF := hF.p (j := 58) (v := z19) (by decide)
            intro v21 e21 l21 h21
            have e21 : v21 = σ13 0 59 := e21
            intro z22 t22 e22 l22 h22
            try have w22 : t22 = 0 := by omega
            have hF := hF.p (j := 59) (v := z22) (by decide)
            refine And.intro rfl ?_
            refine And.intro (by omega) ?_
            exact hQ _ _ hF (Or.inl ⟨by omega, (show CR (σ13 4) (σ13 0 56) (bn (xput σ13 23 v15.toNat 13 23) z19 + σ13 0 60) from by rw [xput_up, bn_up (t := σ13 0 58) (by omega) (by omega) (by omega), if_neg (by decide)]; exact hC.eq rfl (by omega)), (show (σ13 0 60 = 0 ∨ σ13 0 60 = 1) ∧ 0 ≤ σ13 0 56 ∧ 0 ≤ z19 ∧ σ13 0 56 + z19 ≤ 2 * σ13 0 57 - σ13 0 60 ∧ 0 ≤ σ13 0 57 ∧ σ13 0 57 ≤ 20 from by omega), (show (σ13 0 3) = σ 0 3 ∧ σ 0 4 ≤ (σ13 0 4) ∧ (σ13 0 4) ≤ (σ13 0 3) ∧ (1 ≤ (σ13 0 11) ∧ (σ13 0 11) ≤ 3 → σ 0 4 < (σ13 0 4)) ∧ (1 ≤ σ 0 11 ∧ σ 0 11 ≤ 3) from by omega)⟩)
          · replace p1 : (σ 0 11) = 1 := by
              rcases p1 with q | q
              · exact q.2
              · exact absurd q.1 (by omega)
            refine And.intro (rfl) (And.intro (⟨by omega, by omega⟩) ?_)
            have hF := hF.pt (t := 23) (j := v15.toNat) (v := 10) (by decide) (by decide)
            intro v25 e25 l25 h25
            have e25 : v25 = σ13 0 58 := e25
            intro z26 t26 e26 l26 h26
            try have w26 : t26 = 0 := by omega
            have hF := hF.p (j := 58) (v := z26) (by decide)
            intro v28 e28 l28 h28
            have e28 : v28 = σ13 0 59 := e28
            intro z29 t29 e29 l29 h29
            try have w29 : t29 = 0 := by omega
            have hF := hF.p (j := 59) (v := z29) (by decide)
            refine And.intro rfl ?_
            refine And.intro (by omega) ?_
            exact hQ _ _ hF (Or.inl ⟨by omega, (show CR (σ13 4) (σ13 0 56) (bn (xput σ13 23 v15.toNat 10 23) z26 + σ13 0 60) from by rw [xput_up, bn_up (t := σ13 0 58) (by omega) (by omega) (by omega), if_neg (by decide)]; exact hC.eq rfl (by omega)), (show (σ13 0 60 = 0 ∨ σ13 0 60 = 1) ∧ 0 ≤ σ13 0 56 ∧ 0 ≤ z26 ∧ σ13 0 56 + z26 ≤ 2 * σ13 0 57 - σ13 0 60 ∧ 0 ≤ σ13 0 57 ∧ σ13 0 57 ≤ 20 from by omega), (show (σ13 0 3) = σ 0 3 ∧ σ 0 4 ≤ (σ13 0 4) ∧ (σ13 0 4) ≤ (σ13 0 3) ∧ (1 ≤ (σ13 0 11) ∧ (σ13 0 11) ≤ 3 → σ 0 4 < (σ13 0 4)) ∧ (1 ≤ σ 0 11 ∧ σ 0 11 ≤ 3) from by omega)⟩)
        refine And.intro (fun c31 => ?_) (fun c31 => ?_)
        · replace p1 : (σ 0 11) = 1 := by
            rcases p1 with q | q
            · exact q.2
            · exact absurd q.1 (by omega)
          exact lp_84 () (show True from by first | trivial | omega | (refine ⟨by assumption, ?_⟩; omega) | (refine ⟨?_, ?_⟩ <;> omega))
        · replace p1 : (0 : Int) ≤ 0 := by
            rcases p1 with q | q
            · exact absurd q.1 (by omega)
            · exact q.2
          refine And.intro (fun c32 => ?_) (fun c32 => ?_)
          · replace p2 : (0 : Int) ≤ 0 := by
              rcases p2 with q | q
              · exact absurd q.1 (by omega)
              · exact q.2
            refine And.intro (by omega) ?_
            have hF := hF.p (j := 60) (v := 1) (by decide)
            refine And.intro (fun c34 => ?_) (fun c34 => ?_)
            · refine And.intro (fun c35 => ?_) (fun c35 => ?_)
              · have lp_226 : ∀ (_ : Unit), (True) → X 226 [xvr 0, xvi r1, xvi r2, xvi r3, xvu] (xput σ13 0 60 1) := by
                  intro _ hv_226
                  refine hX 400 226 _ _ ?_
                  refine s_badF (σ := (xput σ13 0 60 1)) (kind := 1) (fun r37 σ37 f37 p37 => ?_)
                  have p37 : r37 = 0 := p37
                  have hF := hF.tr f37 (by decide) (by decide)
                  refine And.intro rfl ?_
                  refine And.intro (by omega) ?_
                  exact hQ _ _ hF (Or.inr (by omega))
                intro v38 e38 l38 h38
                have e38 : v38 = σ13 0 11 := e38
                refine And.intro (fun c39 => ?_) (fun c39 => ?_)
                · exact lp_226 () (show True from by first | trivial | omega | (refine ⟨by assumption, ?_⟩; omega) | (refine ⟨?_, ?_⟩ <;> omega))
                · intro v40 e40 l40 h40
                  have e40 : v40 = σ13 0 14 := e40
                  refine And.intro (fun c41 => ?_) (fun c41 => ?_)
                  · exact lp_226 () (show True from by first | trivial | omega | (refine ⟨by assumption, ?_⟩; omega) | (refine ⟨?_, ?_⟩ <;> omega))
                  · intro v42 e42 l42 h42
                    have e42 : v42 = σ13 0 14 := e42
                    refine And.intro (fun c43 => ?_) (fun c43 => ?_)
                    · intro v44 e44 l44 h44
                      have e44 : v44 = σ13 0 14 := e44
                      refine And.intro (Nat.le_of_ble_eq_true rfl) ?_
                      show xw _ _ _ _ _ _ _ _ _ _ [xvr 0, xvi r1, xvi r2, xvi r3, xvi v44] _ _
                      refine s_next (σ := (xput σ13 0 60 1))  (show 0 ≤ σ13 0 4 ∧ σ13 0 4 ≤ σ13 0 3 ∧ σ13 0 3 ≤ 940 from by omega) (fun σ45 f45 p45 => ?_)
                      have p45 : σ45 0 3 = (σ13 0 3) ∧ (σ13 0 4) ≤ σ45 0 4 ∧ σ45 0 4 ≤ σ45 0 3 ∧ (0 ≤ σ45 0 11 ∧ σ45 0 11 ≤ 4) ∧ (1 ≤ σ45 0 11 ∧ σ45 0 11 ≤ 3 → (σ13 0 4) < σ45 0 4 ∧ 0 ≤ σ45 0 14) := p45
                      have hF := hF.tr f45 (by decide) (by decide)
                      have kt2_45 : σ45 2 = σ13 2 := f45.1 2 (by decide) (by decide)
                      have kt4_45 : σ45 4 = σ13 4 := f45.1 4 (by decide) (by decide)
                      have kt23_45 : σ45 23 = σ13 23 := f45.1 23 (by decide) (by decide)
                      have kp2_1_45 : σ45 2 1 = σ13 2 1 := congrFun kt2_45 1
                      have kf56_45 : σ45 0 56 = σ13 0 56 := f45.2 56 (by decide)
                      have kf57_45 : σ45 0 57 = σ13 0 57 := f45.2 57 (by decide)
                      have kf58_45 : σ45 0 58 = σ13 0 58 := f45.2 58 (by decide)
                      have kf60_45 : σ45 0 60 = 1 := f45.2 60 (by decide)
                      have hC : CR (σ45 4) (σ45 0 56) (bn (σ45 23) (σ45 0 58) + 0) := by rw [kt4_45, kt23_45, kf56_45, kf58_45]; exact hC
                      intro v46 e46 l46 h46
                      have e46 : v46 = σ45 0 11 := e46
                      refine And.intro (fun c47 => ?_) (fun c47 => ?_)
                      · intro v48 e48 l48 h48
                        have e48 : v48 = σ45 0 14 := e48
                        have hC0 : CR (σ45 4) (σ45 0 56) (bn (σ45 23) (σ45 0 58) + 0) := hC
                        refine s_code (σ := σ45) (what := r3) (sign0 := v44) (n := v48) (show 0 ≤ σ45 0 56 ∧ σ45 0 56 ≤ 44 from by omega) (fun σ49 f49 p49 => ?_)
                        have hF := hF.tr f49 (by decide) (by decide)
                        have kt2_49 : σ49 2 = σ45 2 := f49.1 2 (by decide) (by decide)
                        have kt23_49 : σ49 23 = σ45 23 := f49.1 23 (by decide) (by decide)
                        have kf57_49 : σ49 0 57 = σ45 0 57 := f49.2 57 (by decide)
                        have kf58_49 : σ49 0 58 = σ45 0 58 := f49.2 58 (by decide)
                        have kf60_49 : σ49 0 60 = σ45 0 60 := f49.2 60 (by decide)
                        have kf11_49 : σ49 0 11 = σ45 0 11 := f49.2 11 (by decide)
                        have kf4_49 : σ49 0 4 = σ45 0 4 := f49.2 4 (by decide)
                        have kf3_49 : σ49 0 3 = σ45 0 3 := f49.2 3 (by decide)
                        have kf14_49 : σ49 0 14 = σ45 0 14 := f49.2 14 (by decide)
                        have kf56_49 : σ49 0 56 = σ45 0 56 + 1 := p49.1
                        have hC : CR (σ49 4) (σ49 0 56) (bn (σ49 23) (σ49 0 58) + σ49 0 60) := by
                          rw [kt23_49, kf58_49, kf60_49]
                          exact hC0.add (by omega) p49.1 (Or.inr (Or.inr ⟨by omega, by have := bn_nn (st := σ45 23) (t := σ45 0 58); omega, by omega, by omega⟩)) p49.2.1 p49.2.2.1 p49.2.2.2
                        refine s_next (σ := σ49)  (show 0 ≤ σ49 0 4 ∧ σ49 0 4 ≤ σ49 0 3 ∧ σ49 0 3 ≤ 940 from by omega) (fun σ50 f50 p50 => ?_)
                        have p50 : σ50 0 3 = (σ49 0 3) ∧ (σ49 0 4) ≤ σ50 0 4 ∧ σ50 0 4 ≤ σ50 0 3 ∧ (0 ≤ σ50 0 11 ∧ σ50 0 11 ≤ 4) ∧ (1 ≤ σ50 0 11 ∧ σ50 0 11 ≤ 3 → (σ49 0 4) < σ50 0 4 ∧ 0 ≤ σ50 0 14) := p50
                        have hF := hF.tr f50 (by decide) (by decide)
                        have kt2_50 : σ50 2 = σ49 2 := f50.1 2 (by decide) (by decide)
                        have kt4_50 : σ50 4 = σ49 4 := f50.1 4 (by decide) (by decide)
                        have kt23_50 : σ50 23 = σ49 23 := f50.1 23 (by decide) (by decide)
                        have kp2_1_50 : σ50 2 1 = σ49 2 1 := congrFun kt2_50 1
                        have kf56_50 : σ50 0 56 = σ49 0 56 := f50.2 56 (by decide)
                        have kf57_50 : σ50 0 57 = σ49 0 57 := f50.2 57 (by decide)
                        have kf58_50 : σ50 0 58 = σ49 0 58 := f50.2 58 (by decide)
                        have kf60_50 : σ50 0 60 = σ49 0 60 := f50.2 60 (by decide)
                        have hC : CR (σ50 4) (σ50 0 56) (bn (σ50 23) (σ50 0 58) + σ50 0 60) := by rw [kt4_50, kt23_50, kf56_50, kf58_50, kf60_50]; exact hC
                        refine And.intro rfl ?_
                        refine And.intro (by omega) ?_
                        exact hQ _ _ hF (Or.inl ⟨by omega, hC, (show (σ50 0 60 = 0 ∨ σ50 0 60 = 1) ∧ 0 ≤ σ50 0 56 ∧ 0 ≤ σ50 0 58 ∧ σ50 0 56 + σ50 0 58 ≤ 2 * σ50 0 57 - σ50 0 60 ∧ 0 ≤ σ50 0 57 ∧ σ50 0 57 ≤ 20 from by omega), (show (σ50 0 3) = σ 0 3 ∧ σ 0 4 ≤ (σ50 0 4) ∧ (σ50 0 4) ≤ (σ50 0 3) ∧ (1 ≤ (σ50 0 11) ∧ (σ50 0 11) ≤ 3 → σ 0 4 < (σ50 0 4)) ∧ (1 ≤ σ 0 11 ∧ σ 0 11 ≤ 3) from by omega)⟩)
                      · refine s_badF (σ := σ45) (kind := 1) (fun r51 σ51 f51 p51 => ?_)
                        have p51 : r51 = 0 := p51
                        have hF := hF.tr f51 (by decide) (by decide)
                        refine And.intro rfl ?_
                        refine And.intro (by omega) ?_
                        exact hQ _ _ hF (Or.inr (by omega))
                    · exact lp_226 () (show True from by first | trivial | omega | (refine ⟨by assumption, ?_⟩; omega) | (refine ⟨?_, ?_⟩ <;> omega))
              · refine s_isName (σ := (xput σ13 0 60 1))   (fun r52 p52 => ?_)
                have p52 : (r52 = 1 ∧ (σ13 0 11) = 1) ∨ (r52 = 0 ∧ (0 : Int) ≤ 0) := p52
                refine And.intro (fun c53 => ?_) (fun c53 => ?_)
                · replace p52 : (σ13 0 11) = 1 := by
                    rcases p52 with q | q
                    · exact q.2
                    · exact absurd q.1 (by omega)
                  refine And.intro (rfl) (And.intro (⟨by omega, by omega⟩) ?_)
                  intro v54 e54 l54 h54
                  have e54 : v54 = σ13 2 1 := e54
                  refine s_find (σ := (xput σ13 0 60 1)) (from_ := 0) (many := v54) (show (0 = 0 ∨ 0 = 6) ∧ v54 ≤ 6 from by omega) (fun r55 p55 => ?_)
                  have p55 : -1 ≤ r55 ∧ (r55 = -1 ∨ r55 < v54) := p55
                  refine And.intro (Nat.le_of_ble_eq_true rfl) ?_
                  show xw _ _ _ _ _ _ _ _ _ _ [xvr 0, xvi r1, xvi r2, xvi r3, xvi r55] _ _
                  refine And.intro (fun c56 => ?_) (fun c56 => ?_)
                  · have hC0 : CR (σ13 4) (σ13 0 56) (bn (σ13 23) (σ13 0 58) + 0) := hC
                    refine s_code (σ := (xput σ13 0 60 1)) (what := r3) (sign0 := 0) (n := r55) (show 0 ≤ σ13 0 56 ∧ σ13 0 56 ≤ 44 from by omega) (fun σ57 f57 p57 => ?_)
                    have hF := hF.tr f57 (by decide) (by decide)
                    have kt2_57 : σ57 2 = σ13 2 := f57.1 2 (by decide) (by decide)
                    have kt23_57 : σ57 23 = σ13 23 := f57.1 23 (by decide) (by decide)
                    have kf57_57 : σ57 0 57 = σ13 0 57 := f57.2 57 (by decide)
                    have kf58_57 : σ57 0 58 = σ13 0 58 := f57.2 58 (by decide)
                    have kf60_57 : σ57 0 60 = 1 := f57.2 60 (by decide)
                    have kf11_57 : σ57 0 11 = σ13 0 11 := f57.2 11 (by decide)
                    have kf4_57 : σ57 0 4 = σ13 0 4 := f57.2 4 (by decide)
                    have kf3_57 : σ57 0 3 = σ13 0 3 := f57.2 3 (by decide)
                    have kf14_57 : σ57 0 14 = σ13 0 14 := f57.2 14 (by decide)
                    have kf56_57 : σ57 0 56 = σ13 0 56 + 1 := p57.1
                    have hC : CR (σ57 4) (σ57 0 56) (bn (σ57 23) (σ57 0 58) + σ57 0 60) := by
                      rw [kt23_57, kf58_57, kf60_57]
                      exact hC0.add (by omega) p57.1 (Or.inr (Or.inr ⟨by omega, by have := bn_nn (st := σ13 23) (t := σ13 0 58); omega, by omega, by omega⟩)) p57.2.1 p57.2.2.1 p57.2.2.2
                    refine s_next (σ := σ57)  (show 0 ≤ σ57 0 4 ∧ σ57 0 4 ≤ σ57 0 3 ∧ σ57 0 3 ≤ 940 from by omega) (fun σ58 f58 p58 => ?_)
                    have p58 : σ58 0 3 = (σ57 0 3) ∧ (σ57 0 4) ≤ σ58 0 4 ∧ σ58 0 4 ≤ σ58 0 3 ∧ (0 ≤ σ58 0 11 ∧ σ58 0 11 ≤ 4) ∧ (1 ≤ σ58 0 11 ∧ σ58 0 11 ≤ 3 → (σ57 0 4) < σ58 0 4 ∧ 0 ≤ σ58 0 14) := p58
                    have hF := hF.tr f58 (by decide) (by decide)
                    have kt2_58 : σ58 2 = σ57 2 := f58.1 2 (by decide) (by decide)
                    have kt4_58 : σ58 4 = σ57 4 := f58.1 4 (by decide) (by decide)
                    have kt23_58 : σ58 23 = σ57 23 := f58.1 23 (by decide) (by decide)
                    have kp2_1_58 : σ58 2 1 = σ57 2 1 := congrFun kt2_58 1
                    have kf56_58 : σ58 0 56 = σ57 0 56 := f58.2 56 (by decide)
                    have kf57_58 : σ58 0 57 = σ57 0 57 := f58.2 57 (by decide)
                    have kf58_58 : σ58 0 58 = σ57 0 58 := f58.2 58 (by decide)
                    have kf60_58 : σ58 0 60 = σ57 0 60 := f58.2 60 (by decide)
                    have hC : CR (σ58 4) (σ58 0 56) (bn (σ58 23) (σ58 0 58) + σ58 0 60) := by rw [kt4_58, kt23_58, kf56_58, kf58_58, kf60_58]; exact hC
                    refine And.intro rfl ?_
                    refine And.intro (by omega) ?_
                    exact hQ _ _ hF (Or.inl ⟨by omega, hC, (show (σ58 0 60 = 0 ∨ σ58 0 60 = 1) ∧ 0 ≤ σ58 0 56 ∧ 0 ≤ σ58 0 58 ∧ σ58 0 56 + σ58 0 58 ≤ 2 * σ58 0 57 - σ58 0 60 ∧ 0 ≤ σ58 0 57 ∧ σ58 0 57 ≤ 20 from by omega), (show (σ58 0 3) = σ 0 3 ∧ σ 0 4 ≤ (σ58 0 4) ∧ (σ58 0 4) ≤ (σ58 0 3) ∧ (1 ≤ (σ58 0 11) ∧ (σ58 0 11) ≤ 3 → σ 0 4 < (σ58 0 4)) ∧ (1 ≤ σ 0 11 ∧ σ 0 11 ≤ 3) from by omega)⟩)
                  · refine s_badF (σ := (xput σ13 0 60 1)) (kind := 3) (fun r59 σ59 f59 p59 => ?_)
                    have p59 : r59 = 0 := p59
                    have hF := hF.tr f59 (by decide) (by decide)
                    refine And.intro rfl ?_
                    refine And.intro (by omega) ?_
                    exact hQ _ _ hF (Or.inr (by omega))
                · replace p52 : (0 : Int) ≤ 0 := by
                    rcases p52 with q | q
                    · exact absurd q.1 (by omega)
                    · exact q.2
                  refine s_badF (σ := (xput σ13 0 60 1)) (kind := 1) (fun r60 σ60 f60 p60 => ?_)
                  have p60 : r60 = 0 := p60
                  have hF := hF.tr f60 (by decide) (by decide)
                  refine And.intro rfl ?_
                  refine And.intro (by omega) ?_
                  exact hQ _ _ hF (Or.inr (by omega))
            · have hC0 : CR (σ13 4) (σ13 0 56) (bn (σ13 23) (σ13 0 58) + 0) := hC
              refine s_code (σ := (xput σ13 0 60 1)) (what := r3) (sign0 := 0) (n := 0) (show 0 ≤ σ13 0 56 ∧ σ13 0 56 ≤ 44 from by omega) (fun σ61 f61 p61 => ?_)
              have hF := hF.tr f61 (by decide) (by decide)
              have kt2_61 : σ61 2 = σ13 2 := f61.1 2 (by decide) (by decide)
              have kt23_61 : σ61 23 = σ13 23 := f61.1 23 (by decide) (by decide)
              have kf57_61 : σ61 0 57 = σ13 0 57 := f61.2 57 (by decide)
              have kf58_61 : σ61 0 58 = σ13 0 58 := f61.2 58 (by decide)
              have kf60_61 : σ61 0 60 = 1 := f61.2 60 (by decide)
              have kf11_61 : σ61 0 11 = σ13 0 11 := f61.2 11 (by decide)
              have kf4_61 : σ61 0 4 = σ13 0 4 := f61.2 4 (by decide)
              have kf3_61 : σ61 0 3 = σ13 0 3 := f61.2 3 (by decide)
              have kf14_61 : σ61 0 14 = σ13 0 14 := f61.2 14 (by decide)
              have kf56_61 : σ61 0 56 = σ13 0 56 + 1 := p61.1
              have hC : CR (σ61 4) (σ61 0 56) (bn (σ61 23) (σ61 0 58) + σ61 0 60) := by
                rw [kt23_61, kf58_61, kf60_61]
                exact hC0.add (by omega) p61.1 (Or.inr (Or.inr ⟨by omega, by have := bn_nn (st := σ13 23) (t := σ13 0 58); omega, by omega, by omega⟩)) p61.2.1 p61.2.2.1 p61.2.2.2
              refine And.intro rfl ?_
              refine And.intro (by omega) ?_
              exact hQ _ _ hF (Or.inl ⟨by omega, hC, (show (σ61 0 60 = 0 ∨ σ61 0 60 = 1) ∧ 0 ≤ σ61 0 56 ∧ 0 ≤ σ61 0 58 ∧ σ61 0 56 + σ61 0 58 ≤ 2 * σ61 0 57 - σ61 0 60 ∧ 0 ≤ σ61 0 57 ∧ σ61 0 57 ≤ 20 from by omega), (show (σ61 0 3) = σ 0 3 ∧ σ 0 4 ≤ (σ61 0 4) ∧ (σ61 0 4) ≤ (σ61 0 3) ∧ (1 ≤ (σ61 0 11) ∧ (σ61 0 11) ≤ 3 → σ 0 4 < (σ61 0 4)) ∧ (1 ≤ σ 0 11 ∧ σ 0 11 ≤ 3) from by omega)⟩)
          · replace p2 : (σ 0 11) = 3 ∧ (σ 0 14) = 40 := by
              rcases p2 with q | q
              · exact q.2
              · exact absurd q.1 (by omega)
            exact lp_84 () (show True from by first | trivial | omega | (refine ⟨by assumption, ?_⟩; omega) | (refine ⟨?_, ?_⟩ <;> omega))
      · refine hX 400 56 _ _ ?_
        refine s_badF (σ := σ) (kind := 4) (fun r62 σ62 f62 p62 => ?_)
        have p62 : r62 = 0 := p62
        have hF := hF.tr f62 (by decide) (by decide)
        refine And.intro rfl ?_
        refine And.intro (by omega) ?_
        exact hQ _ _ hF (Or.inr (by omega))
  refine And.intro (fun c63 => ?_) (fun c63 => ?_)
  · replace p1 : (σ 0 11) = 1 := by
      rcases p1 with q | q
      · exact q.2
      · exact absurd q.1 (by omega)
    exact lp_38 () (show 1 ≤ σ 0 11 ∧ σ 0 11 ≤ 3 ∧ (r1 = 0 → r2 = 0 → 0 ≤ r3) from by first | trivial | omega | (refine ⟨by assumption, ?_⟩; omega) | (refine ⟨?_, ?_⟩ <;> omega))
  · replace p1 : (0 : Int) ≤ 0 := by
      rcases p1 with q | q
      · exact absurd q.1 (by omega)
      · exact q.2
    refine And.intro (fun c64 => ?_) (fun c64 => ?_)
    · replace p2 : (σ 0 11) = 3 ∧ (σ 0 14) = 40 := by
        rcases p2 with q | q
        · exact q.2
        · exact absurd q.1 (by omega)
      exact lp_38 () (show 1 ≤ σ 0 11 ∧ σ 0 11 ≤ 3 ∧ (r1 = 0 → r2 = 0 → 0 ≤ r3) from by first | trivial | omega | (refine ⟨by assumption, ?_⟩; omega) | (refine ⟨?_, ?_⟩ <;> omega))
    · replace p2 : (0 : Int) ≤ 0 := by
        rcases p2 with q | q
        · exact absurd q.1 (by omega)
        · exact q.2
      refine And.intro (fun c65 => ?_) (fun c65 => ?_)
      · exact lp_38 () (show 1 ≤ σ 0 11 ∧ σ 0 11 ≤ 3 ∧ (r1 = 0 → r2 = 0 → 0 ≤ r3) from by first | trivial | omega | (refine ⟨by assumption, ?_⟩; omega) | (refine ⟨?_, ?_⟩ <;> omega))
      · refine s_badF (σ := σ) (kind := 1) (fun r66 σ66 f66 p66 => ?_)
        have p66 : r66 = 0 := p66
        have hF := hF.tr f66 (by decide) (by decide)
        refine And.intro rfl ?_
        refine And.intro (by omega) ?_
        exact hQ _ _ hF (Or.inr (by omega))
set_option maxHeartbeats 4000000 in
set_option maxRecDepth 100000 in
theorem s_behind {σ : xS} {Q : Option xV → xS → Prop} (hp0 : 0 ≤ σ 0 4 ∧ σ 0 4 ≤ σ 0 3 ∧ σ 0 3 ≤ 940) (hp1 : 0 ≤ σ 2 1 ∧ σ 2 1 ≤ 6) (hp2 : CR (σ 4) (σ 0 56) (bn (σ 23) (σ 0 58) + σ 0 60)) (hp3 : (σ 0 60 = 0 ∨ σ 0 60 = 1) ∧ 0 ≤ σ 0 56 ∧ 0 ≤ σ 0 58 ∧ σ 0 56 + σ 0 58 ≤ 2 * σ 0 57 - σ 0 60 ∧ 0 ≤ σ 0 57 ∧ σ 0 57 ≤ 20) (hp4 : σ 0 60 = 1) (hQ : ∀ r : Int, ∀ σ' : xS, Fr [4, 23] [4, 11, 12, 13, 14, 15, 16, 17, 56, 57, 58, 59, 60] σ σ' → ((r = 1 ∧ CR (σ' 4) (σ' 0 56) (bn (σ' 23) (σ' 0 58) + σ' 0 60) ∧ ((σ' 0 60 = 0 ∨ σ' 0 60 = 1) ∧ 0 ≤ σ' 0 56 ∧ 0 ≤ σ' 0 58 ∧ σ' 0 56 + σ' 0 58 ≤ 2 * σ' 0 57 - σ' 0 60 ∧ 0 ≤ σ' 0 57 ∧ σ' 0 57 ≤ 20) ∧ σ' 0 3 = σ 0 3 ∧ σ 0 4 ≤ σ' 0 4 ∧ σ' 0 4 ≤ σ' 0 3 ∧ (1 ≤ σ' 0 11 ∧ σ' 0 11 ≤ 3 → σ 0 4 < σ' 0 4) ∧ (1 ≤ σ 0 11 ∧ σ 0 11 ≤ 3)) ∨ r = 0) → Q (some (xvi r)) σ') : xT kX11_behind [xvr 0] σ Q := by
  refine ⟨Nat.le_of_ble_eq_true rfl, fun X hX => ?_⟩
  show X 0 [xvr 0] σ
  have hF : Fr [4, 23] [4, 11, 12, 13, 14, 15, 16, 17, 56, 57, 58, 59, 60] σ σ := Fr.rf
  refine hX 400 0 _ _ ?_
  have hC := hp2
  have hC1 : CR (σ 4) (σ 0 56) (bn (σ 23) (σ 0 58) + 1) := hC.eq rfl (by omega)
  refine s_nots (σ := σ)  hC1 (show 0 ≤ σ 0 56 ∧ 0 ≤ σ 0 58 ∧ σ 0 56 + σ 0 58 ≤ 40 from by omega) (fun σ1 f1 p1 => ?_)
  have hF := hF.tr f1 (by decide) (by decide)
  have kt2_1 : σ1 2 = σ 2 := f1.1 2 (by decide) (by decide)
  have kt23_1 : σ1 23 = σ 23 := f1.1 23 (by decide) (by decide)
  have kp2_1_1 : σ1 2 1 = σ 2 1 := congrFun kt2_1 1
  have kf57_1 : σ1 0 57 = σ 0 57 := f1.2 57 (by decide)
  have kf60_1 : σ1 0 60 = σ 0 60 := f1.2 60 (by decide)
  have kf11_1 : σ1 0 11 = σ 0 11 := f1.2 11 (by decide)
  have kf4_1 : σ1 0 4 = σ 0 4 := f1.2 4 (by decide)
  have kf3_1 : σ1 0 3 = σ 0 3 := f1.2 3 (by decide)
  have kf14_1 : σ1 0 14 = σ 0 14 := f1.2 14 (by decide)
  have hC : CR (σ1 4) (σ1 0 56) (bn (σ1 23) (σ1 0 58) + σ1 0 60) := by rw [kt23_1]; exact p1.1.eq rfl (by omega)
  have y1 : 0 ≤ σ1 0 56 ∧ 0 ≤ σ1 0 58 ∧ σ1 0 56 + σ1 0 58 = σ 0 56 + σ 0 58 := p1.2
  have lp_24 : ∀ (_ : Unit), (σ 0 11 = 1) → X 24 [xvr 0] σ1 := by
    intro _ hv_24
    refine hX 400 24 _ _ ?_
    refine s_isWord (σ := σ1) (w := 6385252)  (fun r3 p3 => ?_)
    have p3 : (r3 = 1 ∧ (σ1 0 11) = 1) ∨ (r3 = 0 ∧ (0 : Int) ≤ 0) := p3
    refine And.intro (fun c4 => ?_) (fun c4 => ?_)
    · replace p3 : (0 : Int) ≤ 0 := by
        rcases p3 with q | q
        · exact absurd q.1 (by omega)
        · exact q.2
      have hC1 : CR (σ1 4) (σ1 0 56) (bn (σ1 23) (σ1 0 58) + 1) := hC.eq rfl (by omega)
      refine s_joins (σ := σ1) (till := 12) hC1 (show 0 ≤ σ1 0 56 ∧ 0 ≤ σ1 0 58 ∧ σ1 0 56 + σ1 0 58 ≤ 40 from by omega) (fun σ5 f5 p5 => ?_)
      have hF := hF.tr f5 (by decide) (by decide)
      have kt2_5 : σ5 2 = σ1 2 := f5.1 2 (by decide) (by decide)
      have kt23_5 : σ5 23 = σ1 23 := f5.1 23 (by decide) (by decide)
      have kp2_1_5 : σ5 2 1 = σ1 2 1 := congrFun kt2_5 1
      have kf57_5 : σ5 0 57 = σ1 0 57 := f5.2 57 (by decide)
      have kf60_5 : σ5 0 60 = σ1 0 60 := f5.2 60 (by decide)
      have kf11_5 : σ5 0 11 = σ1 0 11 := f5.2 11 (by decide)
      have kf4_5 : σ5 0 4 = σ1 0 4 := f5.2 4 (by decide)
      have kf3_5 : σ5 0 3 = σ1 0 3 := f5.2 3 (by decide)
      have kf14_5 : σ5 0 14 = σ1 0 14 := f5.2 14 (by decide)
      have hC : CR (σ5 4) (σ5 0 56) (bn (σ5 23) (σ5 0 58) + σ5 0 60) := by rw [kt23_5]; exact p5.1.eq rfl (by omega)
      have y5 : 0 ≤ σ5 0 56 ∧ 0 ≤ σ5 0 58 ∧ σ5 0 56 + σ5 0 58 = σ1 0 56 + σ1 0 58 := p5.2.1
      have u5 := p5.2.2; rw [← kt23_5] at u5
      intro v6 e6 l6 h6
      have e6 : v6 = σ5 0 58 := e6
      refine s_isWord (σ := σ5) (w := 6385252)  (fun r7 p7 => ?_)
      have p7 : (r7 = 1 ∧ (σ5 0 11) = 1) ∨ (r7 = 0 ∧ (0 : Int) ≤ 0) := p7
      refine And.intro (fun c8 => ?_) (fun c8 => ?_)
      · replace p7 : (0 : Int) ≤ 0 := by
          rcases p7 with q | q
          · exact absurd q.1 (by omega)
          · exact q.2
        refine And.intro (rfl) (And.intro (⟨by omega, by omega⟩) ?_)
        have hF := hF.pt (t := 23) (j := v6.toNat) (v := 12) (by decide) (by decide)
        intro v10 e10 l10 h10
        have e10 : v10 = σ5 0 58 := e10
        intro z11 t11 e11 l11 h11
        try have w11 : t11 = 0 := by omega
        have hF := hF.p (j := 58) (v := z11) (by decide)
        refine And.intro (by omega) ?_
        have hF := hF.p (j := 60) (v := 0) (by decide)
        have hC : CR ((xput (xput (xput σ5 23 v6.toNat 12) 0 58 z11) 0 60 0) 4) ((xput (xput (xput σ5 23 v6.toNat 12) 0 58 z11) 0 60 0) 0 56) (bn ((xput (xput (xput σ5 23 v6.toNat 12) 0 58 z11) 0 60 0) 23) z11 + 0) := by
          show CR (σ5 4) (σ5 0 56) (bn (xput σ5 23 v6.toNat 12 23) z11 + 0)
          rw [xput_up, bn_up (t := σ5 0 58) (by omega) (by omega) (by omega), if_pos (by decide)]; exact hC.eq rfl (by omega)
        refine s_next (σ := (xput (xput (xput σ5 23 v6.toNat 12) 0 58 z11) 0 60 0))  (show 0 ≤ σ5 0 4 ∧ σ5 0 4 ≤ σ5 0 3 ∧ σ5 0 3 ≤ 940 from by omega) (fun σ14 f14 p14 => ?_)
        have p14 : σ14 0 3 = (σ5 0 3) ∧ (σ5 0 4) ≤ σ14 0 4 ∧ σ14 0 4 ≤ σ14 0 3 ∧ (0 ≤ σ14 0 11 ∧ σ14 0 11 ≤ 4) ∧ (1 ≤ σ14 0 11 ∧ σ14 0 11 ≤ 3 → (σ5 0 4) < σ14 0 4 ∧ 0 ≤ σ14 0 14) := p14
        have hF := hF.tr f14 (by decide) (by decide)
        have kt2_14 : σ14 2 = σ5 2 := f14.1 2 (by decide) (by decide)
        have kt4_14 : σ14 4 = σ5 4 := f14.1 4 (by decide) (by decide)
        have kt23_14 : σ14 23 = (xput (xput (xput σ5 23 v6.toNat 12) 0 58 z11) 0 60 0) 23 := f14.1 23 (by decide) (by decide)
        have kp2_1_14 : σ14 2 1 = σ5 2 1 := congrFun kt2_14 1
        have kf56_14 : σ14 0 56 = σ5 0 56 := f14.2 56 (by decide)
        have kf57_14 : σ14 0 57 = σ5 0 57 := f14.2 57 (by decide)
        have kf58_14 : σ14 0 58 = z11 := f14.2 58 (by decide)
        have kf60_14 : σ14 0 60 = 0 := f14.2 60 (by decide)
        have hC : CR (σ14 4) (σ14 0 56) (bn (σ14 23) (σ14 0 58) + σ14 0 60) := by rw [kt4_14, kt23_14, kf56_14, kf58_14, kf60_14]; exact hC
        refine And.intro rfl ?_
        refine And.intro (by omega) ?_
        exact hQ _ _ hF (Or.inl ⟨by omega, hC, (show (σ14 0 60 = 0 ∨ σ14 0 60 = 1) ∧ 0 ≤ σ14 0 56 ∧ 0 ≤ σ14 0 58 ∧ σ14 0 56 + σ14 0 58 ≤ 2 * σ14 0 57 - σ14 0 60 ∧ 0 ≤ σ14 0 57 ∧ σ14 0 57 ≤ 20 from by omega), (show (σ14 0 3) = σ 0 3 ∧ σ 0 4 ≤ (σ14 0 4) ∧ (σ14 0 4) ≤ (σ14 0 3) ∧ (1 ≤ (σ14 0 11) ∧ (σ14 0 11) ≤ 3 → σ 0 4 < (σ14 0 4)) ∧ (1 ≤ σ 0 11 ∧ σ 0 11 ≤ 3) from by omega)⟩)
      · replace p7 : (σ5 0 11) = 1 := by
          rcases p7 with q | q
          · exact q.2
          · exact absurd q.1 (by omega)
        refine And.intro (rfl) (And.intro (⟨by omega, by omega⟩) ?_)
        have hF := hF.pt (t := 23) (j := v6.toNat) (v := 11) (by decide) (by decide)
        intro v16 e16 l16 h16
        have e16 : v16 = σ5 0 58 := e16
        intro z17 t17 e17 l17 h17
        try have w17 : t17 = 0 := by omega
        have hF := hF.p (j := 58) (v := z17) (by decide)
        refine And.intro (by omega) ?_
        have hF := hF.p (j := 60) (v := 0) (by decide)
        have hC : CR ((xput (xput (xput σ5 23 v6.toNat 11) 0 58 z17) 0 60 0) 4) ((xput (xput (xput σ5 23 v6.toNat 11) 0 58 z17) 0 60 0) 0 56) (bn ((xput (xput (xput σ5 23 v6.toNat 11) 0 58 z17) 0 60 0) 23) z17 + 0) := by
          show CR (σ5 4) (σ5 0 56) (bn (xput σ5 23 v6.toNat 11 23) z17 + 0)
          rw [xput_up, bn_up (t := σ5 0 58) (by omega) (by omega) (by omega), if_pos (by decide)]; exact hC.eq rfl (by omega)
        refine s_next (σ := (xput (xput (xput σ5 23 v6.toNat 11) 0 58 z17) 0 60 0))  (show 0 ≤ σ5 0 4 ∧ σ5 0 4 ≤ σ5 0 3 ∧ σ5 0 3 ≤ 940 from by omega) (fun σ20 f20 p20 => ?_)
        have p20 : σ20 0 3 = (σ5 0 3) ∧ (σ5 0 4) ≤ σ20 0 4 ∧ σ20 0 4 ≤ σ20 0 3 ∧ (0 ≤ σ20 0 11 ∧ σ20 0 11 ≤ 4) ∧ (1 ≤ σ20 0 11 ∧ σ20 0 11 ≤ 3 → (σ5 0 4) < σ20 0 4 ∧ 0 ≤ σ20 0 14) := p20
        have hF := hF.tr f20 (by decide) (by decide)
        have kt2_20 : σ20 2 = σ5 2 := f20.1 2 (by decide) (by decide)
        have kt4_20 : σ20 4 = σ5 4 := f20.1 4 (by decide) (by decide)
        have kt23_20 : σ20 23 = (xput (xput (xput σ5 23 v6.toNat 11) 0 58 z17) 0 60 0) 23 := f20.1 23 (by decide) (by decide)
        have kp2_1_20 : σ20 2 1 = σ5 2 1 := congrFun kt2_20 1
        have kf56_20 : σ20 0 56 = σ5 0 56 := f20.2 56 (by decide)
        have kf57_20 : σ20 0 57 = σ5 0 57 := f20.2 57 (by decide)
        have kf58_20 : σ20 0 58 = z17 := f20.2 58 (by decide)
        have kf60_20 : σ20 0 60 = 0 := f20.2 60 (by decide)
        have hC : CR (σ20 4) (σ20 0 56) (bn (σ20 23) (σ20 0 58) + σ20 0 60) := by rw [kt4_20, kt23_20, kf56_20, kf58_20, kf60_20]; exact hC
        refine And.intro rfl ?_
        refine And.intro (by omega) ?_
        exact hQ _ _ hF (Or.inl ⟨by omega, hC, (show (σ20 0 60 = 0 ∨ σ20 0 60 = 1) ∧ 0 ≤ σ20 0 56 ∧ 0 ≤ σ20 0 58 ∧ σ20 0 56 + σ20 0 58 ≤ 2 * σ20 0 57 - σ20 0 60 ∧ 0 ≤ σ20 0 57 ∧ σ20 0 57 ≤ 20 from by omega), (show (σ20 0 3) = σ 0 3 ∧ σ 0 4 ≤ (σ20 0 4) ∧ (σ20 0 4) ≤ (σ20 0 3) ∧ (1 ≤ (σ20 0 11) ∧ (σ20 0 11) ≤ 3 → σ 0 4 < (σ20 0 4)) ∧ (1 ≤ σ 0 11 ∧ σ 0 11 ≤ 3) from by omega)⟩)
    · replace p3 : (σ1 0 11) = 1 := by
        rcases p3 with q | q
        · exact q.2
        · exact absurd q.1 (by omega)
      have hC1 : CR (σ1 4) (σ1 0 56) (bn (σ1 23) (σ1 0 58) + 1) := hC.eq rfl (by omega)
      refine s_joins (σ := σ1) (till := 11) hC1 (show 0 ≤ σ1 0 56 ∧ 0 ≤ σ1 0 58 ∧ σ1 0 56 + σ1 0 58 ≤ 40 from by omega) (fun σ21 f21 p21 => ?_)
      have hF := hF.tr f21 (by decide) (by decide)
      have kt2_21 : σ21 2 = σ1 2 := f21.1 2 (by decide) (by decide)
      have kt23_21 : σ21 23 = σ1 23 := f21.1 23 (by decide) (by decide)
      have kp2_1_21 : σ21 2 1 = σ1 2 1 := congrFun kt2_21 1
      have kf57_21 : σ21 0 57 = σ1 0 57 := f21.2 57 (by decide)
      have kf60_21 : σ21 0 60 = σ1 0 60 := f21.2 60 (by decide)
      have kf11_21 : σ21 0 11 = σ1 0 11 := f21.2 11 (by decide)
      have kf4_21 : σ21 0 4 = σ1 0 4 := f21.2 4 (by decide)
      have kf3_21 : σ21 0 3 = σ1 0 3 := f21.2 3 (by decide)
      have kf14_21 : σ21 0 14 = σ1 0 14 := f21.2 14 (by decide)
      have hC : CR (σ21 4) (σ21 0 56) (bn (σ21 23) (σ21 0 58) + σ21 0 60) := by rw [kt23_21]; exact p21.1.eq rfl (by omega)
      have y21 : 0 ≤ σ21 0 56 ∧ 0 ≤ σ21 0 58 ∧ σ21 0 56 + σ21 0 58 = σ1 0 56 + σ1 0 58 := p21.2.1
      have u21 := p21.2.2; rw [← kt23_21] at u21
      intro v22 e22 l22 h22
      have e22 : v22 = σ21 0 58 := e22
      refine s_isWord (σ := σ21) (w := 6385252)  (fun r23 p23 => ?_)
      have p23 : (r23 = 1 ∧ (σ21 0 11) = 1) ∨ (r23 = 0 ∧ (0 : Int) ≤ 0) := p23
      refine And.intro (fun c24 => ?_) (fun c24 => ?_)
      · replace p23 : (0 : Int) ≤ 0 := by
          rcases p23 with q | q
          · exact absurd q.1 (by omega)
          · exact q.2
        refine And.intro (rfl) (And.intro (⟨by omega, by omega⟩) ?_)
        have hF := hF.pt (t := 23) (j := v22.toNat) (v := 12) (by decide) (by decide)
        intro v26 e26 l26 h26
        have e26 : v26 = σ21 0 58 := e26
        intro z27 t27 e27 l27 h27
        try have w27 : t27 = 0 := by omega
        have hF := hF.p (j := 58) (v := z27) (by decide)
        refine And.intro (by omega) ?_
        have hF := hF.p (j := 60) (v := 0) (by decide)
        have hC : CR ((xput (xput (xput σ21 23 v22.toNat 12) 0 58 z27) 0 60 0) 4) ((xput (xput (xput σ21 23 v22.toNat 12) 0 58 z27) 0 60 0) 0 56) (bn ((xput (xput (xput σ21 23 v22.toNat 12) 0 58 z27) 0 60 0) 23) z27 + 0) := by
          show CR (σ21 4) (σ21 0 56) (bn (xput σ21 23 v22.toNat 12 23) z27 + 0)
          rw [xput_up, bn_up (t := σ21 0 58) (by omega) (by omega) (by omega), if_pos (by decide)]; exact hC.eq rfl (by omega)
        refine s_next (σ := (xput (xput (xput σ21 23 v22.toNat 12) 0 58 z27) 0 60 0))  (show 0 ≤ σ21 0 4 ∧ σ21 0 4 ≤ σ21 0 3 ∧ σ21 0 3 ≤ 940 from by omega) (fun σ30 f30 p30 => ?_)
        have p30 : σ30 0 3 = (σ21 0 3) ∧ (σ21 0 4) ≤ σ30 0 4 ∧ σ30 0 4 ≤ σ30 0 3 ∧ (0 ≤ σ30 0 11 ∧ σ30 0 11 ≤ 4) ∧ (1 ≤ σ30 0 11 ∧ σ30 0 11 ≤ 3 → (σ21 0 4) < σ30 0 4 ∧ 0 ≤ σ30 0 14) := p30
        have hF := hF.tr f30 (by decide) (by decide)
        have kt2_30 : σ30 2 = σ21 2 := f30.1 2 (by decide) (by decide)
        have kt4_30 : σ30 4 = σ21 4 := f30.1 4 (by decide) (by decide)
        have kt23_30 : σ30 23 = (xput (xput (xput σ21 23 v22.toNat 12) 0 58 z27) 0 60 0) 23 := f30.1 23 (by decide) (by decide)
        have kp2_1_30 : σ30 2 1 = σ21 2 1 := congrFun kt2_30 1
        have kf56_30 : σ30 0 56 = σ21 0 56 := f30.2 56 (by decide)
        have kf57_30 : σ30 0 57 = σ21 0 57 := f30.2 57 (by decide)
        have kf58_30 : σ30 0 58 = z27 := f30.2 58 (by decide)
        have kf60_30 : σ30 0 60 = 0 := f30.2 60 (by decide)
        have hC : CR (σ30 4) (σ30 0 56) (bn (σ30 23) (σ30 0 58) + σ30 0 60) := by rw [kt4_30, kt23_30, kf56_30, kf58_30, kf60_30]; exact hC
        refine And.intro rfl ?_
        refine And.intro (by omega) ?_
        exact hQ _ _ hF (Or.inl ⟨by omega, hC, (show (σ30 0 60 = 0 ∨ σ30 0 60 = 1) ∧ 0 ≤ σ30 0 56 ∧ 0 ≤ σ30 0 58 ∧ σ30 0 56 + σ30 0 58 ≤ 2 * σ30 0 57 - σ30 0 60 ∧ 0 ≤ σ30 0 57 ∧ σ30 0 57 ≤ 20 from by omega), (show (σ30 0 3) = σ 0 3 ∧ σ 0 4 ≤ (σ30 0 4) ∧ (σ30 0 4) ≤ (σ30 0 3) ∧ (1 ≤ (σ30 0 11) ∧ (σ30 0 11) ≤ 3 → σ 0 4 < (σ30 0 4)) ∧ (1 ≤ σ 0 11 ∧ σ 0 11 ≤ 3) from by omega)⟩)
      · replace p23 : (σ21 0 11) = 1 := by
          rcases p23 with q | q
          · exact q.2
          · exact absurd q.1 (by omega)
        refine And.intro (rfl) (And.intro (⟨by omega, by omega⟩) ?_)
        have hF := hF.pt (t := 23) (j := v22.toNat) (v := 11) (by decide) (by decide)
        intro v32 e32 l32 h32
        have e32 : v32 = σ21 0 58 := e32
        intro z33 t33 e33 l33 h33
        try have w33 : t33 = 0 := by omega
        have hF := hF.p (j := 58) (v := z33) (by decide)
        refine And.intro (by omega) ?_
        have hF := hF.p (j := 60) (v := 0) (by decide)
        have hC : CR ((xput (xput (xput σ21 23 v22.toNat 11) 0 58 z33) 0 60 0) 4) ((xput (xput (xput σ21 23 v22.toNat 11) 0 58 z33) 0 60 0) 0 56) (bn ((xput (xput (xput σ21 23 v22.toNat 11) 0 58 z33) 0 60 0) 23) z33 + 0) := by
          show CR (σ21 4) (σ21 0 56) (bn (xput σ21 23 v22.toNat 11 23) z33 + 0)
          rw [xput_up, bn_up (t := σ21 0 58) (by omega) (by omega) (by omega), if_pos (by decide)]; exact hC.eq rfl (by omega)
        refine s_next (σ := (xput (xput (xput σ21 23 v22.toNat 11) 0 58 z33) 0 60 0))  (show 0 ≤ σ21 0 4 ∧ σ21 0 4 ≤ σ21 0 3 ∧ σ21 0 3 ≤ 940 from by omega) (fun σ36 f36 p36 => ?_)
        have p36 : σ36 0 3 = (σ21 0 3) ∧ (σ21 0 4) ≤ σ36 0 4 ∧ σ36 0 4 ≤ σ36 0 3 ∧ (0 ≤ σ36 0 11 ∧ σ36 0 11 ≤ 4) ∧ (1 ≤ σ36 0 11 ∧ σ36 0 11 ≤ 3 → (σ21 0 4) < σ36 0 4 ∧ 0 ≤ σ36 0 14) := p36
        have hF := hF.tr f36 (by decide) (by decide)
        have kt2_36 : σ36 2 = σ21 2 := f36.1 2 (by decide) (by decide)
        have kt4_36 : σ36 4 = σ21 4 := f36.1 4 (by decide) (by decide)
        have kt23_36 : σ36 23 = (xput (xput (xput σ21 23 v22.toNat 11) 0 58 z33) 0 60 0) 23 := f36.1 23 (by decide) (by decide)
        have kp2_1_36 : σ36 2 1 = σ21 2 1 := congrFun kt2_36 1
        have kf56_36 : σ36 0 56 = σ21 0 56 := f36.2 56 (by decide)
        have kf57_36 : σ36 0 57 = σ21 0 57 := f36.2 57 (by decide)
        have kf58_36 : σ36 0 58 = z33 := f36.2 58 (by decide)
        have kf60_36 : σ36 0 60 = 0 := f36.2 60 (by decide)
        have hC : CR (σ36 4) (σ36 0 56) (bn (σ36 23) (σ36 0 58) + σ36 0 60) := by rw [kt4_36, kt23_36, kf56_36, kf58_36, kf60_36]; exact hC
        refine And.intro rfl ?_
        refine And.intro (by omega) ?_
        exact hQ _ _ hF (Or.inl ⟨by omega, hC, (show (σ36 0 60 = 0 ∨ σ36 0 60 = 1) ∧ 0 ≤ σ36 0 56 ∧ 0 ≤ σ36 0 58 ∧ σ36 0 56 + σ36 0 58 ≤ 2 * σ36 0 57 - σ36 0 60 ∧ 0 ≤ σ36 0 57 ∧ σ36 0 57 ≤ 20 from by omega), (show (σ36 0 3) = σ 0 3 ∧ σ 0 4 ≤ (σ36 0 4) ∧ (σ36 0 4) ≤ (σ36 0 3) ∧ (1 ≤ (σ36 0 11) ∧ (σ36 0 11) ≤ 3 → σ 0 4 < (σ36 0 4)) ∧ (1 ≤ σ 0 11 ∧ σ 0 11 ≤ 3) from by omega)⟩)
  refine s_isWord (σ := σ1) (w := 6385252)  (fun r37 p37 => ?_)
  have p37 : (r37 = 1 ∧ (σ1 0 11) = 1) ∨ (r37 = 0 ∧ (0 : Int) ≤ 0) := p37
  refine And.intro (fun c38 => ?_) (fun c38 => ?_)
  · replace p37 : (σ1 0 11) = 1 := by
      rcases p37 with q | q
      · exact q.2
      · exact absurd q.1 (by omega)
    exact lp_24 () (show σ 0 11 = 1 from by first | trivial | omega | (refine ⟨by assumption, ?_⟩; omega) | (refine ⟨?_, ?_⟩ <;> omega))
  · replace p37 : (0 : Int) ≤ 0 := by
      rcases p37 with q | q
      · exact absurd q.1 (by omega)
      · exact q.2
    refine s_isWord (σ := σ1) (w := 28530)  (fun r39 p39 => ?_)
    have p39 : (r39 = 1 ∧ (σ1 0 11) = 1) ∨ (r39 = 0 ∧ (0 : Int) ≤ 0) := p39
    refine And.intro (fun c40 => ?_) (fun c40 => ?_)
    · replace p39 : (0 : Int) ≤ 0 := by
        rcases p39 with q | q
        · exact absurd q.1 (by omega)
        · exact q.2
      have hC1 : CR (σ1 4) (σ1 0 56) (bn (σ1 23) (σ1 0 58) + 1) := hC.eq rfl (by omega)
      refine s_joins (σ := σ1) (till := 12) hC1 (show 0 ≤ σ1 0 56 ∧ 0 ≤ σ1 0 58 ∧ σ1 0 56 + σ1 0 58 ≤ 40 from by omega) (fun σ41 f41 p41 => ?_)
      have hF := hF.tr f41 (by decide) (by decide)
      have kt2_41 : σ41 2 = σ1 2 := f41.1 2 (by decide) (by decide)
      have kt23_41 : σ41 23 = σ1 23 := f41.1 23 (by decide) (by decide)
      have kp2_1_41 : σ41 2 1 = σ1 2 1 := congrFun kt2_41 1
      have kf57_41 : σ41 0 57 = σ1 0 57 := f41.2 57 (by decide)
      have kf60_41 : σ41 0 60 = σ1 0 60 := f41.2 60 (by decide)
      have kf11_41 : σ41 0 11 = σ1 0 11 := f41.2 11 (by decide)
      have kf4_41 : σ41 0 4 = σ1 0 4 := f41.2 4 (by decide)
      have kf3_41 : σ41 0 3 = σ1 0 3 := f41.2 3 (by decide)
      have kf14_41 : σ41 0 14 = σ1 0 14 := f41.2 14 (by decide)
      have hC : CR (σ41 4) (σ41 0 56) (bn (σ41 23) (σ41 0 58) + σ41 0 60) := by rw [kt23_41]; exact p41.1.eq rfl (by omega)
      have y41 : 0 ≤ σ41 0 56 ∧ 0 ≤ σ41 0 58 ∧ σ41 0 56 + σ41 0 58 = σ1 0 56 + σ1 0 58 := p41.2.1
      have u41 := p41.2.2; rw [← kt23_41] at u41
      refine s_isSign (σ := σ41) (c := 41)  (fun r42 p42 => ?_)
      have p42 : (r42 = 1 ∧ (σ41 0 11) = 3 ∧ (σ41 0 14) = 41) ∨ (r42 = 0 ∧ (0 : Int) ≤ 0) := p42
      have lp_114 : ∀ (_ : Unit), (True) → X 114 [xvr 0] σ41 := by
        intro _ hv_114
        refine hX 400 114 _ _ ?_
        refine s_badF (σ := σ41) (kind := 1) (fun r44 σ44 f44 p44 => ?_)
        have p44 : r44 = 0 := p44
        have hF := hF.tr f44 (by decide) (by decide)
        refine And.intro rfl ?_
        refine And.intro (by omega) ?_
        exact hQ _ _ hF (Or.inr (by omega))
      refine And.intro (fun c45 => ?_) (fun c45 => ?_)
      · replace p42 : (0 : Int) ≤ 0 := by
          rcases p42 with q | q
          · exact absurd q.1 (by omega)
          · exact q.2
        exact lp_114 () (show True from by first | trivial | omega | (refine ⟨by assumption, ?_⟩; omega) | (refine ⟨?_, ?_⟩ <;> omega))
      · replace p42 : (σ41 0 11) = 3 ∧ (σ41 0 14) = 41 := by
          rcases p42 with q | q
          · exact q.2
          · exact absurd q.1 (by omega)
        intro v46 e46 l46 h46
        have e46 : v46 = σ41 0 58 := e46
        refine And.intro (fun c47 => ?_) (fun c47 => ?_)
        · intro v48 e48 l48 h48
          have e48 : v48 = σ41 0 58 := e48
          intro z49 t49 e49 l49 h49
          try have w49 : t49 = 0 := by omega
          have hF := hF.p (j := 58) (v := z49) (by decide)
          intro v51 e51 l51 h51
          have e51 : v51 = σ41 0 59 := e51
          intro z52 t52 e52 l52 h52
          try have w52 : t52 = 0 := by omega
          have hF := hF.p (j := 59) (v := z52) (by decide)
          have hC : CR ((xput (xput σ41 0 58 z49) 0 59 z52) 4) ((xput (xput σ41 0 58 z49) 0 59 z52) 0 56) (bn ((xput (xput σ41 0 58 z49) 0 59 z52) 23) z49 + σ41 0 60) := by
            have z := u41 rfl
            show CR (σ41 4) (σ41 0 56) (bn (σ41 23) z49 + σ41 0 60)
            rw [bn_popn (t := σ41 0 58) (by omega) (by omega) (by rw [show (z49).toNat = (σ41 0 58 - 1).toNat from by omega]; omega)]; exact hC
          refine s_next (σ := (xput (xput σ41 0 58 z49) 0 59 z52))  (show 0 ≤ σ41 0 4 ∧ σ41 0 4 ≤ σ41 0 3 ∧ σ41 0 3 ≤ 940 from by omega) (fun σ54 f54 p54 => ?_)
          have p54 : σ54 0 3 = (σ41 0 3) ∧ (σ41 0 4) ≤ σ54 0 4 ∧ σ54 0 4 ≤ σ54 0 3 ∧ (0 ≤ σ54 0 11 ∧ σ54 0 11 ≤ 4) ∧ (1 ≤ σ54 0 11 ∧ σ54 0 11 ≤ 3 → (σ41 0 4) < σ54 0 4 ∧ 0 ≤ σ54 0 14) := p54
          have hF := hF.tr f54 (by decide) (by decide)
          have kt2_54 : σ54 2 = σ41 2 := f54.1 2 (by decide) (by decide)
          have kt4_54 : σ54 4 = σ41 4 := f54.1 4 (by decide) (by decide)
          have kt23_54 : σ54 23 = σ41 23 := f54.1 23 (by decide) (by decide)
          have kp2_1_54 : σ54 2 1 = σ41 2 1 := congrFun kt2_54 1
          have kf56_54 : σ54 0 56 = σ41 0 56 := f54.2 56 (by decide)
          have kf57_54 : σ54 0 57 = σ41 0 57 := f54.2 57 (by decide)
          have kf58_54 : σ54 0 58 = z49 := f54.2 58 (by decide)
          have kf60_54 : σ54 0 60 = σ41 0 60 := f54.2 60 (by decide)
          have hC : CR (σ54 4) (σ54 0 56) (bn (σ54 23) (σ54 0 58) + σ54 0 60) := by rw [kt4_54, kt23_54, kf56_54, kf58_54, kf60_54]; exact hC
          refine And.intro rfl ?_
          refine And.intro (by omega) ?_
          exact hQ _ _ hF (Or.inl ⟨by omega, hC, (show (σ54 0 60 = 0 ∨ σ54 0 60 = 1) ∧ 0 ≤ σ54 0 56 ∧ 0 ≤ σ54 0 58 ∧ σ54 0 56 + σ54 0 58 ≤ 2 * σ54 0 57 - σ54 0 60 ∧ 0 ≤ σ54 0 57 ∧ σ54 0 57 ≤ 20 from by omega), (show (σ54 0 3) = σ 0 3 ∧ σ 0 4 ≤ (σ54 0 4) ∧ (σ54 0 4) ≤ (σ54 0 3) ∧ (1 ≤ (σ54 0 11) ∧ (σ54 0 11) ≤ 3 → σ 0 4 < (σ54 0 4)) ∧ (1 ≤ σ 0 11 ∧ σ 0 11 ≤ 3) from by omega)⟩)
        · exact lp_114 () (show True from by first | trivial | omega | (refine ⟨by assumption, ?_⟩; omega) | (refine ⟨?_, ?_⟩ <;> omega))
    · replace p39 : (σ1 0 11) = 1 := by
        rcases p39 with q | q
        · exact q.2
        · exact absurd q.1 (by omega)
      exact lp_24 () (show σ 0 11 = 1 from by first | trivial | omega | (refine ⟨by assumption, ?_⟩; omega) | (refine ⟨?_, ?_⟩ <;> omega))
