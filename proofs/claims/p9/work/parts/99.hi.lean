/-! The reference's draws, on the way. -/
def shP (f : Nat → Int) (i : Int) : Nat → Int := fun j => if j = 7 then f 7 - 1 else if 8 ≤ j ∧ (j : Int) < 8 + i then f (j + 1) else f j
theorem shP_z {f : Nat → Int} : up f 7 (f 7 - 1) = shP f 0 := by
  funext j
  unfold shP up
  by_cases e : j = 7
  · rw [if_pos e, if_pos e]
  · rw [if_neg e, if_neg e, if_neg (by omega)]
theorem shP_s {f : Nat → Int} {i : Int} (h : 0 ≤ i) : up (shP f i) (8 + i.toNat) (f (8 + i.toNat + 1)) = shP f (i + 1) := by
  funext j
  by_cases e : j = 8 + i.toNat
  · subst e
    rw [up_s]
    unfold shP
    rw [if_neg (by omega), if_pos ⟨by omega, by omega⟩]
  · rw [up_n e]
    unfold shP
    by_cases e2 : j = 7
    · rw [if_pos e2, if_pos e2]
    · rw [if_neg e2, if_neg e2]
      by_cases e3 : 8 ≤ j ∧ (j : Int) < 8 + i
      · rw [if_pos e3, if_pos ⟨e3.1, by omega⟩]
      · rw [if_neg e3, if_neg (by omega)]
theorem shP_e {f : Nat → Int} : shP f (f 7 - 1) = popF f := rfl
theorem shP_o {f : Nat → Int} {i : Int} {j : Nat} (h : j ≠ 7) (h2 : j < 8 ∨ 8 + i ≤ (j : Int)) : shP f i j = f j := by
  unfold shP
  rw [if_neg h, if_neg (by omega)]
theorem aft_mod {n x : Int} (h : 0 ≤ x) (hn : 0 < n) : aft n (x % n) = (x + 1) % n := by
  have a := Int.emod_nonneg x (show n ≠ 0 by omega)
  have b := Int.emod_lt_of_pos x hn
  have e : (x + 1) % n = (x % n + 1) % n := by rw [Int.emod_add_emod]
  rw [e]
  unfold aft
  by_cases c : x % n + 1 < n
  · rw [if_pos c, Int.emod_eq_of_lt (by omega) c]
  · rw [if_neg c, show x % n + 1 = n from by omega, Int.emod_self]
set_option maxHeartbeats 4000000 in
set_option maxRecDepth 100000 in
theorem s_handMF {σ : xS} {k kind more : Int} {Q : Option xV → xS → Prop} (hp0 : 0 ≤ k ∧ k ≤ 5) (hp1 : 0 ≤ kind ∧ kind ≤ 12) (hp2 : -1000 ≤ σ 2 (60 + 13 * k.toNat + kind.toNat) + more ∧ σ 2 (60 + 13 * k.toNat + kind.toNat) + more ≤ 1000) (hQ : ∀ r : Int, ∀ σ' : xS, Fr [2] [] σ σ' → (r = σ 2 (60 + 13 * k.toNat + kind.toNat) + more ∧ σ' 2 = up (σ 2) (60 + 13 * k.toNat + kind.toNat) (σ 2 (60 + 13 * k.toNat + kind.toNat) + more)) → Q (some (xvi r)) σ') : xT kX11_handOf [xvr 0, xvi k, xvi kind, xvi more] σ Q := by
  refine ⟨Nat.le_of_ble_eq_true rfl, fun X hX => ?_⟩
  show X 0 [xvr 0, xvi k, xvi kind, xvi more] σ
  have hF : Fr [2] [] σ σ := Fr.rf
  refine hX 400 0 _ _ ?_
  intro z1 t1 e1 l1 h1
  try have w1 : t1 = 0 := by omega
  intro z2 t2 e2 l2 h2
  try have w2 : t2 = 0 := by omega
  intro z3 t3 e3 l3 h3
  try have w3 : t3 = 0 := by omega
  refine And.intro (rfl) (And.intro (⟨by omega, by omega⟩) ?_)
  intro v4 e4 l4 h4
  have e4 : v4 = σ 2 z3.toNat := e4
  rw [show z3.toNat = (60 + 13 * k.toNat + kind.toNat) from by omega] at e4
  intro z5 t5 e5 l5 h5
  try have w5 : t5 = 0 := by omega
  refine And.intro (rfl) (And.intro (⟨by omega, by omega⟩) ?_)
  have hF := hF.pt (t := 2) (j := z3.toNat) (v := z5) (by decide) (by decide)
  intro z7 t7 e7 l7 h7
  try have w7 : t7 = 0 := by omega
  intro z8 t8 e8 l8 h8
  try have w8 : t8 = 0 := by omega
  intro z9 t9 e9 l9 h9
  try have w9 : t9 = 0 := by omega
  refine And.intro (rfl) (And.intro (⟨by omega, by omega⟩) ?_)
  intro v10 e10 l10 h10
  have e10 : v10 = (xput σ 2 z3.toNat z5) 2 z9.toNat := e10
  rw [show z9.toNat = z3.toNat from by omega, xput_s] at e10
  refine And.intro rfl ?_
  exact hQ _ _ hF ⟨by omega, by
      show xput σ 2 z3.toNat z5 2 = _
      rw [xput_up, show z3.toNat = (60 + 13 * k.toNat + kind.toNat) from by omega, show z5 = σ 2 (60 + 13 * k.toNat + kind.toNat) + more from by omega]⟩
set_option maxHeartbeats 4000000 in
set_option maxRecDepth 100000 in
theorem s_booksF {σ : xS} {k kind : Int} {Q : Option xV → xS → Prop} (hp0 : 0 ≤ k ∧ k ≤ 5) (hp1 : 0 ≤ kind ∧ kind ≤ 12) (hp2 : VX (σ 2)) (hQ : ∀ r : Int, ∀ σ' : xS, Fr [2] [] σ σ' → (σ' 2 = booksF (σ 2) k.toNat kind.toNat ∧ r = if σ 2 (60 + 13 * k.toNat + kind.toNat) < 4 then 0 else 1) → Q (some (xvi r)) σ') : xT kX11_books [xvr 0, xvi k, xvi kind] σ Q := by
  refine ⟨Nat.le_of_ble_eq_true rfl, fun X hX => ?_⟩
  show X 0 [xvr 0, xvi k, xvi kind, xvu] σ
  have hF : Fr [2] [] σ σ := Fr.rf
  refine hX 400 0 _ _ ?_
  obtain ⟨hk, h4⟩ := kn_r hp2.1 (p := k.toNat) (k := kind.toNat) (by omega) (by omega)
  refine s_hand0v (σ := σ) (k := k) (kind := kind) hp2.1 hp0 hp1 (fun r1 p1 => ?_)
  rw [show (60 + 13 * k + kind).toNat = (60 + 13 * k.toNat + kind.toNat) from by omega] at p1
  refine And.intro (fun c2 => ?_) (fun c2 => ?_)
  · intro z3 t3 e3 l3 h3
    try have w3 : t3 = 0 := by omega
    intro z4 t4 e4 l4 h4
    try have w4 : t4 = 0 := by omega
    intro z5 t5 e5 l5 h5
    try have w5 : t5 = 0 := by omega
    refine And.intro (rfl) (And.intro (⟨by omega, by omega⟩) ?_)
    intro v6 e6 l6 h6
    have e6 : v6 = σ 2 z5.toNat := e6
    rw [show z5.toNat = (151 + 13 * k.toNat + kind.toNat) from by omega] at e6
    refine And.intro (Nat.le_of_ble_eq_true rfl) ?_
    show xw _ _ _ _ _ _ _ _ _ _ [xvr 0, xvi k, xvi kind, xvi v6] _ _
    have lp_29 : ∀ (m29 : Nat) (i : Int) (s1 : xS), ((5 - i).toNat) = m29 → (Fr [2] [] σ s1 ∧ s1 2 = itL (σ 2) k.toNat kind (i - σ 2 (151 + 13 * k.toNat + kind.toNat)).toNat ∧ (σ 2 (151 + 13 * k.toNat + kind.toNat) ≤ i ∧ i ≤ 4)) → X 29 [xvr 0, xvi k, xvi kind, xvi i] s1 := by
      intro m29
      induction m29 using Nat.strongRecOn with
      | _ m29 ih_29 =>
      intro i s1 hm_29 hv_29
      obtain ⟨hF, hE, hv_29⟩ := hv_29
      obtain ⟨vX, vk, vh, _, _⟩ := itL_v (kind := kind) hp2 (k := k.toNat) (by omega) hp1 (i - σ 2 (151 + 13 * k.toNat + kind.toNat)).toNat (show σ 2 (151 + 13 * k.toNat + kind.toNat) + ((i - σ 2 (151 + 13 * k.toNat + kind.toNat)).toNat : Int) ≤ σ 2 (60 + 13 * k.toNat + kind.toNat) from by omega)
      rw [← hE] at vX vk vh
      have vh0 : s1 2 (60 + 13 * k.toNat + kind.toNat) = σ 2 (60 + 13 * k.toNat + kind.toNat) := vh k.toNat kind.toNat (by omega) (by omega)
      refine hX 400 29 _ _ ?_
      refine And.intro (fun c8 => ?_) (fun c8 => ?_)
      · intro z9 t9 e9 l9 h9
        try have w9 : t9 = 0 := by omega
        intro z10 t10 e10 l10 h10
        try have w10 : t10 = 0 := by omega
        intro z11 t11 e11 l11 h11
        try have w11 : t11 = 0 := by omega
        refine And.intro (rfl) (And.intro (⟨by omega, by omega⟩) ?_)
        have hF := hF.pt (t := 2) (j := z11.toNat) (v := 0) (by decide) (by decide)
        have x67 : (xput s1 2 z11.toNat 0) 2 (60 + 13 * k.toNat + kind.toNat) = s1 2 (60 + 13 * k.toNat + kind.toNat) := xput_o (by omega)
        refine s_handMF (σ := (xput s1 2 z11.toNat 0)) (k := k) (kind := kind) (more := -4) hp0 hp1 (by rw [x67]; omega) (fun r13 σ13 f13 p13 => ?_)
        have hF := hF.tr f13 (by decide) (by decide)
        intro z14 t14 e14 l14 h14
        try have w14 : t14 = 0 := by omega
        intro z15 t15 e15 l15 h15
        try have w15 : t15 = 0 := by omega
        refine And.intro (rfl) (And.intro (⟨by omega, by omega⟩) ?_)
        have hF := hF.pt (t := 2) (j := z14.toNat) (v := z15) (by decide) (by decide)
        refine And.intro rfl ?_
        refine And.intro (by omega) ?_
        exact hQ _ _ hF ⟨by
          show xput σ13 2 z14.toNat z15 2 = _
          rw [xput_up, p13.2, xput_up, show z11.toNat = (151 + 13 * k.toNat + kind.toNat) from by omega, show z14.toNat = 138 + kind.toNat from by omega, show z15 = (k.toNat : Int) + 1 from by omega, up_n (show (60 + 13 * k.toNat + kind.toNat) ≠ (151 + 13 * k.toNat + kind.toNat) from by omega), show s1 2 (60 + 13 * k.toNat + kind.toNat) + -4 = s1 2 (60 + 13 * k.toNat + kind.toNat) - 4 from by omega]
          unfold booksF bkF
          rw [if_neg (by omega), show ((kind.toNat : Nat) : Int) = kind from by omega, show 4 - σ 2 (151 + 13 * k.toNat + kind.toNat) = i - σ 2 (151 + 13 * k.toNat + kind.toNat) from by omega, ← hE], by rw [if_neg (by omega)]⟩
      · refine s_learnsF (σ := s1) (k := k) (kind := kind) hp0 hp1 (vX.1.w k.toNat (by omega)) vX.2 (by unfold kn at vk; omega) (fun σ17 f17 p17 => ?_)
        have hF := hF.tr f17 (by decide) (by decide)
        intro z18 t18 e18 l18 h18
        try have w18 : t18 = 0 := by omega
        show xw _ _ _ _ _ _ _ _ _ _ [xvr 0, xvi k, xvi kind, xvi z18] _ _
        exact ih_29 _ (show (5 - z18).toNat < m29 from by omega) z18 σ17 rfl ⟨hF, (by rw [p17, hE, show (z18 - σ 2 (151 + 13 * k.toNat + kind.toNat)).toNat = (i - σ 2 (151 + 13 * k.toNat + kind.toNat)).toNat + 1 from by omega]; rfl), by omega⟩
    exact lp_29 _ v6 σ rfl ⟨hF, (by rw [show (v6 - σ 2 (151 + 13 * k.toNat + kind.toNat)).toNat = 0 from by omega]; rfl), by omega⟩
  · refine And.intro rfl ?_
    refine And.intro (by omega) ?_
    exact hQ _ _ hF ⟨by unfold booksF; rw [if_pos (by omega)], by rw [if_pos (by omega)]⟩
set_option maxHeartbeats 4000000 in
set_option maxRecDepth 100000 in
theorem s_drawsF {σ : xS} {k : Int} {Q : Option xV → xS → Prop} (hp0 : V0 (σ 2)) (hp1 : 0 ≤ k ∧ k < σ 2 1) (hp2 : 1 ≤ σ 2 7) (hQ : ∀ r : Int, ∀ σ' : xS, Fr [2] [] σ σ' → (r = σ 2 8 ∧ σ' 2 = drawsF (σ 2) k.toNat) → Q (some (xvi r)) σ') : xT kX11_draws [xvr 0, xvi k] σ Q := by
  refine ⟨Nat.le_of_ble_eq_true rfl, fun X hX => ?_⟩
  show X 0 [xvr 0, xvi k, xvu, xvu] σ
  have hF : Fr [2] [] σ σ := Fr.rf
  refine hX 400 0 _ _ ?_
  have m0 := hp0.1.1; have m1 := hp0.1.2.1; have m3 := hp0.1.2.2.1; have m7 := hp0.1.2.2.2; have hc := hp0.c8 hp2
  refine And.intro (rfl) (And.intro (⟨by omega, by omega⟩) ?_)
  intro v1 e1 l1 h1
  have e1 : v1 = σ 2 8 := e1
  refine And.intro (Nat.le_of_ble_eq_true rfl) ?_
  show xw _ _ _ _ _ _ _ _ _ _ [xvr 0, xvi k, xvi v1, xvu] _ _
  refine And.intro (rfl) (And.intro (⟨by omega, by omega⟩) ?_)
  intro v2 e2 l2 h2
  have e2 : v2 = σ 2 7 := e2
  intro z3 t3 e3 l3 h3
  try have w3 : t3 = 0 := by omega
  refine And.intro (rfl) (And.intro (⟨by omega, by omega⟩) ?_)
  have hF := hF.pt (t := 2) (j := 7) (v := z3) (by decide) (by decide)
  refine And.intro (Nat.le_of_ble_eq_true rfl) ?_
  show xw _ _ _ _ _ _ _ _ _ _ [xvr 0, xvi k, xvi v1, xvi 0] _ _
  have lp_21 : ∀ (m21 : Nat) (i : Int) (s1 : xS), ((52 - i).toNat) = m21 → (Fr [2] [] σ s1 ∧ s1 2 = shP (σ 2) i ∧ (0 ≤ i ∧ i ≤ σ 2 7 - 1)) → X 21 [xvr 0, xvi k, xvi v1, xvi i] s1 := by
    intro m21
    induction m21 using Nat.strongRecOn with
    | _ m21 ih_21 =>
    intro i s1 hm_21 hv_21
    obtain ⟨hF, hE, hv_21⟩ := hv_21
    have h7 : s1 2 7 = σ 2 7 - 1 := by rw [hE]; exact if_pos rfl
    refine hX 400 21 _ _ ?_
    refine And.intro (rfl) (And.intro (⟨by omega, by omega⟩) ?_)
    intro v6 e6 l6 h6
    have e6 : v6 = s1 2 7 := e6
    refine And.intro (fun c7 => ?_) (fun c7 => ?_)
    · have hc8 : v1 = σ 2 8 := by omega
      have hhc := (kn_r hp0 (p := k.toNat) (k := (σ 2 8).toNat) (by omega) (by omega)).2
      have x62 : s1 2 (60 + 13 * k.toNat + v1.toNat) = σ 2 (60 + 13 * k.toNat + (σ 2 8).toNat) := by rw [hE, hc8]; exact shP_o (by omega) (by omega)
      refine s_handMF (σ := s1) (k := k) (kind := v1) (more := 1) (by omega) (by omega) (by rw [x62]; omega) (fun r8 σ8 f8 p8 => ?_)
      have hF := hF.tr f8 (by decide) (by decide)
      rw [x62] at p8
      intro z9 t9 e9 l9 h9
      try have w9 : t9 = 0 := by omega
      intro z10 t10 e10 l10 h10
      try have w10 : t10 = 0 := by omega
      refine And.intro (rfl) (And.intro (⟨by omega, by omega⟩) ?_)
      have hF := hF.pt (t := 2) (j := z9.toNat) (v := z10) (by decide) (by decide)
      refine And.intro rfl ?_
      exact hQ _ _ hF ⟨by omega, by
        show xput σ8 2 z9.toNat z10 2 = _
        rw [xput_up, p8.2, hE, show i = σ 2 7 - 1 from by omega, shP_e, show z9.toNat = 565 + k.toNat from by omega, show z10 = σ 2 8 + 1 from by omega, hc8]
        rfl⟩
    · intro z12 t12 e12 l12 h12
      try have w12 : t12 = 0 := by omega
      intro z13 t13 e13 l13 h13
      try have w13 : t13 = 0 := by omega
      intro z14 t14 e14 l14 h14
      try have w14 : t14 = 0 := by omega
      refine And.intro (rfl) (And.intro (⟨by omega, by omega⟩) ?_)
      intro v15 e15 l15 h15
      have e15 : v15 = s1 2 z14.toNat := e15
      rw [show z14.toNat = 8 + i.toNat + 1 from by omega, hE, shP_o (by omega) (by omega)] at e15
      refine And.intro (rfl) (And.intro (⟨by omega, by omega⟩) ?_)
      have hF := hF.pt (t := 2) (j := z12.toNat) (v := v15) (by decide) (by decide)
      intro z17 t17 e17 l17 h17
      try have w17 : t17 = 0 := by omega
      show xw _ _ _ _ _ _ _ _ _ _ [xvr 0, xvi k, xvi v1, xvi z17] _ _
      exact ih_21 _ (show (52 - z17).toNat < m21 from by omega) z17 (xput s1 2 z12.toNat v15) rfl ⟨hF, (by
                show xput s1 2 z12.toNat v15 2 = _
                rw [xput_up, hE, show z12.toNat = 8 + i.toNat from by omega, show v15 = σ 2 (8 + i.toNat + 1) from by omega, show z17 = i + 1 from by omega]; exact shP_s (by omega)), by omega⟩
  exact lp_21 _ 0 (xput σ 2 7 z3) rfl ⟨hF, (by
            show xput σ 2 7 z3 2 = _
            rw [xput_up, show z3 = σ 2 7 - 1 from by omega]; exact shP_z), by omega⟩
