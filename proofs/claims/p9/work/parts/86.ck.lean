/-! What is known, as the class keeps it. -/
theorem Fr.fl {σ : xS} {t n : Nat} {v : Int} (h : 0 ≠ t) : Fr [t] [] σ (xfl σ t n v) := ⟨fun u h0 hn => by funext j; unfold xfl; rw [if_neg (fun e => hn (by simp [e]))], fun j _ => by unfold xfl; rw [if_neg h]⟩
theorem xfl_in {σ : xS} {t n j : Nat} {v : Int} (h : j < n) : xfl σ t n v t j = v := by unfold xfl; rw [if_pos rfl, if_pos h]
set_option maxHeartbeats 4000000 in
set_option maxRecDepth 100000 in
theorem sX3_sureOf {σ : xS} {p kind : Int} {Q : Option xV → xS → Prop} (hp0 : 0 ≤ p ∧ p ≤ 5) (hp1 : 0 ≤ kind ∧ kind ≤ 12) (hQ : ∀ r : Int, (r = σ 10 (13 * p + kind).toNat) → Q (some (xvi r)) σ) : xT kX3_sureOf [xvr 9, xvi p, xvi kind] σ Q := by
  refine ⟨Nat.le_of_ble_eq_true rfl, fun X hX => ?_⟩
  show X 0 [xvr 9, xvi p, xvi kind] σ
  refine hX 400 0 _ _ ?_
  intro z1 t1 e1 l1 h1
  try have w1 : t1 = 0 := by omega
  intro z2 t2 e2 l2 h2
  try have w2 : t2 = 0 := by omega
  refine And.intro (rfl) (And.intro (⟨by omega, by omega⟩) ?_)
  intro v3 e3 l3 h3
  have e3 : v3 = σ 10 z2.toNat := e3
  refine And.intro rfl ?_
  exact hQ _ (by rw [e3, show z2 = 13 * p + kind from by omega])
set_option maxHeartbeats 4000000 in
set_option maxRecDepth 100000 in
theorem sX3_setSure {σ : xS} {p kind cards : Int} {Q : Option xV → xS → Prop} (hp0 : 0 ≤ p ∧ p ≤ 5) (hp1 : 0 ≤ kind ∧ kind ≤ 12) (hQ : ∀ σ' : xS, Fr [10] [] σ σ' → (σ' 10 = up (σ 10) (13 * p + kind).toNat cards) → Q none σ') : xT kX3_setSure [xvr 9, xvi p, xvi kind, xvi cards] σ Q := by
  refine ⟨Nat.le_of_ble_eq_true rfl, fun X hX => ?_⟩
  show X 0 [xvr 9, xvi p, xvi kind, xvi cards] σ
  have hF : Fr [10] [] σ σ := Fr.rf
  refine hX 400 0 _ _ ?_
  intro z1 t1 e1 l1 h1
  try have w1 : t1 = 0 := by omega
  intro z2 t2 e2 l2 h2
  try have w2 : t2 = 0 := by omega
  refine And.intro (rfl) (And.intro (⟨by omega, by omega⟩) ?_)
  have hF := hF.pt (t := 10) (j := z2.toNat) (v := cards) (by decide) (by decide)
  refine And.intro rfl (And.intro rfl ?_)
  exact hQ _ hF (by rw [xput_up, show z2 = 13 * p + kind from by omega])
set_option maxHeartbeats 4000000 in
set_option maxRecDepth 100000 in
theorem sX3_othersOf {σ : xS} {p : Int} {Q : Option xV → xS → Prop} (hp0 : 0 ≤ σ 9 2 ∧ σ 9 2 ≤ 52) (hQ : ∀ r : Int, Q (some (xvi r)) σ) : xT kX3_othersOf [xvr 9, xvi p] σ Q := by
  refine ⟨Nat.le_of_ble_eq_true rfl, fun X hX => ?_⟩
  show X 0 [xvr 9, xvi p, xvu, xvu] σ
  refine hX 400 0 _ _ ?_
  refine And.intro (Nat.le_of_ble_eq_true rfl) ?_
  show xw _ _ _ _ _ _ _ _ _ _ [xvr 9, xvi p, xvi 0, xvu] _ _
  refine And.intro (Nat.le_of_ble_eq_true rfl) ?_
  show xw _ _ _ _ _ _ _ _ _ _ [xvr 9, xvi p, xvi 0, xvi 0] _ _
  have lp_4 : ∀ (m4 : Nat) (found : Int) (i : Int), ((52 - i).toNat) = m4 → (0 ≤ i ∧ i ≤ 52) → X 4 [xvr 9, xvi p, xvi found, xvi i] σ := by
    intro m4
    induction m4 using Nat.strongRecOn with
    | _ m4 ih_4 =>
    intro found i hm_4 hv_4
    refine hX 400 4 _ _ ?_
    intro v2 e2 l2 h2
    have e2 : v2 = σ 9 2 := e2
    refine And.intro (fun c3 => ?_) (fun c3 => ?_)
    · refine And.intro rfl ?_
      exact hQ _ 
    · refine And.intro (rfl) (And.intro (⟨by omega, by omega⟩) ?_)
      intro v4 e4 l4 h4
      have e4 : v4 = σ 11 i.toNat := e4
      intro z5 e5 l5 h5
      refine And.intro (fun c6 => ?_) (fun c6 => ?_)
      · refine hX 400 28 _ _ ?_
        intro z7 t7 e7 l7 h7
        try have w7 : t7 = 0 := by omega
        show xw _ _ _ _ _ _ _ _ _ _ [xvr 9, xvi p, xvi found, xvi z7] _ _
        exact ih_4 _ (show (52 - z7).toNat < m4 from by omega) found z7 rfl (show 0 ≤ z7 ∧ z7 ≤ 52 from by first | trivial | omega | (refine ⟨by assumption, ?_⟩; omega) | (refine ⟨?_, ?_⟩ <;> omega))
      · intro z8 t8 e8 l8 h8
        try have w8 : t8 = 0 := by omega
        show xw _ _ _ _ _ _ _ _ _ _ [xvr 9, xvi p, xvi z8, xvi i] _ _
        refine hX 400 28 _ _ ?_
        intro z9 t9 e9 l9 h9
        try have w9 : t9 = 0 := by omega
        show xw _ _ _ _ _ _ _ _ _ _ [xvr 9, xvi p, xvi z8, xvi z9] _ _
        exact ih_4 _ (show (52 - z9).toNat < m4 from by omega) z8 z9 rfl (show 0 ≤ z9 ∧ z9 ≤ 52 from by first | trivial | omega | (refine ⟨by assumption, ?_⟩; omega) | (refine ⟨?_, ?_⟩ <;> omega))
  exact lp_4 _ 0 0 rfl (show 0 ≤ 0 ∧ 0 ≤ 52 from by first | trivial | omega | (refine ⟨by assumption, ?_⟩; omega) | (refine ⟨?_, ?_⟩ <;> omega))
set_option maxHeartbeats 4000000 in
set_option maxRecDepth 100000 in
theorem sX3_mayBe {σ : xS} {p kind : Int} {Q : Option xV → xS → Prop} (hp0 : 0 ≤ σ 9 2 ∧ σ 9 2 ≤ 52) (hQ : ∀ r : Int, Q (some (xvi r)) σ) : xT kX3_mayBe [xvr 9, xvi p, xvi kind] σ Q := by
  refine ⟨Nat.le_of_ble_eq_true rfl, fun X hX => ?_⟩
  show X 0 [xvr 9, xvi p, xvi kind, xvu, xvu] σ
  refine hX 400 0 _ _ ?_
  refine And.intro (Nat.le_of_ble_eq_true rfl) ?_
  show xw _ _ _ _ _ _ _ _ _ _ [xvr 9, xvi p, xvi kind, xvi 0, xvu] _ _
  refine And.intro (Nat.le_of_ble_eq_true rfl) ?_
  show xw _ _ _ _ _ _ _ _ _ _ [xvr 9, xvi p, xvi kind, xvi 0, xvi 0] _ _
  have lp_5 : ∀ (m5 : Nat) (found : Int) (i : Int), ((52 - i).toNat) = m5 → (0 ≤ i ∧ i ≤ 52) → X 5 [xvr 9, xvi p, xvi kind, xvi found, xvi i] σ := by
    intro m5
    induction m5 using Nat.strongRecOn with
    | _ m5 ih_5 =>
    intro found i hm_5 hv_5
    refine hX 400 5 _ _ ?_
    intro v2 e2 l2 h2
    have e2 : v2 = σ 9 2 := e2
    refine And.intro (fun c3 => ?_) (fun c3 => ?_)
    · refine And.intro rfl ?_
      exact hQ _ 
    · refine And.intro (rfl) (And.intro (⟨by omega, by omega⟩) ?_)
      intro v4 e4 l4 h4
      have e4 : v4 = σ 11 i.toNat := e4
      intro z5 e5 l5 h5
      refine And.intro (fun c6 => ?_) (fun c6 => ?_)
      · refine hX 400 45 _ _ ?_
        intro z7 t7 e7 l7 h7
        try have w7 : t7 = 0 := by omega
        show xw _ _ _ _ _ _ _ _ _ _ [xvr 9, xvi p, xvi kind, xvi found, xvi z7] _ _
        exact ih_5 _ (show (52 - z7).toNat < m5 from by omega) found z7 rfl (show 0 ≤ z7 ∧ z7 ≤ 52 from by first | trivial | omega | (refine ⟨by assumption, ?_⟩; omega) | (refine ⟨?_, ?_⟩ <;> omega))
      · refine And.intro (rfl) (And.intro (⟨by omega, by omega⟩) ?_)
        intro v8 e8 l8 h8
        have e8 : v8 = σ 11 i.toNat := e8
        intro z9 e9 l9 h9
        intro z10 e10 l10 h10
        have q10 := x1b z9; rw [← e10] at q10
        refine And.intro (fun c11 => ?_) (fun c11 => ?_)
        · refine hX 400 45 _ _ ?_
          intro z12 t12 e12 l12 h12
          try have w12 : t12 = 0 := by omega
          show xw _ _ _ _ _ _ _ _ _ _ [xvr 9, xvi p, xvi kind, xvi found, xvi z12] _ _
          exact ih_5 _ (show (52 - z12).toNat < m5 from by omega) found z12 rfl (show 0 ≤ z12 ∧ z12 ≤ 52 from by first | trivial | omega | (refine ⟨by assumption, ?_⟩; omega) | (refine ⟨?_, ?_⟩ <;> omega))
        · intro z13 t13 e13 l13 h13
          try have w13 : t13 = 0 := by omega
          show xw _ _ _ _ _ _ _ _ _ _ [xvr 9, xvi p, xvi kind, xvi z13, xvi i] _ _
          refine hX 400 45 _ _ ?_
          intro z14 t14 e14 l14 h14
          try have w14 : t14 = 0 := by omega
          show xw _ _ _ _ _ _ _ _ _ _ [xvr 9, xvi p, xvi kind, xvi z13, xvi z14] _ _
          exact ih_5 _ (show (52 - z14).toNat < m5 from by omega) z13 z14 rfl (show 0 ≤ z14 ∧ z14 ≤ 52 from by first | trivial | omega | (refine ⟨by assumption, ?_⟩; omega) | (refine ⟨?_, ?_⟩ <;> omega))
  exact lp_5 _ 0 0 rfl (show 0 ≤ 0 ∧ 0 ≤ 52 from by first | trivial | omega | (refine ⟨by assumption, ?_⟩; omega) | (refine ⟨?_, ?_⟩ <;> omega))
set_option maxHeartbeats 4000000 in
set_option maxRecDepth 100000 in
theorem sX3_countOthers {σ : xS} {Q : Option xV → xS → Prop} (hQ : ∀ r : Int, (r = σ 9 2) → Q (some (xvi r)) σ) : xT kX3_countOthers [xvr 9] σ Q := by
  refine ⟨Nat.le_of_ble_eq_true rfl, fun X hX => ?_⟩
  show X 0 [xvr 9] σ
  refine hX 400 0 _ _ ?_
  intro v1 e1 l1 h1
  have e1 : v1 = σ 9 2 := e1
  refine And.intro rfl ?_
  exact hQ _ (show v1 = σ 9 2 from by first | trivial | omega)
set_option maxHeartbeats 4000000 in
set_option maxRecDepth 100000 in
theorem sX3_ownerAt {σ : xS} {i : Int} {Q : Option xV → xS → Prop} (hp0 : 0 ≤ σ 9 2 ∧ σ 9 2 ≤ 52) (hQ : ∀ r : Int, Q (some (xvi r)) σ) : xT kX3_ownerAt [xvr 9, xvi i] σ Q := by
  refine ⟨Nat.le_of_ble_eq_true rfl, fun X hX => ?_⟩
  show X 0 [xvr 9, xvi i] σ
  refine hX 400 0 _ _ ?_
  refine And.intro (fun c1 => ?_) (fun c1 => ?_)
  · refine hX 400 24 _ _ ?_
    refine And.intro rfl ?_
    exact hQ _ 
  · intro v2 e2 l2 h2
    have e2 : v2 = σ 9 2 := e2
    refine And.intro (fun c3 => ?_) (fun c3 => ?_)
    · refine hX 400 24 _ _ ?_
      refine And.intro rfl ?_
      exact hQ _ 
    · refine And.intro (rfl) (And.intro (⟨by omega, by omega⟩) ?_)
      intro v4 e4 l4 h4
      have e4 : v4 = σ 11 i.toNat := e4
      intro z5 e5 l5 h5
      refine And.intro rfl ?_
      exact hQ _ 
set_option maxHeartbeats 4000000 in
set_option maxRecDepth 100000 in
theorem sX3_barredAt {σ : xS} {i : Int} {Q : Option xV → xS → Prop} (hp0 : 0 ≤ σ 9 2 ∧ σ 9 2 ≤ 52) (hQ : ∀ r : Int, Q (some (xvi r)) σ) : xT kX3_barredAt [xvr 9, xvi i] σ Q := by
  refine ⟨Nat.le_of_ble_eq_true rfl, fun X hX => ?_⟩
  show X 0 [xvr 9, xvi i] σ
  refine hX 400 0 _ _ ?_
  refine And.intro (fun c1 => ?_) (fun c1 => ?_)
  · refine hX 400 25 _ _ ?_
    refine And.intro rfl ?_
    exact hQ _ 
  · intro v2 e2 l2 h2
    have e2 : v2 = σ 9 2 := e2
    refine And.intro (fun c3 => ?_) (fun c3 => ?_)
    · refine hX 400 25 _ _ ?_
      refine And.intro rfl ?_
      exact hQ _ 
    · refine And.intro (rfl) (And.intro (⟨by omega, by omega⟩) ?_)
      intro v4 e4 l4 h4
      have e4 : v4 = σ 11 i.toNat := e4
      intro z5 e5 l5 h5
      refine And.intro rfl ?_
      exact hQ _ 
set_option maxHeartbeats 4000000 in
set_option maxRecDepth 100000 in
theorem sX3_addOther {σ : xS} {p : Int} {Q : Option xV → xS → Prop} (hp0 : 0 ≤ σ 9 2 ∧ σ 9 2 ≤ 52) (hQ : ∀ σ' : xS, Fr [9, 11] [] σ σ' → (0 ≤ σ' 9 2 ∧ σ' 9 2 ≤ 52) → Q none σ') : xT kX3_addOther [xvr 9, xvi p] σ Q := by
  refine ⟨Nat.le_of_ble_eq_true rfl, fun X hX => ?_⟩
  show X 0 [xvr 9, xvi p] σ
  have hF : Fr [9, 11] [] σ σ := Fr.rf
  refine hX 400 0 _ _ ?_
  intro v1 e1 l1 h1
  have e1 : v1 = σ 9 2 := e1
  refine And.intro (fun c2 => ?_) (fun c2 => ?_)
  · refine hX 400 32 _ _ ?_
    refine And.intro rfl (And.intro rfl ?_)
    exact hQ _ hF (show 0 ≤ (σ 9 2) ∧ (σ 9 2) ≤ 52 from by first | trivial | omega)
  · intro v3 e3 l3 h3
    have e3 : v3 = σ 9 2 := e3
    intro z4 e4 l4 h4
    refine And.intro (rfl) (And.intro (⟨by omega, by omega⟩) ?_)
    have hF := hF.pt (t := 11) (j := v3.toNat) (v := z4) (by decide) (by decide)
    intro v6 e6 l6 h6
    have e6 : v6 = σ 9 2 := e6
    intro z7 t7 e7 l7 h7
    try have w7 : t7 = 0 := by omega
    have hF := hF.pt (t := 9) (j := 2) (v := z7) (by decide) (by decide)
    refine hX 400 32 _ _ ?_
    refine And.intro rfl (And.intro rfl ?_)
    exact hQ _ hF (show 0 ≤ (z7) ∧ (z7) ≤ 52 from by first | trivial | omega)
set_option maxHeartbeats 4000000 in
set_option maxRecDepth 100000 in
theorem sX3_reveal {σ : xS} {p kind : Int} {Q : Option xV → xS → Prop} (hp0 : 0 ≤ p ∧ p ≤ 5) (hp1 : 0 ≤ kind ∧ kind ≤ 12) (hp2 : 0 ≤ σ 9 2 ∧ σ 9 2 ≤ 52) (hp3 : -1000 ≤ σ 10 (13 * p + kind).toNat ∧ σ 10 (13 * p + kind).toNat ≤ 1000) (hQ : ∀ σ' : xS, Fr [9, 10, 11, 12] [] σ σ' → ((0 ≤ σ' 9 2 ∧ σ' 9 2 ≤ 52) ∧ (σ' 10 = σ 10 ∨ σ' 10 = up (σ 10) (13 * p + kind).toNat (σ 10 (13 * p + kind).toNat + 1))) → Q none σ') : xT kX3_reveal [xvr 9, xvi p, xvi kind] σ Q := by
  refine ⟨Nat.le_of_ble_eq_true rfl, fun X hX => ?_⟩
  show X 0 [xvr 9, xvi p, xvi kind, xvu, xvu, xvu] σ
  have hF : Fr [9, 10, 11, 12] [] σ σ := Fr.rf
  refine hX 400 0 _ _ ?_
  refine And.intro (Nat.le_of_ble_eq_true rfl) ?_
  show xw _ _ _ _ _ _ _ _ _ _ [xvr 9, xvi p, xvi kind, xvi (-1), xvu, xvu] _ _
  refine And.intro (Nat.le_of_ble_eq_true rfl) ?_
  show xw _ _ _ _ _ _ _ _ _ _ [xvr 9, xvi p, xvi kind, xvi (-1), xvi (-1), xvu] _ _
  intro v1 e1 l1 h1
  have e1 : v1 = σ 9 2 := e1
  intro z2 t2 e2 l2 h2
  try have w2 : t2 = 0 := by omega
  refine And.intro (Nat.le_of_ble_eq_true rfl) ?_
  show xw _ _ _ _ _ _ _ _ _ _ [xvr 9, xvi p, xvi kind, xvi (-1), xvi (-1), xvi z2] _ _
  have lp_13 : ∀ (m13 : Nat) (any : Int) (fit : Int) (i : Int), ((i + 1).toNat) = m13 → (-1 ≤ i ∧ i < σ 9 2 ∧ -1 ≤ any ∧ any < σ 9 2 ∧ -1 ≤ fit ∧ fit < σ 9 2 ∧ (any = -1 → fit = -1)) → X 13 [xvr 9, xvi p, xvi kind, xvi any, xvi fit, xvi i] σ := by
    intro m13
    induction m13 using Nat.strongRecOn with
    | _ m13 ih_13 =>
    intro any fit i hm_13 hv_13
    refine hX 400 13 _ _ ?_
    refine And.intro (fun c4 => ?_) (fun c4 => ?_)
    · refine And.intro (fun c5 => ?_) (fun c5 => ?_)
      · have lp_89 : ∀ (fit4 : Int) (s1 : xS), (Fr [9, 10, 11, 12] [] σ s1 ∧ s1 10 = σ 10 ∧ (s1 9 2 = σ 9 2) ∧ (0 ≤ fit4 ∧ fit4 < σ 9 2)) → X 89 [xvr 9, xvi p, xvi kind, xvi any, xvi fit4, xvi i] s1 := by
          intro fit4 s1 hv_89
          obtain ⟨hF, h10, h92, hv_89⟩ := hv_89
          refine hX 400 89 _ _ ?_
          refine And.intro (Nat.le_of_ble_eq_true rfl) ?_
          show xw _ _ _ _ _ _ _ _ _ _ [xvr 9, xvi p, xvi kind, xvi any, xvi fit4, xvi fit4] _ _
          have lp_93 : ∀ (m93 : Nat) (i5 : Int) (s2 : xS), ((52 - i5).toNat) = m93 → (Fr [9, 10, 11, 12] [] σ s2 ∧ s2 10 = σ 10 ∧ (s2 9 2 = σ 9 2) ∧ (0 ≤ i5 ∧ i5 < σ 9 2)) → X 93 [xvr 9, xvi p, xvi kind, xvi any, xvi fit4, xvi i5] s2 := by
            intro m93
            induction m93 using Nat.strongRecOn with
            | _ m93 ih_93 =>
            intro i5 s2 hm_93 hv_93
            obtain ⟨hF, h10, h92, hv_93⟩ := hv_93
            refine hX 400 93 _ _ ?_
            intro z8 t8 e8 l8 h8
            try have w8 : t8 = 0 := by omega
            intro v9 e9 l9 h9
            have e9 : v9 = s2 9 2 := e9
            refine And.intro (fun c10 => ?_) (fun c10 => ?_)
            · intro v11 e11 l11 h11
              have e11 : v11 = s2 9 2 := e11
              intro z12 t12 e12 l12 h12
              try have w12 : t12 = 0 := by omega
              have hF := hF.pt (t := 9) (j := 2) (v := z12) (by decide) (by decide)
              intro z14 t14 e14 l14 h14
              try have w14 : t14 = 0 := by omega
              intro z15 t15 e15 l15 h15
              try have w15 : t15 = 0 := by omega
              refine And.intro (rfl) (And.intro (⟨by omega, by omega⟩) ?_)
              intro v16 e16 l16 h16
              have e16 : v16 = s2 10 z15.toNat := e16
              have hwv16 : v16 = σ 10 (13 * p + kind).toNat := by rw [e16, h10, show z15 = 13 * p + kind from by omega]
              intro z17 t17 e17 l17 h17
              try have w17 : t17 = 0 := by omega
              refine And.intro (rfl) (And.intro (⟨by omega, by omega⟩) ?_)
              have hF := hF.pt (t := 10) (j := z15.toNat) (v := z17) (by decide) (by decide)
              refine And.intro rfl (And.intro rfl ?_)
              exact hQ _ hF ⟨(show 0 ≤ z12 ∧ z12 ≤ 52 from by omega), Or.inr (by rw [xput_up]; show up (s2 10) z15.toNat z17 = _; rw [h10, show z15 = 13 * p + kind from by omega, show z17 = σ 10 (13 * p + kind).toNat + 1 from by omega])⟩
            · intro z19 t19 e19 l19 h19
              try have w19 : t19 = 0 := by omega
              refine And.intro (rfl) (And.intro (⟨by omega, by omega⟩) ?_)
              intro v20 e20 l20 h20
              have e20 : v20 = s2 11 z19.toNat := e20
              refine And.intro (rfl) (And.intro (⟨by omega, by omega⟩) ?_)
              have hF := hF.pt (t := 11) (j := i5.toNat) (v := v20) (by decide) (by decide)
              intro z22 t22 e22 l22 h22
              try have w22 : t22 = 0 := by omega
              show xw _ _ _ _ _ _ _ _ _ _ [xvr 9, xvi p, xvi kind, xvi any, xvi fit4, xvi z22] _ _
              exact ih_93 _ (show (52 - z22).toNat < m93 from by omega) z22 (xput s2 11 i5.toNat v20) rfl ⟨hF, h10, h92, by omega⟩
          exact lp_93 _ fit4 s1 rfl ⟨hF, h10, h92, by omega⟩
        refine And.intro (fun c23 => ?_) (fun c23 => ?_)
        · exact lp_89 fit σ ⟨hF, rfl, rfl, by omega⟩
        · refine And.intro (rfl) (And.intro (⟨by omega, by omega⟩) ?_)
          intro v24 e24 l24 h24
          have e24 : v24 = σ 12 p.toNat := e24
          intro z25 t25 e25 l25 h25
          try have w25 : t25 = 0 := by omega
          refine And.intro (rfl) (And.intro (⟨by omega, by omega⟩) ?_)
          have hF := hF.pt (t := 12) (j := p.toNat) (v := z25) (by decide) (by decide)
          refine And.intro (Nat.le_of_ble_eq_true rfl) ?_
          show xw _ _ _ _ _ _ _ _ _ _ [xvr 9, xvi p, xvi kind, xvi any, xvi any, xvi i] _ _
          exact lp_89 any (xput σ 12 p.toNat z25) ⟨hF, rfl, rfl, by omega⟩
      · refine And.intro rfl (And.intro rfl ?_)
        exact hQ _ hF ⟨by omega, Or.inl rfl⟩
    · have lp_58 : ∀ (any3 : Int) (fit3 : Int), (-1 ≤ any3 ∧ any3 < σ 9 2 ∧ -1 ≤ fit3 ∧ fit3 < σ 9 2 ∧ (any3 = -1 → fit3 = -1)) → X 58 [xvr 9, xvi p, xvi kind, xvi any3, xvi fit3, xvi i] σ := by
        intro any3 fit3 hv_58
        refine hX 400 58 _ _ ?_
        intro z28 t28 e28 l28 h28
        try have w28 : t28 = 0 := by omega
        show xw _ _ _ _ _ _ _ _ _ _ [xvr 9, xvi p, xvi kind, xvi any3, xvi fit3, xvi z28] _ _
        exact ih_13 _ (show (z28 + 1).toNat < m13 from by omega) any3 fit3 z28 rfl (show -1 ≤ z28 ∧ z28 < σ 9 2 ∧ -1 ≤ any3 ∧ any3 < σ 9 2 ∧ -1 ≤ fit3 ∧ fit3 < σ 9 2 ∧ (any3 = -1 → fit3 = -1) from by first | trivial | omega | (refine ⟨by assumption, ?_⟩; omega) | (refine ⟨?_, ?_⟩ <;> omega))
      refine And.intro (rfl) (And.intro (⟨by omega, by omega⟩) ?_)
      intro v29 e29 l29 h29
      have e29 : v29 = σ 11 i.toNat := e29
      intro z30 e30 l30 h30
      refine And.intro (fun c31 => ?_) (fun c31 => ?_)
      · exact lp_58 any fit (show -1 ≤ any ∧ any < σ 9 2 ∧ -1 ≤ fit ∧ fit < σ 9 2 ∧ (any = -1 → fit = -1) from by first | trivial | omega | (refine ⟨by assumption, ?_⟩; omega) | (refine ⟨?_, ?_⟩ <;> omega))
      · refine And.intro (Nat.le_of_ble_eq_true rfl) ?_
        show xw _ _ _ _ _ _ _ _ _ _ [xvr 9, xvi p, xvi kind, xvi i, xvi fit, xvi i] _ _
        refine And.intro (rfl) (And.intro (⟨by omega, by omega⟩) ?_)
        intro v32 e32 l32 h32
        have e32 : v32 = σ 11 i.toNat := e32
        intro z33 e33 l33 h33
        intro z34 e34 l34 h34
        have q34 := x1b z33; rw [← e34] at q34
        refine And.intro (fun c35 => ?_) (fun c35 => ?_)
        · refine And.intro (Nat.le_of_ble_eq_true rfl) ?_
          show xw _ _ _ _ _ _ _ _ _ _ [xvr 9, xvi p, xvi kind, xvi i, xvi fit, xvi i] _ _
          exact lp_58 i fit (show -1 ≤ i ∧ i < σ 9 2 ∧ -1 ≤ fit ∧ fit < σ 9 2 ∧ (i = -1 → fit = -1) from by first | trivial | omega | (refine ⟨by assumption, ?_⟩; omega) | (refine ⟨?_, ?_⟩ <;> omega))
        · refine And.intro (Nat.le_of_ble_eq_true rfl) ?_
          show xw _ _ _ _ _ _ _ _ _ _ [xvr 9, xvi p, xvi kind, xvi i, xvi i, xvi i] _ _
          exact lp_58 i i (show -1 ≤ i ∧ i < σ 9 2 ∧ -1 ≤ i ∧ i < σ 9 2 ∧ (i = -1 → i = -1) from by first | trivial | omega | (refine ⟨by assumption, ?_⟩; omega) | (refine ⟨?_, ?_⟩ <;> omega))
  exact lp_13 _ (-1) (-1) z2 rfl (show -1 ≤ z2 ∧ z2 < σ 9 2 ∧ -1 ≤ (-1) ∧ (-1) < σ 9 2 ∧ -1 ≤ (-1) ∧ (-1) < σ 9 2 ∧ ((-1) = -1 → (-1) = -1) from by first | trivial | omega | (refine ⟨by assumption, ?_⟩; omega) | (refine ⟨?_, ?_⟩ <;> omega))
set_option maxHeartbeats 4000000 in
set_option maxRecDepth 100000 in
theorem sX3_barAll {σ : xS} {p kind : Int} {Q : Option xV → xS → Prop} (hp0 : 0 ≤ σ 9 2 ∧ σ 9 2 ≤ 52) (hQ : ∀ σ' : xS, Fr [11] [] σ σ' → Q none σ') : xT kX3_barAll [xvr 9, xvi p, xvi kind] σ Q := by
  refine ⟨Nat.le_of_ble_eq_true rfl, fun X hX => ?_⟩
  show X 0 [xvr 9, xvi p, xvi kind, xvu] σ
  have hF : Fr [11] [] σ σ := Fr.rf
  refine hX 400 0 _ _ ?_
  refine And.intro (Nat.le_of_ble_eq_true rfl) ?_
  show xw _ _ _ _ _ _ _ _ _ _ [xvr 9, xvi p, xvi kind, xvi 0] _ _
  have lp_2 : ∀ (m2 : Nat) (i : Int) (s1 : xS), ((52 - i).toNat) = m2 → (Fr [11] [] σ s1 ∧ s1 9 2 = σ 9 2 ∧ (0 ≤ i ∧ i ≤ 52)) → X 2 [xvr 9, xvi p, xvi kind, xvi i] s1 := by
    intro m2
    induction m2 using Nat.strongRecOn with
    | _ m2 ih_2 =>
    intro i s1 hm_2 hv_2
    obtain ⟨hF, h92, hv_2⟩ := hv_2
    refine hX 400 2 _ _ ?_
    intro v2 e2 l2 h2
    have e2 : v2 = s1 9 2 := e2
    refine And.intro (fun c3 => ?_) (fun c3 => ?_)
    · refine And.intro rfl (And.intro rfl ?_)
      exact hQ _ hF 
    · refine And.intro (rfl) (And.intro (⟨by omega, by omega⟩) ?_)
      intro v4 e4 l4 h4
      have e4 : v4 = s1 11 i.toNat := e4
      intro z5 e5 l5 h5
      refine And.intro (fun c6 => ?_) (fun c6 => ?_)
      · refine hX 400 35 _ _ ?_
        intro z7 t7 e7 l7 h7
        try have w7 : t7 = 0 := by omega
        show xw _ _ _ _ _ _ _ _ _ _ [xvr 9, xvi p, xvi kind, xvi z7] _ _
        exact ih_2 _ (show (52 - z7).toNat < m2 from by omega) z7 s1 rfl ⟨hF, h92, by omega⟩
      · refine And.intro (rfl) (And.intro (⟨by omega, by omega⟩) ?_)
        intro v8 e8 l8 h8
        have e8 : v8 = s1 11 i.toNat := e8
        intro z9 e9 l9 h9
        intro z10 e10 l10 h10
        refine And.intro (rfl) (And.intro (⟨by omega, by omega⟩) ?_)
        have hF := hF.pt (t := 11) (j := i.toNat) (v := z10) (by decide) (by decide)
        refine hX 400 35 _ _ ?_
        intro z12 t12 e12 l12 h12
        try have w12 : t12 = 0 := by omega
        show xw _ _ _ _ _ _ _ _ _ _ [xvr 9, xvi p, xvi kind, xvi z12] _ _
        exact ih_2 _ (show (52 - z12).toNat < m2 from by omega) z12 (xput s1 11 i.toNat z10) rfl ⟨hF, h92, by omega⟩
  exact lp_2 _ 0 σ rfl ⟨hF, rfl, by omega⟩
set_option maxHeartbeats 4000000 in
set_option maxRecDepth 100000 in
theorem sX3_denies {σ : xS} {p kind : Int} {Q : Option xV → xS → Prop} (hp0 : 0 ≤ p ∧ p ≤ 5) (hp1 : 0 ≤ kind ∧ kind ≤ 12) (hp2 : 0 ≤ σ 9 2 ∧ σ 9 2 ≤ 52) (hp3 : σ 10 (13 * p + kind).toNat ≤ 1000) (hQ : ∀ σ' : xS, Fr [9, 10, 11, 12] [] σ σ' → ((0 ≤ σ' 9 2 ∧ σ' 9 2 ≤ 52) ∧ ((σ' 10 = σ 10 ∧ σ 10 (13 * p + kind).toNat ≤ 0) ∨ σ' 10 = up (σ 10) (13 * p + kind).toNat 0)) → Q none σ') : xT kX3_denies [xvr 9, xvi p, xvi kind] σ Q := by
  refine ⟨Nat.le_of_ble_eq_true rfl, fun X hX => ?_⟩
  show X 0 [xvr 9, xvi p, xvi kind, xvu, xvu] σ
  have hF : Fr [9, 10, 11, 12] [] σ σ := Fr.rf
  refine hX 400 0 _ _ ?_
  refine sX3_sureOf (σ := σ) (p := p) (kind := kind) (show 0 ≤ p ∧ p ≤ 5 from by omega) (show 0 ≤ kind ∧ kind ≤ 12 from by omega) (fun r1 p1 => ?_)
  have p1 : r1 = σ 10 (13 * p + kind).toNat := p1
  refine And.intro (Nat.le_of_ble_eq_true rfl) ?_
  show xw _ _ _ _ _ _ _ _ _ _ [xvr 9, xvi p, xvi kind, xvi r1, xvu] _ _
  have lp_28 : ∀ (s1 : xS), (Fr [9, 10, 11, 12] [] σ s1 ∧ s1 9 2 = σ 9 2 ∧ ((s1 10 = σ 10 ∧ σ 10 (13 * p + kind).toNat ≤ 0) ∨ s1 10 = up (σ 10) (13 * p + kind).toNat 0)) → X 28 [xvr 9, xvi p, xvi kind, xvi r1, xvu] s1 := by
    intro s1 hv_28
    obtain ⟨hF, h92, hd1⟩ := hv_28
    refine hX 400 28 _ _ ?_
    refine And.intro (Nat.le_of_ble_eq_true rfl) ?_
    show xw _ _ _ _ _ _ _ _ _ _ [xvr 9, xvi p, xvi kind, xvi r1, xvi 0] _ _
    have lp_31 : ∀ (m31 : Nat) (i : Int) (s2 : xS), ((1000 - i).toNat) = m31 → (Fr [9, 10, 11, 12] [] σ s2 ∧ (0 ≤ s2 9 2 ∧ s2 9 2 ≤ 52) ∧ ((s2 10 = σ 10 ∧ σ 10 (13 * p + kind).toNat ≤ 0) ∨ s2 10 = up (σ 10) (13 * p + kind).toNat 0) ∧ 0 ≤ i) → X 31 [xvr 9, xvi p, xvi kind, xvi r1, xvi i] s2 := by
      intro m31
      induction m31 using Nat.strongRecOn with
      | _ m31 ih_31 =>
      intro i s2 hm_31 hv_31
      obtain ⟨hF, h92, hd2, hv_31⟩ := hv_31
      refine hX 400 31 _ _ ?_
      refine And.intro (fun c4 => ?_) (fun c4 => ?_)
      · refine sX3_barAll (σ := s2) (p := p) (kind := kind) (by omega) (fun σ5 f5 => ?_)
        have hF := hF.tr f5 (by decide) (by decide)
        have k10 : σ5 10 = s2 10 := f5.1 10 (by decide) (by decide)
        have k9 := congrFun (f5.1 9 (by decide) (by decide)) 2
        refine And.intro rfl (And.intro rfl ?_)
        exact hQ _ hF ⟨by omega, (by rw [k10]; exact hd2)⟩
      · refine sX3_addOther (σ := s2) (p := p) (by omega) (fun σ6 f6 p6 => ?_)
        have hF := hF.tr f6 (by decide) (by decide)
        have k10 : σ6 10 = s2 10 := f6.1 10 (by decide) (by decide)
        intro z7 t7 e7 l7 h7
        try have w7 : t7 = 0 := by omega
        show xw _ _ _ _ _ _ _ _ _ _ [xvr 9, xvi p, xvi kind, xvi r1, xvi z7] _ _
        exact ih_31 _ (show (1000 - z7).toNat < m31 from by omega) z7 σ6 rfl ⟨hF, by omega, (by rw [k10]; exact hd2), by omega⟩
    exact lp_31 _ 0 s1 rfl ⟨hF, by omega, hd1, by omega⟩
  refine And.intro (fun c8 => ?_) (fun c8 => ?_)
  · exact lp_28 σ ⟨hF, rfl, Or.inl ⟨rfl, by omega⟩⟩
  · refine And.intro (rfl) (And.intro (⟨by omega, by omega⟩) ?_)
    intro v9 e9 l9 h9
    have e9 : v9 = σ 12 p.toNat := e9
    intro z10 t10 e10 l10 h10
    try have w10 : t10 = 0 := by omega
    refine And.intro (rfl) (And.intro (⟨by omega, by omega⟩) ?_)
    have hF := hF.pt (t := 12) (j := p.toNat) (v := z10) (by decide) (by decide)
    refine sX3_setSure (σ := (xput σ 12 p.toNat z10)) (p := p) (kind := kind) (cards := 0) (by omega) (by omega) (fun σ12 f12 p12 => ?_)
    have hF := hF.tr f12 (by decide) (by decide)
    have k92 : σ12 9 2 = σ 9 2 := congrFun (f12.1 9 (by decide) (by decide)) 2
    exact lp_28 σ12 ⟨hF, k92, Or.inr (by rw [p12]; rfl)⟩
set_option maxHeartbeats 4000000 in
set_option maxRecDepth 100000 in
theorem sX3_clear {σ : xS} {Q : Option xV → xS → Prop} (hQ : ∀ σ' : xS, Fr [9, 10, 12] [] σ σ' → (σ' 9 2 = 0 ∧ ∀ i : Nat, i < 78 → σ' 10 i = 0) → Q none σ') : xT kX3_clear [xvr 9] σ Q := by
  refine ⟨Nat.le_of_ble_eq_true rfl, fun X hX => ?_⟩
  show X 0 [xvr 9] σ
  have hF : Fr [9, 10, 12] [] σ σ := Fr.rf
  refine hX 400 0 _ _ ?_
  refine And.intro (by decide) ?_
  generalize hfl1 : xfl σ 10 78 0 = σ1
  have f1 : Fr [10] [] σ σ1 := hfl1 ▸ Fr.fl (by decide)
  have v1 : ∀ j : Nat, j < 78 → σ1 10 j = 0 := fun j hj => by rw [← hfl1]; exact xfl_in hj
  have hF := hF.tr f1 (by decide) (by decide)
  have c10 := v1
  refine And.intro (by decide) ?_
  generalize hfl2 : xfl σ1 12 6 0 = σ2
  have f2 : Fr [12] [] σ1 σ2 := hfl2 ▸ Fr.fl (by decide)
  have v2 : ∀ j : Nat, j < 6 → σ2 12 j = 0 := fun j hj => by rw [← hfl2]; exact xfl_in hj
  have hF := hF.tr f2 (by decide) (by decide)
  have hF := hF.pt (t := 9) (j := 2) (v := 0) (by decide) (by decide)
  refine And.intro rfl (And.intro rfl ?_)
  exact hQ _ hF ⟨rfl, fun i hi => (show σ2 10 i = 0 from by rw [f2.1 10 (by decide) (by decide)]; exact c10 i hi)⟩
