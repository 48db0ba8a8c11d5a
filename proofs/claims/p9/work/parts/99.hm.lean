theorem dnI_z {f : Nat → Int} {k kind : Nat} : dnI f k kind 0 = f := by
  funext i
  unfold dnI
  by_cases c : i = 151 + 13 * k + kind
  · rw [c, up_s]; show f _ - ((0 : Nat) : Int) = f _; omega
  · rw [up_n c]; rfl
theorem dnI_k {f : Nat → Int} {k kind j : Nat} : dnI f k kind j (151 + 13 * k + kind) = f (151 + 13 * k + kind) - j := up_s
theorem dnI_s {f : Nat → Int} {k kind j : Nat} (hk : 151 + 13 * k + kind < 229) : up (addsF (dnI f k kind j) k 0) (151 + 13 * k + kind) (f (151 + 13 * k + kind) - j - 1) = dnI f k kind (j + 1) := by
  unfold dnI
  rw [addsF_up hk, upx_up, show f (151 + 13 * k + kind) - ((j + 1 : Nat) : Int) = f (151 + 13 * k + kind) - j - 1 from by omega]
  rfl
theorem can_0 {f : Nat → Int} {p : Nat} {kind : Int} : ∀ n : Nat, (∀ r : Nat, r < n → ¬ bF (f (235 + 52 * p + r)) kind = 0) → canN f p kind n = 0
  | 0, _ => rfl
  | n + 1, h => by
    show canN f p kind n + (if bF (f (235 + 52 * p + n)) kind = 0 then 1 else 0) = 0
    rw [can_0 n (fun r hr => h r (by omega)), if_neg (h n (by omega))]
    rfl
theorem can_nn {f : Nat → Int} {p : Nat} {kind : Int} : ∀ n : Nat, 0 ≤ canN f p kind n ∧ canN f p kind n ≤ n
  | 0 => ⟨Int.le_refl 0, Int.le_refl 0⟩
  | n + 1 => by
    have z := can_nn (f := f) (p := p) (kind := kind) n
    show 0 ≤ canN f p kind n + (if bF (f (235 + 52 * p + n)) kind = 0 then 1 else 0) ∧ canN f p kind n + (if bF (f (235 + 52 * p + n)) kind = 0 then 1 else 0) ≤ ((n + 1 : Nat) : Int)
    split <;> omega
theorem can_1 {f : Nat → Int} {p : Nat} {kind : Int} {r : Nat} (h : bF (f (235 + 52 * p + r)) kind = 0) : ∀ n : Nat, r < n → 0 < canN f p kind n
  | 0, hr => absurd hr (Nat.not_lt_zero _)
  | n + 1, hr => by
    have z := (can_nn (f := f) (p := p) (kind := kind) n).1
    show 0 < canN f p kind n + (if bF (f (235 + 52 * p + n)) kind = 0 then 1 else 0)
    by_cases e : r = n
    · subst e; rw [if_pos h]; omega
    · have w := can_1 h n (by omega)
      split <;> omega
set_option maxHeartbeats 4000000 in
set_option maxRecDepth 100000 in
theorem s_sureOfF {σ : xS} {b kind : Int} {Q : Option xV → xS → Prop} (hp0 : 0 ≤ b ∧ b ≤ 5) (hp1 : 0 ≤ kind ∧ kind ≤ 12) (hp2 : VX (σ 2)) (hQ : ∀ r : Int, (r = sureF (σ 2) b.toNat kind.toNat) → Q (some (xvi r)) σ) : xT kX11_sureOf [xvr 0, xvi b, xvi kind] σ Q := by
  refine ⟨Nat.le_of_ble_eq_true rfl, fun X hX => ?_⟩
  show X 0 [xvr 0, xvi b, xvi kind, xvu] σ
  refine hX 400 0 _ _ ?_
  intro z1 t1 e1 l1 h1
  try have w1 : t1 = 0 := by omega
  intro z2 t2 e2 l2 h2
  try have w2 : t2 = 0 := by omega
  intro z3 t3 e3 l3 h3
  try have w3 : t3 = 0 := by omega
  -- read
  refine And.intro (rfl) (And.intro (⟨by omega, by omega⟩) ?_)
  intro v4 e4 l4 h4
  have e4 : v4 = σ 2 z3.toNat := e4
  rw [show z3.toNat = (151 + 13 * b.toNat + kind.toNat) from by omega] at e4
  refine And.intro (fun c5 => ?_) (fun c5 => ?_)
  · refine And.intro (Nat.le_of_ble_eq_true rfl) ?_
    show xw _ _ _ _ _ _ _ _ _ _ [xvr 0, xvi b, xvi kind, xvi 0] _ _
    have lp_22 : ∀ (m22 : Nat) (i : Int), ((52 - i).toNat) = m22 → ((0 ≤ i ∧ i ≤ 52) ∧ ∀ j : Nat, (j : Int) < i → ¬ bF (σ 2 (235 + 52 * b.toNat + j)) kind = 0) → X 22 [xvr 0, xvi b, xvi kind, xvi i] σ := by
      intro m22
      induction m22 using Nat.strongRecOn with
      | _ m22 ih_22 =>
      intro i hm_22 hv_22
      obtain ⟨hv_22, hnb⟩ := hv_22
      have hw := hp2.1.w b.toNat (by omega)
      refine hX 400 22 _ _ ?_
      intro z7 t7 e7 l7 h7
      try have w7 : t7 = 0 := by omega
      -- read
      refine And.intro (rfl) (And.intro (⟨by omega, by omega⟩) ?_)
      intro v8 e8 l8 h8
      have e8 : v8 = σ 2 z7.toNat := e8
      rw [show z7.toNat = 229 + b.toNat from by omega] at e8
      refine And.intro (fun c9 => ?_) (fun c9 => ?_)
      · refine And.intro rfl ?_
        have hc0 := can_0 (f := σ 2) (p := b.toNat) (kind := kind) (σ 2 (229 + b.toNat)).toNat (fun r hr => hnb r (by omega))
        exact hQ _ (by
              unfold sureF canF
              rw [show ((kind.toNat : Nat) : Int) = kind from by omega]
              rw [if_neg (by omega), hc0, if_neg (by omega)])
      · intro z10 t10 e10 l10 h10
        try have w10 : t10 = 0 := by omega
        intro z11 t11 e11 l11 h11
        try have w11 : t11 = 0 := by omega
        intro z12 t12 e12 l12 h12
        try have w12 : t12 = 0 := by omega
        -- read
        refine And.intro (rfl) (And.intro (⟨by omega, by omega⟩) ?_)
        intro v13 e13 l13 h13
        have e13 : v13 = σ 2 z12.toNat := e13
        rw [show z12.toNat = 235 + 52 * b.toNat + i.toNat from by omega] at e13
        have hm := hp2.2 b.toNat i.toNat (by omega) (by omega)
        refine s_bitOfF (σ := σ) (set := v13) (kk := kind) (by omega) hp1 (fun r14 p14 => ?_)
        have hb0 := bF_r v13 kind
        have hbe : bF v13 kind = bF (σ 2 (235 + 52 * b.toNat + i.toNat)) kind := by rw [show v13 = σ 2 (235 + 52 * b.toNat + i.toNat) from by omega]
        refine And.intro (fun c15 => ?_) (fun c15 => ?_)
        · intro z16 t16 e16 l16 h16
          try have w16 : t16 = 0 := by omega
          show xw _ _ _ _ _ _ _ _ _ _ [xvr 0, xvi b, xvi kind, xvi z16] _ _
          exact ih_22 _ (show (52 - z16).toNat < m22 from by omega) z16 rfl ⟨by omega, fun j hj => by
                    by_cases e : (j : Int) = i
                    · rw [show j = i.toNat from by omega]; omega
                    · exact hnb j (by omega)⟩
        · refine And.intro rfl ?_
          have hc1 := can_1 (f := σ 2) (p := b.toNat) (kind := kind) (r := i.toNat) (by omega) (σ 2 (229 + b.toNat)).toNat (by omega)
          exact hQ _ (by
                unfold sureF canF
                rw [show ((kind.toNat : Nat) : Int) = kind from by omega]
                rw [if_neg (by omega), if_pos hc1])
    exact lp_22 _ 0 rfl ⟨by omega, fun j hj => by omega⟩
  · refine And.intro rfl ?_
    exact hQ _ (by unfold sureF; rw [if_pos (by omega)])
