/-! image, restore, reply, play of the reference, exactly. -/
theorem xub {x z : Int} (hx : -128 ≤ x ∧ x < 128) (e : z = (Int32.ofInt x &&& Int32.ofInt 255).toInt) : 0 ≤ z ∧ z ≤ 255 ∧ (z ≤ 3 ↔ (0 ≤ x ∧ x ≤ 3)) ∧ (z ≤ 3 → z = x) := by
  rw [x255c (by omega) (by omega)] at e
  by_cases c : x < 0
  · rw [if_pos c] at e; omega
  · rw [if_neg c] at e; omega
theorem ahI_r {f : Nat → Int} : 0 ≤ ahI f ∧ ahI f ≤ 1 := by
  by_cases c : AHD f 0
  · have := ahI_e (f := f) (r := 1) (Or.inl ⟨rfl, c⟩); omega
  · have := ahI_e (f := f) (r := 0) (Or.inr ⟨rfl, c⟩); omega
/-- the rules on the tape -/
def RLS (f b : Nat → Int) (len n : Int) : Prop := (1 ≤ n ∧ n ≤ 400) ∧ 2 ≤ f 1 ∧ len = f 1 ∧ ∀ k : Nat, (k : Int) < f 1 → 0 ≤ b k ∧ b k ≤ 3
set_option maxHeartbeats 4000000 in
set_option maxRecDepth 100000 in
theorem s_imageF {σ : xS} {k : Int} {Q : Option xV → xS → Prop} (hp0 : RI σ) (hQ : ∀ r : Int, ∀ σ' : xS, Fr [25, 26, 27] [0] σ σ' → (((0 ≤ k ∧ k ≤ 1) ∧ r = 1 ∧ ((∀ q : Nat, q < 765 → σ' 25 (765 * k.toNat + q) = σ 2 q) ∧ ∀ q : Nat, (q < 765 * k.toNat ∨ 765 * k.toNat + 765 ≤ q) → σ' 25 q = σ 25 q) ∧ ((∀ q : Nat, q < 6 → σ' 26 (6 * k.toNat + q) = σ 5 q) ∧ ∀ q : Nat, (q < 6 * k.toNat ∨ 6 * k.toNat + 6 ≤ q) → σ' 26 q = σ 26 q) ∧ σ' 27 = up (σ 27) k.toNat 1) ∨ (¬ (0 ≤ k ∧ k ≤ 1) ∧ r = 0 ∧ σ' 25 = σ 25 ∧ σ' 26 = σ 26 ∧ σ' 27 = σ 27)) → Q (some (xvi r)) σ') : xT kX11_image [xvr 0, xvi k] σ Q := by
  refine ⟨Nat.le_of_ble_eq_true rfl, fun X hX => ?_⟩
  show X 0 [xvr 0, xvi k, xvu] σ
  have hF : Fr [25, 26, 27] [0] σ σ := Fr.rf
  refine hX 400 0 _ _ ?_
  have hF := hF.p (j := 0) (v := 0) (by decide)
  refine s_isIn (σ := (xput σ 0 0 0)) (v := k) (low := 0) (high := 1)  (fun r2 p2 => ?_)
  have p2 : (r2 = 1 ∧ 0 ≤ k ∧ k ≤ 1) ∨ (r2 = 0 ∧ (k < 0 ∨ 1 < k)) := p2
  refine And.intro (fun c3 => ?_) (fun c3 => ?_)
  · replace p2 : 0 ≤ k ∧ k ≤ 1 := by
      rcases p2 with q | q
      · exact q.2
      · exact absurd q.1 (by omega)
    refine And.intro (Nat.le_of_ble_eq_true rfl) ?_
    show xw _ _ _ _ _ _ _ _ _ _ [xvr 0, xvi k, xvi 0] _ _
    have lp_18 : ∀ (m18 : Nat) (i : Int) (s1 : xS), ((765 - i).toNat) = m18 → (Fr [25, 26, 27] [0] σ s1 ∧ s1 27 = σ 27 ∧ (∀ j : Nat, (j : Int) < i → s1 25 (765 * k.toNat + j) = σ 2 j) ∧ (∀ j : Nat, (j < 765 * k.toNat ∨ 765 * k.toNat + 765 ≤ j) → s1 25 j = σ 25 j) ∧ s1 26 = σ 26 ∧ (0 ≤ i ∧ i ≤ 765)) → X 18 [xvr 0, xvi k, xvi i] s1 := by
      intro m18
      induction m18 using Nat.strongRecOn with
      | _ m18 ih_18 =>
      intro i s1 hm_18 hv_18
      obtain ⟨hF, h27, hC, hO, hN, hv_18⟩ := hv_18
      have hs2 : s1 2 = σ 2 := hF.1 2 (by decide) (by decide)
      refine hX 400 18 _ _ ?_
      refine And.intro (fun c5 => ?_) (fun c5 => ?_)
      · refine And.intro (Nat.le_of_ble_eq_true rfl) ?_
        show xw _ _ _ _ _ _ _ _ _ _ [xvr 0, xvi k, xvi 0] _ _
        have lp_51 : ∀ (m51 : Nat) (i2 : Int) (s2 : xS), ((6 - i2).toNat) = m51 → (Fr [25, 26, 27] [0] σ s2 ∧ s2 27 = σ 27 ∧ s2 25 = s1 25 ∧ (∀ j : Nat, (j : Int) < i2 → s2 26 (6 * k.toNat + j) = σ 5 j) ∧ (∀ j : Nat, (j < 6 * k.toNat ∨ 6 * k.toNat + 6 ≤ j) → s2 26 j = σ 26 j) ∧ (0 ≤ i2 ∧ i2 ≤ 6)) → X 51 [xvr 0, xvi k, xvi i2] s2 := by
          intro m51
          induction m51 using Nat.strongRecOn with
          | _ m51 ih_51 =>
          intro i2 s2 hm_51 hv_51
          obtain ⟨hF, h27, h25, hC2, hO2, hv_51⟩ := hv_51
          have hs5 : s2 5 = σ 5 := hF.1 5 (by decide) (by decide)
          refine hX 400 51 _ _ ?_
          refine And.intro (fun c7 => ?_) (fun c7 => ?_)
          · refine And.intro (Or.inr rfl) (And.intro (⟨by omega, by omega⟩) ?_)
            have hF := hF.pt (t := 27) (j := k.toNat) (v := xbool 1) (by decide) (by decide)
            refine And.intro rfl ?_
            refine And.intro (by omega) ?_
            exact hQ _ _ hF (Or.inl ⟨by omega, by omega, ⟨(fun q hq => by show s2 25 _ = _; rw [h25]; exact hC q (by omega)), (fun q hq => by show s2 25 _ = _; rw [h25]; exact hO q hq)⟩, ⟨(fun q hq => hC2 q (by omega)), hO2⟩, (by rw [xput_up, show k.toNat = k.toNat from by omega, h27, xb1])⟩)
          · intro z9 t9 e9 l9 h9
            try have w9 : t9 = 0 := by omega
            intro z10 t10 e10 l10 h10
            try have w10 : t10 = 0 := by omega
            refine And.intro (rfl) (And.intro (⟨by omega, by omega⟩) ?_)
            intro v11 e11 l11 h11
            have e11 : v11 = s2 5 i2.toNat := e11
            refine And.intro rfl (And.intro (⟨by omega, by omega⟩) ?_)
            have hF := hF.pt (t := 26) (j := z10.toNat) (v := v11) (by decide) (by decide)
            intro z13 t13 e13 l13 h13
            try have w13 : t13 = 0 := by omega
            show xw _ _ _ _ _ _ _ _ _ _ [xvr 0, xvi k, xvi z13] _ _
            exact ih_51 _ (show (6 - z13).toNat < m51 from by omega) z13 (xput s2 26 z10.toNat v11) rfl ⟨hF, h27, h25, (fun q hq => by
                      by_cases e : q = i2.toNat
                      · rw [show 6 * k.toNat + q = z10.toNat from by omega, xput_s, e11, hs5]; rw [show q = i2.toNat from by omega]
                      · rw [xput_o (by omega)]; exact hC2 q (by omega)), (fun q hq => by rw [xput_o (by omega)]; exact hO2 q hq), by omega⟩
        exact lp_51 _ 0 s1 rfl ⟨hF, h27, rfl, (fun j hj => by omega), (fun j _ => by rw [hN]), by omega⟩
      · intro z14 t14 e14 l14 h14
        try have w14 : t14 = 0 := by omega
        intro z15 t15 e15 l15 h15
        try have w15 : t15 = 0 := by omega
        refine And.intro (rfl) (And.intro (⟨by omega, by omega⟩) ?_)
        intro v16 e16 l16 h16
        have e16 : v16 = s1 2 i.toNat := e16
        refine And.intro (rfl) (And.intro (⟨by omega, by omega⟩) ?_)
        have hF := hF.pt (t := 25) (j := z15.toNat) (v := v16) (by decide) (by decide)
        intro z18 t18 e18 l18 h18
        try have w18 : t18 = 0 := by omega
        show xw _ _ _ _ _ _ _ _ _ _ [xvr 0, xvi k, xvi z18] _ _
        exact ih_18 _ (show (765 - z18).toNat < m18 from by omega) z18 (xput s1 25 z15.toNat v16) rfl ⟨hF, h27, (fun q hq => by
                  by_cases e : q = i.toNat
                  · rw [show 765 * k.toNat + q = z15.toNat from by omega, xput_s, e16, hs2]; rw [show q = i.toNat from by omega]
                  · rw [xput_o (by omega)]; exact hC q (by omega)), (fun q hq => by rw [xput_o (by omega)]; exact hO q hq), hN, by omega⟩
    exact lp_18 _ 0 (xput σ 0 0 0) rfl ⟨hF, rfl, (fun j hj => by omega), (fun j _ => rfl), rfl, by omega⟩
  · replace p2 : (k < 0 ∨ 1 < k) := by
      rcases p2 with q | q
      · exact absurd q.1 (by omega)
      · exact q.2
    refine And.intro rfl ?_
    refine And.intro (by omega) ?_
    exact hQ _ _ hF (Or.inr ⟨by omega, by omega, rfl, rfl, rfl⟩)
set_option maxHeartbeats 4000000 in
set_option maxRecDepth 100000 in
theorem s_restoreF {σ : xS} {k : Int} {Q : Option xV → xS → Prop} (hp0 : RI σ) (hQ : ∀ r : Int, ∀ σ' : xS, Fr [2, 5] [0, 27] σ σ' → ((((0 ≤ k ∧ k ≤ 1) ∧ ¬ σ 27 k.toNat = 0) ∧ r = 1 ∧ (∀ q : Nat, q < 765 → σ' 2 q = σ 25 (765 * k.toNat + q)) ∧ (∀ q : Nat, q < 6 → σ' 5 q = σ 26 (6 * k.toNat + q)) ∧ σ' 0 27 = 0) ∨ (¬ ((0 ≤ k ∧ k ≤ 1) ∧ ¬ σ 27 k.toNat = 0) ∧ r = 0 ∧ σ' 2 = σ 2 ∧ σ' 5 = σ 5 ∧ σ' 0 27 = σ 0 27)) → Q (some (xvi r)) σ') : xT kX11_restore [xvr 0, xvi k] σ Q := by
  refine ⟨Nat.le_of_ble_eq_true rfl, fun X hX => ?_⟩
  show X 0 [xvr 0, xvi k, xvu] σ
  have hF : Fr [2, 5] [0, 27] σ σ := Fr.rf
  refine hX 400 0 _ _ ?_
  have hF := hF.p (j := 0) (v := 0) (by decide)
  refine s_isIn (σ := (xput σ 0 0 0)) (v := k) (low := 0) (high := 1)  (fun r2 p2 => ?_)
  have p2 : (r2 = 1 ∧ 0 ≤ k ∧ k ≤ 1) ∨ (r2 = 0 ∧ (k < 0 ∨ 1 < k)) := p2
  have lp_23 : ∀ (_ : Unit), (¬ ((0 ≤ k ∧ k ≤ 1) ∧ ¬ σ 27 k.toNat = 0)) → X 23 [xvr 0, xvi k, xvu] (xput σ 0 0 0) := by
    intro _ hv_23
    refine hX 400 23 _ _ ?_
    refine And.intro rfl ?_
    refine And.intro (by omega) ?_
    exact hQ _ _ hF (Or.inr ⟨hv_23, by omega, rfl, rfl, rfl⟩)
  refine And.intro (fun c4 => ?_) (fun c4 => ?_)
  · replace p2 : (k < 0 ∨ 1 < k) := by
      rcases p2 with q | q
      · exact absurd q.1 (by omega)
      · exact q.2
    exact lp_23 () (fun z => by omega)
  · replace p2 : 0 ≤ k ∧ k ≤ 1 := by
      rcases p2 with q | q
      · exact q.2
      · exact absurd q.1 (by omega)
    refine And.intro (Or.inr rfl) (And.intro (⟨by omega, by omega⟩) ?_)
    intro v5 e5 l5 h5
    have e5 : v5 = σ 27 k.toNat := e5
    have w27 : v5 = σ 27 k.toNat := by rw [e5]
    refine And.intro (fun c6 => ?_) (fun c6 => ?_)
    · refine And.intro (Nat.le_of_ble_eq_true rfl) ?_
      show xw _ _ _ _ _ _ _ _ _ _ [xvr 0, xvi k, xvi 0] _ _
      have lp_27 : ∀ (m27 : Nat) (i : Int) (s1 : xS), ((765 - i).toNat) = m27 → (Fr [2, 5] [0, 27] σ s1 ∧ (∀ j : Nat, (j : Int) < i → s1 2 j = σ 25 (765 * k.toNat + j)) ∧ s1 5 = σ 5 ∧ (0 ≤ i ∧ i ≤ 765)) → X 27 [xvr 0, xvi k, xvi i] s1 := by
        intro m27
        induction m27 using Nat.strongRecOn with
        | _ m27 ih_27 =>
        intro i s1 hm_27 hv_27
        obtain ⟨hF, hC, h5, hv_27⟩ := hv_27
        have hs25 : s1 25 = σ 25 := hF.1 25 (by decide) (by decide)
        refine hX 400 27 _ _ ?_
        refine And.intro (fun c8 => ?_) (fun c8 => ?_)
        · refine And.intro (Nat.le_of_ble_eq_true rfl) ?_
          show xw _ _ _ _ _ _ _ _ _ _ [xvr 0, xvi k, xvi 0] _ _
          have lp_60 : ∀ (m60 : Nat) (i2 : Int) (s2 : xS), ((6 - i2).toNat) = m60 → (Fr [2, 5] [0, 27] σ s2 ∧ s2 2 = s1 2 ∧ (∀ j : Nat, (j : Int) < i2 → s2 5 j = σ 26 (6 * k.toNat + j)) ∧ (0 ≤ i2 ∧ i2 ≤ 6)) → X 60 [xvr 0, xvi k, xvi i2] s2 := by
            intro m60
            induction m60 using Nat.strongRecOn with
            | _ m60 ih_60 =>
            intro i2 s2 hm_60 hv_60
            obtain ⟨hF, hs2, hC2, hv_60⟩ := hv_60
            have hs26 : s2 26 = σ 26 := hF.1 26 (by decide) (by decide)
            refine hX 400 60 _ _ ?_
            refine And.intro (fun c10 => ?_) (fun c10 => ?_)
            · have hF := hF.p (j := 27) (v := 0) (by decide)
              refine And.intro rfl ?_
              refine And.intro (by omega) ?_
              exact hQ _ _ hF (Or.inl ⟨⟨by omega, by omega⟩, by omega, (fun q hq => by show s2 2 q = _; rw [hs2]; exact hC q (by omega)), (fun q hq => hC2 q (by omega)), rfl⟩)
            · intro z12 t12 e12 l12 h12
              try have w12 : t12 = 0 := by omega
              intro z13 t13 e13 l13 h13
              try have w13 : t13 = 0 := by omega
              refine And.intro (rfl) (And.intro (⟨by omega, by omega⟩) ?_)
              intro v14 e14 l14 h14
              have e14 : v14 = s2 26 z13.toNat := e14
              refine And.intro rfl (And.intro (⟨by omega, by omega⟩) ?_)
              have hF := hF.pt (t := 5) (j := i2.toNat) (v := v14) (by decide) (by decide)
              intro z16 t16 e16 l16 h16
              try have w16 : t16 = 0 := by omega
              show xw _ _ _ _ _ _ _ _ _ _ [xvr 0, xvi k, xvi z16] _ _
              exact ih_60 _ (show (6 - z16).toNat < m60 from by omega) z16 (xput s2 5 i2.toNat v14) rfl ⟨hF, hs2, (fun q hq => by
                        by_cases e : q = i2.toNat
                        · rw [show q = i2.toNat from by omega, xput_s, e14, hs26]; rw [show z13.toNat = 6 * k.toNat + i2.toNat from by omega]
                        · rw [xput_o (by omega)]; exact hC2 q (by omega)), by omega⟩
          exact lp_60 _ 0 s1 rfl ⟨hF, rfl, (fun j hj => by omega), by omega⟩
        · intro z17 t17 e17 l17 h17
          try have w17 : t17 = 0 := by omega
          intro z18 t18 e18 l18 h18
          try have w18 : t18 = 0 := by omega
          refine And.intro (rfl) (And.intro (⟨by omega, by omega⟩) ?_)
          intro v19 e19 l19 h19
          have e19 : v19 = s1 25 z18.toNat := e19
          refine And.intro (rfl) (And.intro (⟨by omega, by omega⟩) ?_)
          have hF := hF.pt (t := 2) (j := i.toNat) (v := v19) (by decide) (by decide)
          intro z21 t21 e21 l21 h21
          try have w21 : t21 = 0 := by omega
          show xw _ _ _ _ _ _ _ _ _ _ [xvr 0, xvi k, xvi z21] _ _
          exact ih_27 _ (show (765 - z21).toNat < m27 from by omega) z21 (xput s1 2 i.toNat v19) rfl ⟨hF, (fun q hq => by
                    by_cases e : q = i.toNat
                    · rw [show q = i.toNat from by omega, xput_s, e19, hs25]; rw [show z18.toNat = 765 * k.toNat + i.toNat from by omega]
                    · rw [xput_o (by omega)]; exact hC q (by omega)), h5, by omega⟩
      exact lp_27 _ 0 (xput σ 0 0 0) rfl ⟨hF, (fun j hj => by omega), rfl, by omega⟩
    · exact lp_23 () (fun z => by omega)
theorem gmW_nn {f : Nat → Int} {i j fr : Int} : ∀ n : Nat, 0 ≤ gmW f i j fr n
  | 0 => Int.le_refl 0
  | n + 1 => by
    have z := gmW_nn (f := f) (i := i) (j := j) (fr := fr) n
    have y := ahI_r (f := gmE f i j (wr (fr + n)))
    rw [gmW_s]
    omega
