set_option maxHeartbeats 4000000 in
set_option maxRecDepth 100000 in
theorem s_bentOfF {σ : xS} {a rule : Int} {Q : Option xV → xS → Prop} (hp0 : VX (σ 2)) (hp1 : 0 ≤ a ∧ a < σ 2 1) (hQ : ∀ r : Int, (BNT (σ 2) a.toNat rule r) → Q (some (xvi r)) σ) : xT kX11_bentOf [xvr 0, xvi a, xvi rule] σ Q := by
  refine ⟨Nat.le_of_ble_eq_true rfl, fun X hX => ?_⟩
  show X 0 [xvr 0, xvi a, xvi rule, xvu, xvu, xvu, xvu] σ
  refine hX 400 0 _ _ ?_
  have m1 := hp0.1.1.2.1
  have hnp : nwF (σ 2) ((a.toNat : Nat) : Int) = nwF (σ 2) a := by rw [show ((a.toNat : Nat) : Int) = a from by omega]
  have vd := hp0.1.2.2.2.2.2 a.toNat (by omega)
  refine s_cards (σ := σ) (k := a) hp0.1 (by omega) (fun r1 p1 => ?_)
  have p1 : r1 = cd (σ 2) a.toNat ∧ 0 ≤ r1 ∧ r1 ≤ 52 := p1
  refine And.intro (fun c2 => ?_) (fun c2 => ?_)
  · refine hX 400 18 _ _ ?_
    refine And.intro rfl ?_
    exact hQ _ (Or.inl ⟨rfl, by omega⟩)
  · refine And.intro (rfl) (And.intro (⟨by omega, by omega⟩) ?_)
    intro v3 e3 l3 h3
    have e3 : v3 = σ 2 1 := e3
    refine And.intro (fun c4 => ?_) (fun c4 => ?_)
    · obtain ⟨j0, hj0, hj1⟩ := cd_p hp0.1 (p := a.toNat) (by omega) (by omega)
      refine And.intro (Nat.le_of_ble_eq_true rfl) ?_
      show xw _ _ _ _ _ _ _ _ _ _ [xvr 0, xvi a, xvi rule, xvi 0, xvu, xvu, xvu] _ _
      have lp_22 : ∀ (m22 : Nat) (l : Int) (u5_4 : xV) (u5_5 : xV) (u5_6 : xV), ((13 - l).toNat) = m22 → ((0 ≤ l ∧ l ≤ j0) ∧ ∀ j : Nat, (j : Int) < l → HH (σ 2) a.toNat j = 0) → X 22 [xvr 0, xvi a, xvi rule, xvi l, u5_4, u5_5, u5_6] σ := by
        intro m22
        induction m22 using Nat.strongRecOn with
        | _ m22 ih_22 =>
        intro l u5_4 u5_5 u5_6 hm_22 hv_22
        obtain ⟨hv_22, hz⟩ := hv_22
        refine hX 400 22 _ _ ?_
        refine s_hand0v (σ := σ) (k := a) (kind := l) hp0.1 (by omega) (by omega) (fun r6 p6 => ?_)
        rw [show (60 + 13 * a + l).toNat = 60 + 13 * a.toNat + l.toNat from by omega] at p6
        have p6 : r6 = HH (σ 2) a.toNat l.toNat := p6
        have hv6 := HH_v hp0.1 (p := a.toNat) (k := l.toNat) (by omega) (by omega)
        refine And.intro (fun c7 => ?_) (fun c7 => ?_)
        · have hLK : LKd (σ 2) a.toNat l := ⟨by omega, by omega, hz⟩
          have hcp : 0 < cd (σ 2) a.toNat := by omega
          have lp_125 : ∀ (u8_4 : xV) (u8_5 : xV) (u8_6 : xV), ((rule = 1 ∧ FSX (σ 2) a.toNat (-1)) ∨ ¬ rule = 1) → X 125 [xvr 0, xvi a, xvi rule, xvi l, u8_4, u8_5, u8_6] σ := by
            intro u8_4 u8_5 u8_6 hv_125
            refine hX 400 125 _ _ ?_
            refine And.intro (fun c9 => ?_) (fun c9 => ?_)
            · intro z10 t10 e10 l10 h10
              try have w10 : t10 = 0 := by omega
              -- read
              refine And.intro (rfl) (And.intro (⟨by omega, by omega⟩) ?_)
              intro v11 e11 l11 h11
              have e11 : v11 = σ 2 z10.toNat := e11
              rw [show z10.toNat = 565 + a.toNat from by omega] at e11
              intro z12 t12 e12 l12 h12
              try have w12 : t12 = 0 := by omega
              have hld : z12 = σ 2 (565 + a.toNat) - 1 := by omega
              refine And.intro (Nat.le_of_ble_eq_true rfl) ?_
              show xw _ _ _ _ _ _ _ _ _ _ [xvr 0, xvi a, xvi rule, xvi l, xvi z12, u8_5, u8_6] _ _
              refine s_nextWithCardsF (σ := σ) (a := a) hp0 hp1 (fun r13 p13 => ?_)
              have p13 : r13 = nwF (σ 2) a := p13
              have nn0 := (nwF_r (f := σ 2) (p := a) (by omega) hp1).1
              intro z14 t14 e14 l14 h14
              try have w14 : t14 = 0 := by omega
              refine And.intro (fun c15 => ?_) (fun c15 => ?_)
              · -- k
                intro z16 t16 e16 l16 h16
                try have w16 : t16 = 0 := by omega
                refine And.intro rfl ?_
                have hnd : ¬ (rule = 3 ∧ DRW1 (σ 2) a.toNat) := fun z => by
                  obtain ⟨z1, z2, z3⟩ := z
                  omega
                exact hQ _ (Or.inr ⟨⟨by omega, hcp⟩, Or.inr (Or.inr ⟨(by
                  rcases hv_125 with y | y
                  · exact Or.inl y
                  · exact Or.inr ⟨y, by omega⟩), l, Or.inr ⟨hnd, hLK⟩, by omega⟩)⟩)
              · refine And.intro (fun c17 => ?_) (fun c17 => ?_)
                · -- k
                  intro z18 t18 e18 l18 h18
                  try have w18 : t18 = 0 := by omega
                  refine And.intro rfl ?_
                  have hnd : ¬ (rule = 3 ∧ DRW1 (σ 2) a.toNat) := fun z => by
                    obtain ⟨z1, z2, z3⟩ := z
                    omega
                  exact hQ _ (Or.inr ⟨⟨by omega, hcp⟩, Or.inr (Or.inr ⟨(by
                    rcases hv_125 with y | y
                    · exact Or.inl y
                    · exact Or.inr ⟨y, by omega⟩), l, Or.inr ⟨hnd, hLK⟩, by omega⟩)⟩)
                · refine s_hand0v (σ := σ) (k := a) (kind := z12) hp0.1 (by omega) (by omega) (fun r19 p19 => ?_)
                  rw [show (60 + 13 * a + z12).toNat = 60 + 13 * a.toNat + z12.toNat from by omega] at p19
                  have p19 : r19 = HH (σ 2) a.toNat (σ 2 (565 + a.toNat) - 1).toNat := by rw [← hld]; exact p19
                  refine And.intro (fun c20 => ?_) (fun c20 => ?_)
                  · -- k
                    intro z21 t21 e21 l21 h21
                    try have w21 : t21 = 0 := by omega
                    refine And.intro rfl ?_
                    have hnd : ¬ (rule = 3 ∧ DRW1 (σ 2) a.toNat) := fun z => by
                      obtain ⟨z1, z2, z3⟩ := z
                      omega
                    exact hQ _ (Or.inr ⟨⟨by omega, hcp⟩, Or.inr (Or.inr ⟨(by
                      rcases hv_125 with y | y
                      · exact Or.inl y
                      · exact Or.inr ⟨y, by omega⟩), l, Or.inr ⟨hnd, hLK⟩, by omega⟩)⟩)
                  · -- k
                    intro z22 t22 e22 l22 h22
                    try have w22 : t22 = 0 := by omega
                    refine And.intro rfl ?_
                    exact hQ _ (Or.inr ⟨⟨by omega, hcp⟩, Or.inr (Or.inr ⟨(by
                      rcases hv_125 with y | y
                      · exact Or.inl y
                      · exact Or.inr ⟨y, by omega⟩), z12, Or.inl ⟨by omega, ⟨by omega, by omega⟩, by omega⟩, by omega⟩)⟩)
            · refine And.intro (Nat.le_of_ble_eq_true rfl) ?_
              show xw _ _ _ _ _ _ _ _ _ _ [xvr 0, xvi a, xvi rule, xvi l, xvi (-1), u8_5, u8_6] _ _
              refine And.intro (Nat.le_of_ble_eq_true rfl) ?_
              show xw _ _ _ _ _ _ _ _ _ _ [xvr 0, xvi a, xvi rule, xvi l, xvi (-1), xvi 0, u8_6] _ _
              have lp_136 : ∀ (m136 : Nat) (w : Int) (q2 : Int) (u23_6 : xV), ((6 - q2).toNat) = m136 → (((0 ≤ q2 ∧ q2 ≤ σ 2 1) ∧ (-1 ≤ w ∧ w ≤ 5)) ∧ RCI (σ 2) a.toNat w q2) → X 136 [xvr 0, xvi a, xvi rule, xvi l, xvi w, xvi q2, u23_6] σ := by
                intro m136
                induction m136 using Nat.strongRecOn with
                | _ m136 ih_136 =>
                intro w q2 u23_6 hm_136 hv_136
                obtain ⟨hv_136, hR⟩ := hv_136
                refine hX 400 136 _ _ ?_
                refine And.intro (rfl) (And.intro (⟨by omega, by omega⟩) ?_)
                intro v24 e24 l24 h24
                have e24 : v24 = σ 2 1 := e24
                refine And.intro (fun c25 => ?_) (fun c25 => ?_)
                · refine And.intro (Nat.le_of_ble_eq_true rfl) ?_
                  show xw _ _ _ _ _ _ _ _ _ _ [xvr 0, xvi a, xvi rule, xvi l, xvi w, xvi l, u23_6] _ _
                  refine And.intro (Nat.le_of_ble_eq_true rfl) ?_
                  show xw _ _ _ _ _ _ _ _ _ _ [xvr 0, xvi a, xvi rule, xvi l, xvi w, xvi l, xvi l] _ _
                  have lp_189 : ∀ (m189 : Nat) (b : Int) (i : Int), ((13 - i).toNat) = m189 → (((l ≤ b ∧ b ≤ i) ∧ (b ≤ 12 ∧ i ≤ 13)) ∧ (∀ j : Nat, (j : Int) < i → HH (σ 2) a.toNat j ≤ HH (σ 2) a.toNat b.toNat) ∧ ∀ j : Nat, (j : Int) < b → HH (σ 2) a.toNat j < HH (σ 2) a.toNat b.toNat) → X 189 [xvr 0, xvi a, xvi rule, xvi l, xvi w, xvi b, xvi i] σ := by
                    intro m189
                    induction m189 using Nat.strongRecOn with
                    | _ m189 ih_189 =>
                    intro b i hm_189 hv_189
                    obtain ⟨hv_189, hle, hlt⟩ := hv_189
                    refine hX 400 189 _ _ ?_
                    refine And.intro (fun c27 => ?_) (fun c27 => ?_)
                    · intro z28 t28 e28 l28 h28
                      try have w28 : t28 = 0 := by omega
                      intro z29 t29 e29 l29 h29
                      try have w29 : t29 = 0 := by omega
                      refine And.intro rfl ?_
                      have hRC : RC (σ 2) a.toNat w := by
                        rcases hR with ⟨_, z⟩ | ⟨z1, z2, z3⟩
                        · exfalso
                          have z0 := z 0 (by omega)
                          have z1 := z 1 (by omega)
                          omega
                        · exact ⟨by omega, (fun j hj => z2 j (by omega)), z3⟩
                      have rr1 := hRC.1
                      exact hQ _ (Or.inr ⟨⟨by omega, hcp⟩, Or.inl ⟨by omega, w, b, hRC, ⟨by omega, (fun j hj => hle j (by omega)), hlt⟩, by omega⟩⟩)
                    · refine s_hand0v (σ := σ) (k := a) (kind := i) hp0.1 (by omega) (by omega) (fun r30 p30 => ?_)
                      rw [show (60 + 13 * a + i).toNat = 60 + 13 * a.toNat + i.toNat from by omega] at p30
                      have p30 : r30 = HH (σ 2) a.toNat i.toNat := p30
                      have hv30 := HH_v hp0.1 (p := a.toNat) (k := i.toNat) (by omega) (by omega)
                      refine s_hand0v (σ := σ) (k := a) (kind := b) hp0.1 (by omega) (by omega) (fun r31 p31 => ?_)
                      rw [show (60 + 13 * a + b).toNat = 60 + 13 * a.toNat + b.toNat from by omega] at p31
                      have p31 : r31 = HH (σ 2) a.toNat b.toNat := p31
                      have hv31 := HH_v hp0.1 (p := a.toNat) (k := b.toNat) (by omega) (by omega)
                      refine And.intro (fun c32 => ?_) (fun c32 => ?_)
                      · refine hX 400 219 _ _ ?_
                        intro z33 t33 e33 l33 h33
                        try have w33 : t33 = 0 := by omega
                        show xw _ _ _ _ _ _ _ _ _ _ [xvr 0, xvi a, xvi rule, xvi l, xvi w, xvi b, xvi z33] _ _
                        exact ih_189 _ (show (13 - z33).toNat < m189 from by omega) b z33 rfl ⟨by omega, (fun j hj => by
                                  by_cases e : (j : Int) = i
                                  · rw [show j = i.toNat from by omega]; omega
                                  · exact hle j (by omega)), hlt⟩
                      · refine And.intro (Nat.le_of_ble_eq_true rfl) ?_
                        show xw _ _ _ _ _ _ _ _ _ _ [xvr 0, xvi a, xvi rule, xvi l, xvi w, xvi i, xvi i] _ _
                        refine hX 400 219 _ _ ?_
                        intro z34 t34 e34 l34 h34
                        try have w34 : t34 = 0 := by omega
                        show xw _ _ _ _ _ _ _ _ _ _ [xvr 0, xvi a, xvi rule, xvi l, xvi w, xvi i, xvi z34] _ _
                        exact ih_189 _ (show (13 - z34).toNat < m189 from by omega) i z34 rfl ⟨by omega, (fun j hj => by
                                  by_cases e : (j : Int) = i
                                  · rw [show j = i.toNat from by omega]; omega
                                  · have z := hle j (by omega); omega), fun j hj => by have z := hle j (by omega); omega⟩
                  exact lp_189 _ l l rfl ⟨by omega, (fun j hj => by have z := hz j hj; have y := hLK.2.1; omega), fun j hj => by have z := hz j hj; have y := hLK.2.1; omega⟩
                · refine And.intro (fun c35 => ?_) (fun c35 => ?_)
                  · refine hX 400 177 _ _ ?_
                    intro z36 t36 e36 l36 h36
                    try have w36 : t36 = 0 := by omega
                    show xw _ _ _ _ _ _ _ _ _ _ [xvr 0, xvi a, xvi rule, xvi l, xvi w, xvi z36, u23_6] _ _
                    exact ih_136 _ (show (6 - z36).toNat < m136 from by omega) w z36 (u23_6) rfl ⟨by omega, hR.same (by omega) (by omega) (by omega)⟩
                  · refine And.intro (fun c37 => ?_) (fun c37 => ?_)
                    · refine hX 400 173 _ _ ?_
                      refine And.intro (Nat.le_of_ble_eq_true rfl) ?_
                      show xw _ _ _ _ _ _ _ _ _ _ [xvr 0, xvi a, xvi rule, xvi l, xvi q2, xvi q2, u23_6] _ _
                      refine hX 400 177 _ _ ?_
                      intro z38 t38 e38 l38 h38
                      try have w38 : t38 = 0 := by omega
                      show xw _ _ _ _ _ _ _ _ _ _ [xvr 0, xvi a, xvi rule, xvi l, xvi q2, xvi z38, u23_6] _ _
                      exact ih_136 _ (show (6 - z38).toNat < m136 from by omega) q2 z38 (u23_6) rfl ⟨by omega, hR.new (by omega) (by omega) (by omega) (by omega)⟩
                    · refine s_cards (σ := σ) (k := q2) hp0.1 (by omega) (fun r39 p39 => ?_)
                      have p39 : r39 = cd (σ 2) q2.toNat ∧ 0 ≤ r39 ∧ r39 ≤ 52 := p39
                      refine s_cards (σ := σ) (k := w) hp0.1 (by omega) (fun r40 p40 => ?_)
                      have p40 : r40 = cd (σ 2) w.toNat ∧ 0 ≤ r40 ∧ r40 ≤ 52 := p40
                      refine And.intro (fun c41 => ?_) (fun c41 => ?_)
                      · refine hX 400 177 _ _ ?_
                        intro z42 t42 e42 l42 h42
                        try have w42 : t42 = 0 := by omega
                        show xw _ _ _ _ _ _ _ _ _ _ [xvr 0, xvi a, xvi rule, xvi l, xvi w, xvi z42, u23_6] _ _
                        exact ih_136 _ (show (6 - z42).toNat < m136 from by omega) w z42 (u23_6) rfl ⟨by omega, hR.same (by omega) (by omega) (by omega)⟩
                      · refine hX 400 173 _ _ ?_
                        refine And.intro (Nat.le_of_ble_eq_true rfl) ?_
                        show xw _ _ _ _ _ _ _ _ _ _ [xvr 0, xvi a, xvi rule, xvi l, xvi q2, xvi q2, u23_6] _ _
                        refine hX 400 177 _ _ ?_
                        intro z43 t43 e43 l43 h43
                        try have w43 : t43 = 0 := by omega
                        show xw _ _ _ _ _ _ _ _ _ _ [xvr 0, xvi a, xvi rule, xvi l, xvi q2, xvi z43, u23_6] _ _
                        exact ih_136 _ (show (6 - z43).toNat < m136 from by omega) q2 z43 (u23_6) rfl ⟨by omega, hR.new (by omega) (by omega) (by omega) (by omega)⟩
              exact lp_136 _ (-1) 0 (u8_6) rfl ⟨by omega, Or.inl ⟨rfl, fun j hj => by omega⟩⟩
          refine And.intro (fun c44 => ?_) (fun c44 => ?_)
          · exact lp_125 (u5_4) (u5_5) (u5_6) (Or.inr (by omega))
          · -- sure
            refine And.intro (Nat.le_of_ble_eq_true rfl) ?_
            show xw _ _ _ _ _ _ _ _ _ _ [xvr 0, xvi a, xvi rule, xvi l, xvi 0, u5_5, u5_6] _ _
            have lp_46 : ∀ (m46 : Nat) (q : Int) (u45_5 : xV) (u45_6 : xV), ((6 - q).toNat) = m46 → ((0 ≤ q ∧ q ≤ 6) ∧ ∀ j kk : Nat, (j : Int) < q → j ≠ a.toNat → kk < 13 → ¬ SUR (σ 2) a.toNat j kk) → X 46 [xvr 0, xvi a, xvi rule, xvi l, xvi q, u45_5, u45_6] σ := by
              intro m46
              induction m46 using Nat.strongRecOn with
              | _ m46 ih_46 =>
              intro q u45_5 u45_6 hm_46 hv_46
              obtain ⟨hv_46, hns⟩ := hv_46
              refine hX 400 46 _ _ ?_
              refine And.intro (rfl) (And.intro (⟨by omega, by omega⟩) ?_)
              intro v46 e46 l46 h46
              have e46 : v46 = σ 2 1 := e46
              refine And.intro (fun c47 => ?_) (fun c47 => ?_)
              · exact lp_125 (xvi q) (u45_5) (u45_6) (Or.inl ⟨by omega, Or.inl ⟨rfl, fun j kk hj => hns j kk (by omega)⟩⟩)
              · refine And.intro (Nat.le_of_ble_eq_true rfl) ?_
                show xw _ _ _ _ _ _ _ _ _ _ [xvr 0, xvi a, xvi rule, xvi l, xvi q, xvi 0, u45_6] _ _
                have lp_60 : ∀ (m60 : Nat) (k : Int) (u48_6 : xV), ((13 - k).toNat) = m60 → ((0 ≤ k ∧ k ≤ 13) ∧ ∀ kk : Nat, (kk : Int) < k → q.toNat ≠ a.toNat → ¬ SUR (σ 2) a.toNat q.toNat kk) → X 60 [xvr 0, xvi a, xvi rule, xvi l, xvi q, xvi k, u48_6] σ := by
                  intro m60
                  induction m60 using Nat.strongRecOn with
                  | _ m60 ih_60 =>
                  intro k u48_6 hm_60 hv_60
                  obtain ⟨hv_60, hk2⟩ := hv_60
                  refine hX 400 60 _ _ ?_
                  refine And.intro (fun c49 => ?_) (fun c49 => ?_)
                  · intro z50 t50 e50 l50 h50
                    try have w50 : t50 = 0 := by omega
                    show xw _ _ _ _ _ _ _ _ _ _ [xvr 0, xvi a, xvi rule, xvi l, xvi z50, xvi k, u48_6] _ _
                    exact ih_46 _ (show (6 - z50).toNat < m46 from by omega) z50 (xvi k) (u48_6) rfl ⟨by omega, fun j kk hj hne hk hs => by
                              by_cases e : (j : Int) = q
                              · exact hk2 kk (by omega) (by omega) (by rw [← show j = q.toNat from by omega]; exact hs)
                              · exact hns j kk (by omega) hne hk hs⟩
                  · refine And.intro (fun c51 => ?_) (fun c51 => ?_)
                    · refine hX 400 113 _ _ ?_
                      intro z52 t52 e52 l52 h52
                      try have w52 : t52 = 0 := by omega
                      show xw _ _ _ _ _ _ _ _ _ _ [xvr 0, xvi a, xvi rule, xvi l, xvi q, xvi z52, u48_6] _ _
                      exact ih_60 _ (show (13 - z52).toNat < m60 from by omega) z52 (u48_6) rfl ⟨by omega, fun kk hk hne hs => by
                                by_cases e : (kk : Int) = k
                                · have s1 := hs.1
                                  have s2 := hs.2
                                  rw [show kk = k.toNat from by omega] at s1 s2
                                  omega
                                · exact hk2 kk (by omega) hne hs⟩
                    · intro z53 t53 e53 l53 h53
                      try have w53 : t53 = 0 := by omega
                      intro z54 t54 e54 l54 h54
                      try have w54 : t54 = 0 := by omega
                      intro z55 t55 e55 l55 h55
                      try have w55 : t55 = 0 := by omega
                      -- read
                      refine And.intro (rfl) (And.intro (⟨by omega, by omega⟩) ?_)
                      intro v56 e56 l56 h56
                      have e56 : v56 = σ 2 z55.toNat := e56
                      rw [show z55.toNat = 151 + 13 * q.toNat + k.toNat from by omega] at e56
                      refine And.intro (fun c57 => ?_) (fun c57 => ?_)
                      · refine hX 400 113 _ _ ?_
                        intro z58 t58 e58 l58 h58
                        try have w58 : t58 = 0 := by omega
                        show xw _ _ _ _ _ _ _ _ _ _ [xvr 0, xvi a, xvi rule, xvi l, xvi q, xvi z58, u48_6] _ _
                        exact ih_60 _ (show (13 - z58).toNat < m60 from by omega) z58 (u48_6) rfl ⟨by omega, fun kk hk hne hs => by
                                  by_cases e : (kk : Int) = k
                                  · have s1 := hs.1
                                    have s2 := hs.2
                                    rw [show kk = k.toNat from by omega] at s1 s2
                                    omega
                                  · exact hk2 kk (by omega) hne hs⟩
                      · refine s_hand0v (σ := σ) (k := a) (kind := k) hp0.1 (by omega) (by omega) (fun r59 p59 => ?_)
                        rw [show (60 + 13 * a + k).toNat = 60 + 13 * a.toNat + k.toNat from by omega] at p59
                        have p59 : r59 = HH (σ 2) a.toNat k.toNat := p59
                        have hv59 := HH_v hp0.1 (p := a.toNat) (k := k.toNat) (by omega) (by omega)
                        refine And.intro (fun c60 => ?_) (fun c60 => ?_)
                        · refine hX 400 113 _ _ ?_
                          intro z61 t61 e61 l61 h61
                          try have w61 : t61 = 0 := by omega
                          show xw _ _ _ _ _ _ _ _ _ _ [xvr 0, xvi a, xvi rule, xvi l, xvi q, xvi z61, u48_6] _ _
                          exact ih_60 _ (show (13 - z61).toNat < m60 from by omega) z61 (u48_6) rfl ⟨by omega, fun kk hk hne hs => by
                                    by_cases e : (kk : Int) = k
                                    · have s1 := hs.1
                                      have s2 := hs.2
                                      rw [show kk = k.toNat from by omega] at s1 s2
                                      omega
                                    · exact hk2 kk (by omega) hne hs⟩
                        · intro z62 t62 e62 l62 h62
                          try have w62 : t62 = 0 := by omega
                          intro z63 t63 e63 l63 h63
                          try have w63 : t63 = 0 := by omega
                          refine And.intro rfl ?_
                          refine hQ _ (Or.inr ⟨⟨by omega, hcp⟩, Or.inr (Or.inl ⟨by omega, Or.inr ⟨q.toNat, k.toNat, by omega, by omega, by omega, by omega, ⟨by omega, by omega⟩, fun j kk hk hne h => ?_⟩, by omega⟩)⟩)
                          rcases h with h | ⟨h, h2⟩
                          · exact hns j kk (by omega) hne hk
                          · rw [h]; exact hk2 kk (by omega) (by omega)
                exact lp_60 _ 0 (u45_6) rfl ⟨by omega, fun kk hk => by omega⟩
            exact lp_46 _ 0 (u5_5) (u5_6) rfl ⟨by omega, fun j kk hj => by omega⟩
        · intro z64 t64 e64 l64 h64
          try have w64 : t64 = 0 := by omega
          show xw _ _ _ _ _ _ _ _ _ _ [xvr 0, xvi a, xvi rule, xvi z64, u5_4, u5_5, u5_6] _ _
          exact ih_22 _ (show (13 - z64).toNat < m22 from by omega) z64 (u5_4) (u5_5) (u5_6) rfl ⟨(by
                    by_cases e : l = j0
                    · have hjl : HH (σ 2) a.toNat l.toNat = HH (σ 2) a.toNat j0 := by rw [show l.toNat = j0 from by omega]
                      omega
                    · omega), fun j hj => by
                    by_cases e : (j : Int) = l
                    · rw [show j = l.toNat from by omega]; omega
                    · exact hz j (by omega)⟩
      exact lp_22 _ 0 (xvu) (xvu) (xvu) rfl ⟨by omega, fun j hj => by omega⟩
    · refine hX 400 18 _ _ ?_
      refine And.intro rfl ?_
      exact hQ _ (Or.inl ⟨rfl, by omega⟩)

