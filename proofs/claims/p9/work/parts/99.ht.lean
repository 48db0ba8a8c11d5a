set_option maxHeartbeats 4000000 in
set_option maxRecDepth 100000 in
theorem sX2_choiceG {f : Nat → Int} {σ : xS} {p rule : Int} {Q : Option xV → xS → Prop} (hp0 : GR σ f) (hp1 : VX f) (hp2 : 0 ≤ p ∧ p ≤ 5) (hp3 : p < f 1) (hQ : ∀ r : Int, (BNT f p.toNat rule r) → Q (some (xvi r)) σ) : xT kX2_choice [xvr 0, xvi p, xvi rule] σ Q := by
  refine ⟨Nat.le_of_ble_eq_true rfl, fun X hX => ?_⟩
  show X 0 [xvr 0, xvi p, xvi rule, xvu, xvu, xvu] σ
  refine hX 400 0 _ _ ?_
  have n0 := hp0.n0 (i := 0) (by decide)
  have n1 := hp0.n0 (i := 1) (by decide)
  have m0 := hp1.1.1.1
  have m1 := hp1.1.1.2.1
  have hnp : nwF f ((p.toNat : Nat) : Int) = nwF f p := by rw [show ((p.toNat : Nat) : Int) = p from by omega]
  have c52 := hp1.1.cd52 (p := p.toNat) (by omega)
  have vd := hp1.1.2.2.2.2.2 p.toNat (by omega)
  have hdz : 1 ≤ f (565 + p.toNat) → f 0 ≤ f (565 + p.toNat) - 1 → HH f p.toNat (f (565 + p.toNat) - 1).toNat = 0 := fun h1 h2 => (HH_v hp1.1 (p := p.toNat) (k := (f (565 + p.toNat) - 1).toNat) (by omega) (by omega)).2 (by omega)
  have hnw : 2 ≤ f 1 → 0 ≤ nwF f p ∧ nwF f p < f 1 := fun h => (nwF_r h ⟨by omega, by omega⟩).1
  intro v1 e1 l1 h1
  have e1 : v1 = σ 0 1 := e1
  refine And.intro (fun c2 => ?_) (fun c2 => ?_)
  · refine hX 400 17 _ _ ?_
    refine And.intro rfl ?_
    exact hQ _ (Or.inl ⟨rfl, by omega⟩)
  · refine And.intro (rfl) (And.intro (⟨by omega, by omega⟩) ?_)
    intro v3 e3 l3 h3
    have e3 : v3 = σ 3 p.toNat := e3
    have hcd : v3 = cd f p.toNat := by rw [e3]; exact hp0.vc hp2
    refine And.intro (fun c4 => ?_) (fun c4 => ?_)
    · obtain ⟨j0, hj0, hj1⟩ := cd_p hp1.1 (p := p.toNat) (by omega) (by omega)
      have hvj := HH_v hp1.1 (p := p.toNat) (k := j0) (by omega) hj0
      have hcp : 0 < cd f p.toNat := by omega
      have hf0 : 1 ≤ f 0 := by
        by_cases c : f 0 ≤ j0
        · have := hvj.2 c; omega
        · omega
      clear hvj
      refine And.intro (fun c5 => ?_) (fun c5 => ?_)
      · refine And.intro (fun c6 => ?_) (fun c6 => ?_)
        · refine And.intro (Nat.le_of_ble_eq_true rfl) ?_
          show xw _ _ _ _ _ _ _ _ _ _ [xvr 0, xvi p, xvi rule, xvi (-1), xvu, xvu] _ _
          refine And.intro (fun _ => ?_) (fun c7 => absurd (by decide) c7)
          refine And.intro (fun c8 => ?_) (fun c8 => ?_)
          · refine And.intro (Nat.le_of_ble_eq_true rfl) ?_
            show xw _ _ _ _ _ _ _ _ _ _ [xvr 0, xvi p, xvi rule, xvi (-1), xvi (-1), xvu] _ _
            refine sX2_hasKind (σ := σ) (kind := (-1)) (fun r9 p9 => ?_)
            have p9 : (r9 = 1 ∧ 0 ≤ (-1) ∧ (-1) < f 0) ∨ (r9 = 0 ∧ ((-1) < 0 ∨ f 0 ≤ (-1))) := by rw [← n0]; exact p9
            refine And.intro (fun c10 => ?_) (fun c10 => ?_)
            · refine hX 400 101 _ _ ?_
              refine And.intro (Nat.le_of_ble_eq_true rfl) ?_
              show xw _ _ _ _ _ _ _ _ _ _ [xvr 0, xvi p, xvi rule, xvi (-1), xvi (-1), xvi 0] _ _
              refine sX2_nextWithCardG (σ := σ) (f := f) (p := p) hp0 hp1 hp2 hp3 (fun r11 p11 => ?_)
              have p11 : r11 = nwF f p := p11
              have nn0 := hnw (by omega)
              intro z12 t12 e12 l12 h12
              try have w12 : t12 = 0 := by omega
              refine And.intro (fun _ => ?_) (fun c13 => absurd (by decide) c13)
              refine sX2_leastKindG (σ := σ) (f := f) (p := p) hp0 hp1 hp2 hcp (fun r14 p14 => ?_)
              have p14 : LKd f p.toNat r14 := p14
              have kk0 := p14.1
              intro z15 t15 e15 l15 h15
              try have w15 : t15 = 0 := by omega
              refine And.intro rfl ?_
              have hnd : ¬ (rule = 3 ∧ DRW1 f p.toNat) := fun z => by
                obtain ⟨z1, z2, z3⟩ := z
                omega
              exact hQ _ (Or.inr ⟨⟨by omega, hcp⟩, Or.inr (Or.inr ⟨Or.inr ⟨by omega, by omega⟩, r14, Or.inr ⟨hnd, p14⟩, by omega⟩)⟩)
            · refine sX2_held (σ := σ) (p := p) (kind := (-1)) (by omega) (by omega) (fun r16 p16 => ?_)
              refine And.intro (fun c17 => ?_) (fun c17 => ?_)
              · refine hX 400 101 _ _ ?_
                refine And.intro (Nat.le_of_ble_eq_true rfl) ?_
                show xw _ _ _ _ _ _ _ _ _ _ [xvr 0, xvi p, xvi rule, xvi (-1), xvi (-1), xvi 0] _ _
                refine sX2_nextWithCardG (σ := σ) (f := f) (p := p) hp0 hp1 hp2 hp3 (fun r18 p18 => ?_)
                have p18 : r18 = nwF f p := p18
                have nn0 := hnw (by omega)
                intro z19 t19 e19 l19 h19
                try have w19 : t19 = 0 := by omega
                refine And.intro (fun _ => ?_) (fun c20 => absurd (by decide) c20)
                refine sX2_leastKindG (σ := σ) (f := f) (p := p) hp0 hp1 hp2 hcp (fun r21 p21 => ?_)
                have p21 : LKd f p.toNat r21 := p21
                have kk0 := p21.1
                intro z22 t22 e22 l22 h22
                try have w22 : t22 = 0 := by omega
                refine And.intro rfl ?_
                have hnd : ¬ (rule = 3 ∧ DRW1 f p.toNat) := fun z => by
                  obtain ⟨z1, z2, z3⟩ := z
                  omega
                exact hQ _ (Or.inr ⟨⟨by omega, hcp⟩, Or.inr (Or.inr ⟨Or.inr ⟨by omega, by omega⟩, r21, Or.inr ⟨hnd, p21⟩, by omega⟩)⟩)
              · refine And.intro (Nat.le_of_ble_eq_true rfl) ?_
                show xw _ _ _ _ _ _ _ _ _ _ [xvr 0, xvi p, xvi rule, xvi (-1), xvi (-1), xvi 1] _ _
                refine sX2_nextWithCardG (σ := σ) (f := f) (p := p) hp0 hp1 hp2 hp3 (fun r23 p23 => ?_)
                have p23 : r23 = nwF f p := p23
                have nn0 := hnw (by omega)
                intro z24 t24 e24 l24 h24
                try have w24 : t24 = 0 := by omega
                refine And.intro (fun c25 => absurd c25 (by decide)) (fun _ => ?_)
                -- k
                intro z26 t26 e26 l26 h26
                try have w26 : t26 = 0 := by omega
                refine And.intro rfl ?_
                exact hQ _ (Or.inr ⟨⟨by omega, hcp⟩, Or.inr (Or.inr ⟨Or.inr ⟨by omega, by omega⟩, (-1), Or.inl ⟨by omega, ⟨by omega, by omega⟩, by omega⟩, by omega⟩)⟩)
          · refine And.intro (rfl) (And.intro (⟨by omega, by omega⟩) ?_)
            intro v27 e27 l27 h27
            have e27 : v27 = σ 8 p.toNat := e27
            have hld : v27 = f (565 + p.toNat) - 1 := by
              have z := hp0.1 _ _ _ _ (mp_dr (j := p.toNat) (by omega))
              rw [e27, show p.toNat = p.toNat from by omega]
              omega
            refine And.intro (Nat.le_of_ble_eq_true rfl) ?_
            show xw _ _ _ _ _ _ _ _ _ _ [xvr 0, xvi p, xvi rule, xvi (-1), xvi v27, xvu] _ _
            refine sX2_hasKind (σ := σ) (kind := v27) (fun r28 p28 => ?_)
            have p28 : (r28 = 1 ∧ 0 ≤ v27 ∧ v27 < f 0) ∨ (r28 = 0 ∧ (v27 < 0 ∨ f 0 ≤ v27)) := by rw [← n0]; exact p28
            refine And.intro (fun c29 => ?_) (fun c29 => ?_)
            · refine hX 400 101 _ _ ?_
              refine And.intro (Nat.le_of_ble_eq_true rfl) ?_
              show xw _ _ _ _ _ _ _ _ _ _ [xvr 0, xvi p, xvi rule, xvi (-1), xvi v27, xvi 0] _ _
              refine sX2_nextWithCardG (σ := σ) (f := f) (p := p) hp0 hp1 hp2 hp3 (fun r30 p30 => ?_)
              have p30 : r30 = nwF f p := p30
              have nn0 := hnw (by omega)
              intro z31 t31 e31 l31 h31
              try have w31 : t31 = 0 := by omega
              refine And.intro (fun _ => ?_) (fun c32 => absurd (by decide) c32)
              refine sX2_leastKindG (σ := σ) (f := f) (p := p) hp0 hp1 hp2 hcp (fun r33 p33 => ?_)
              have p33 : LKd f p.toNat r33 := p33
              have kk0 := p33.1
              intro z34 t34 e34 l34 h34
              try have w34 : t34 = 0 := by omega
              refine And.intro rfl ?_
              have hnd : ¬ (rule = 3 ∧ DRW1 f p.toNat) := fun z => by
                obtain ⟨z1, z2, z3⟩ := z
                omega
              exact hQ _ (Or.inr ⟨⟨by omega, hcp⟩, Or.inr (Or.inr ⟨Or.inr ⟨by omega, by omega⟩, r33, Or.inr ⟨hnd, p33⟩, by omega⟩)⟩)
            · refine sX2_held (σ := σ) (p := p) (kind := v27) (by omega) (by omega) (fun r35 p35 => ?_)
              have p35 : r35 = HH f p.toNat (f (565 + p.toNat) - 1).toNat := by rw [← hld]; exact p35.trans (hp0.vh hp2 (by omega))
              refine And.intro (fun c36 => ?_) (fun c36 => ?_)
              · refine hX 400 101 _ _ ?_
                refine And.intro (Nat.le_of_ble_eq_true rfl) ?_
                show xw _ _ _ _ _ _ _ _ _ _ [xvr 0, xvi p, xvi rule, xvi (-1), xvi v27, xvi 0] _ _
                refine sX2_nextWithCardG (σ := σ) (f := f) (p := p) hp0 hp1 hp2 hp3 (fun r37 p37 => ?_)
                have p37 : r37 = nwF f p := p37
                have nn0 := hnw (by omega)
                intro z38 t38 e38 l38 h38
                try have w38 : t38 = 0 := by omega
                refine And.intro (fun _ => ?_) (fun c39 => absurd (by decide) c39)
                refine sX2_leastKindG (σ := σ) (f := f) (p := p) hp0 hp1 hp2 hcp (fun r40 p40 => ?_)
                have p40 : LKd f p.toNat r40 := p40
                have kk0 := p40.1
                intro z41 t41 e41 l41 h41
                try have w41 : t41 = 0 := by omega
                refine And.intro rfl ?_
                have hnd : ¬ (rule = 3 ∧ DRW1 f p.toNat) := fun z => by
                  obtain ⟨z1, z2, z3⟩ := z
                  omega
                exact hQ _ (Or.inr ⟨⟨by omega, hcp⟩, Or.inr (Or.inr ⟨Or.inr ⟨by omega, by omega⟩, r40, Or.inr ⟨hnd, p40⟩, by omega⟩)⟩)
              · refine And.intro (Nat.le_of_ble_eq_true rfl) ?_
                show xw _ _ _ _ _ _ _ _ _ _ [xvr 0, xvi p, xvi rule, xvi (-1), xvi v27, xvi 1] _ _
                refine sX2_nextWithCardG (σ := σ) (f := f) (p := p) hp0 hp1 hp2 hp3 (fun r42 p42 => ?_)
                have p42 : r42 = nwF f p := p42
                have nn0 := hnw (by omega)
                intro z43 t43 e43 l43 h43
                try have w43 : t43 = 0 := by omega
                refine And.intro (fun c44 => absurd c44 (by decide)) (fun _ => ?_)
                -- k
                intro z45 t45 e45 l45 h45
                try have w45 : t45 = 0 := by omega
                refine And.intro rfl ?_
                exact hQ _ (Or.inr ⟨⟨by omega, hcp⟩, Or.inr (Or.inr ⟨Or.inr ⟨by omega, by omega⟩, v27, Or.inl ⟨by omega, ⟨by omega, by omega⟩, by omega⟩, by omega⟩)⟩)
        · refine sX2_firstSureG (σ := σ) (f := f) (p := p) hp0 hp1 hp2 (fun r46 p46 => ?_)
          have p46 : FSX f p.toNat r46 := p46
          refine And.intro (Nat.le_of_ble_eq_true rfl) ?_
          show xw _ _ _ _ _ _ _ _ _ _ [xvr 0, xvi p, xvi rule, xvi r46, xvu, xvu] _ _
          refine And.intro (fun c47 => ?_) (fun c47 => ?_)
          · refine And.intro (fun c48 => ?_) (fun c48 => ?_)
            · refine And.intro (Nat.le_of_ble_eq_true rfl) ?_
              show xw _ _ _ _ _ _ _ _ _ _ [xvr 0, xvi p, xvi rule, xvi r46, xvi (-1), xvu] _ _
              refine sX2_hasKind (σ := σ) (kind := (-1)) (fun r49 p49 => ?_)
              have p49 : (r49 = 1 ∧ 0 ≤ (-1) ∧ (-1) < f 0) ∨ (r49 = 0 ∧ ((-1) < 0 ∨ f 0 ≤ (-1))) := by rw [← n0]; exact p49
              refine And.intro (fun c50 => ?_) (fun c50 => ?_)
              · refine hX 400 101 _ _ ?_
                refine And.intro (Nat.le_of_ble_eq_true rfl) ?_
                show xw _ _ _ _ _ _ _ _ _ _ [xvr 0, xvi p, xvi rule, xvi r46, xvi (-1), xvi 0] _ _
                refine sX2_nextWithCardG (σ := σ) (f := f) (p := p) hp0 hp1 hp2 hp3 (fun r51 p51 => ?_)
                have p51 : r51 = nwF f p := p51
                have nn0 := hnw (by omega)
                intro z52 t52 e52 l52 h52
                try have w52 : t52 = 0 := by omega
                refine And.intro (fun _ => ?_) (fun c53 => absurd (by decide) c53)
                refine sX2_leastKindG (σ := σ) (f := f) (p := p) hp0 hp1 hp2 hcp (fun r54 p54 => ?_)
                have p54 : LKd f p.toNat r54 := p54
                have kk0 := p54.1
                intro z55 t55 e55 l55 h55
                try have w55 : t55 = 0 := by omega
                refine And.intro rfl ?_
                have hnd : ¬ (rule = 3 ∧ DRW1 f p.toNat) := fun z => by
                  obtain ⟨z1, z2, z3⟩ := z
                  omega
                exact hQ _ (Or.inr ⟨⟨by omega, hcp⟩, Or.inr (Or.inr ⟨Or.inl ⟨by omega, by rw [show (-1 : Int) = r46 from by omega]; exact p46⟩, r54, Or.inr ⟨hnd, p54⟩, by omega⟩)⟩)
              · refine sX2_held (σ := σ) (p := p) (kind := (-1)) (by omega) (by omega) (fun r56 p56 => ?_)
                refine And.intro (fun c57 => ?_) (fun c57 => ?_)
                · refine hX 400 101 _ _ ?_
                  refine And.intro (Nat.le_of_ble_eq_true rfl) ?_
                  show xw _ _ _ _ _ _ _ _ _ _ [xvr 0, xvi p, xvi rule, xvi r46, xvi (-1), xvi 0] _ _
                  refine sX2_nextWithCardG (σ := σ) (f := f) (p := p) hp0 hp1 hp2 hp3 (fun r58 p58 => ?_)
                  have p58 : r58 = nwF f p := p58
                  have nn0 := hnw (by omega)
                  intro z59 t59 e59 l59 h59
                  try have w59 : t59 = 0 := by omega
                  refine And.intro (fun _ => ?_) (fun c60 => absurd (by decide) c60)
                  refine sX2_leastKindG (σ := σ) (f := f) (p := p) hp0 hp1 hp2 hcp (fun r61 p61 => ?_)
                  have p61 : LKd f p.toNat r61 := p61
                  have kk0 := p61.1
                  intro z62 t62 e62 l62 h62
                  try have w62 : t62 = 0 := by omega
                  refine And.intro rfl ?_
                  have hnd : ¬ (rule = 3 ∧ DRW1 f p.toNat) := fun z => by
                    obtain ⟨z1, z2, z3⟩ := z
                    omega
                  exact hQ _ (Or.inr ⟨⟨by omega, hcp⟩, Or.inr (Or.inr ⟨Or.inl ⟨by omega, by rw [show (-1 : Int) = r46 from by omega]; exact p46⟩, r61, Or.inr ⟨hnd, p61⟩, by omega⟩)⟩)
                · refine And.intro (Nat.le_of_ble_eq_true rfl) ?_
                  show xw _ _ _ _ _ _ _ _ _ _ [xvr 0, xvi p, xvi rule, xvi r46, xvi (-1), xvi 1] _ _
                  refine sX2_nextWithCardG (σ := σ) (f := f) (p := p) hp0 hp1 hp2 hp3 (fun r63 p63 => ?_)
                  have p63 : r63 = nwF f p := p63
                  have nn0 := hnw (by omega)
                  intro z64 t64 e64 l64 h64
                  try have w64 : t64 = 0 := by omega
                  refine And.intro (fun c65 => absurd c65 (by decide)) (fun _ => ?_)
                  -- k
                  intro z66 t66 e66 l66 h66
                  try have w66 : t66 = 0 := by omega
                  refine And.intro rfl ?_
                  exact hQ _ (Or.inr ⟨⟨by omega, hcp⟩, Or.inr (Or.inr ⟨Or.inl ⟨by omega, by rw [show (-1 : Int) = r46 from by omega]; exact p46⟩, (-1), Or.inl ⟨by omega, ⟨by omega, by omega⟩, by omega⟩, by omega⟩)⟩)
            · refine And.intro (rfl) (And.intro (⟨by omega, by omega⟩) ?_)
              intro v67 e67 l67 h67
              have e67 : v67 = σ 8 p.toNat := e67
              have hld : v67 = f (565 + p.toNat) - 1 := by
                have z := hp0.1 _ _ _ _ (mp_dr (j := p.toNat) (by omega))
                rw [e67, show p.toNat = p.toNat from by omega]
                omega
              refine And.intro (Nat.le_of_ble_eq_true rfl) ?_
              show xw _ _ _ _ _ _ _ _ _ _ [xvr 0, xvi p, xvi rule, xvi r46, xvi v67, xvu] _ _
              refine sX2_hasKind (σ := σ) (kind := v67) (fun r68 p68 => ?_)
              have p68 : (r68 = 1 ∧ 0 ≤ v67 ∧ v67 < f 0) ∨ (r68 = 0 ∧ (v67 < 0 ∨ f 0 ≤ v67)) := by rw [← n0]; exact p68
              refine And.intro (fun c69 => ?_) (fun c69 => ?_)
              · refine hX 400 101 _ _ ?_
                refine And.intro (Nat.le_of_ble_eq_true rfl) ?_
                show xw _ _ _ _ _ _ _ _ _ _ [xvr 0, xvi p, xvi rule, xvi r46, xvi v67, xvi 0] _ _
                refine sX2_nextWithCardG (σ := σ) (f := f) (p := p) hp0 hp1 hp2 hp3 (fun r70 p70 => ?_)
                have p70 : r70 = nwF f p := p70
                have nn0 := hnw (by omega)
                intro z71 t71 e71 l71 h71
                try have w71 : t71 = 0 := by omega
                refine And.intro (fun _ => ?_) (fun c72 => absurd (by decide) c72)
                refine sX2_leastKindG (σ := σ) (f := f) (p := p) hp0 hp1 hp2 hcp (fun r73 p73 => ?_)
                have p73 : LKd f p.toNat r73 := p73
                have kk0 := p73.1
                intro z74 t74 e74 l74 h74
                try have w74 : t74 = 0 := by omega
                refine And.intro rfl ?_
                have hnd : ¬ (rule = 3 ∧ DRW1 f p.toNat) := fun z => by
                  obtain ⟨z1, z2, z3⟩ := z
                  omega
                exact hQ _ (Or.inr ⟨⟨by omega, hcp⟩, Or.inr (Or.inr ⟨Or.inl ⟨by omega, by rw [show (-1 : Int) = r46 from by omega]; exact p46⟩, r73, Or.inr ⟨hnd, p73⟩, by omega⟩)⟩)
              · refine sX2_held (σ := σ) (p := p) (kind := v67) (by omega) (by omega) (fun r75 p75 => ?_)
                have p75 : r75 = HH f p.toNat (f (565 + p.toNat) - 1).toNat := by rw [← hld]; exact p75.trans (hp0.vh hp2 (by omega))
                refine And.intro (fun c76 => ?_) (fun c76 => ?_)
                · refine hX 400 101 _ _ ?_
                  refine And.intro (Nat.le_of_ble_eq_true rfl) ?_
                  show xw _ _ _ _ _ _ _ _ _ _ [xvr 0, xvi p, xvi rule, xvi r46, xvi v67, xvi 0] _ _
                  refine sX2_nextWithCardG (σ := σ) (f := f) (p := p) hp0 hp1 hp2 hp3 (fun r77 p77 => ?_)
                  have p77 : r77 = nwF f p := p77
                  have nn0 := hnw (by omega)
                  intro z78 t78 e78 l78 h78
                  try have w78 : t78 = 0 := by omega
                  refine And.intro (fun _ => ?_) (fun c79 => absurd (by decide) c79)
                  refine sX2_leastKindG (σ := σ) (f := f) (p := p) hp0 hp1 hp2 hcp (fun r80 p80 => ?_)
                  have p80 : LKd f p.toNat r80 := p80
                  have kk0 := p80.1
                  intro z81 t81 e81 l81 h81
                  try have w81 : t81 = 0 := by omega
                  refine And.intro rfl ?_
                  have hnd : ¬ (rule = 3 ∧ DRW1 f p.toNat) := fun z => by
                    obtain ⟨z1, z2, z3⟩ := z
                    omega
                  exact hQ _ (Or.inr ⟨⟨by omega, hcp⟩, Or.inr (Or.inr ⟨Or.inl ⟨by omega, by rw [show (-1 : Int) = r46 from by omega]; exact p46⟩, r80, Or.inr ⟨hnd, p80⟩, by omega⟩)⟩)
                · refine And.intro (Nat.le_of_ble_eq_true rfl) ?_
                  show xw _ _ _ _ _ _ _ _ _ _ [xvr 0, xvi p, xvi rule, xvi r46, xvi v67, xvi 1] _ _
                  refine sX2_nextWithCardG (σ := σ) (f := f) (p := p) hp0 hp1 hp2 hp3 (fun r82 p82 => ?_)
                  have p82 : r82 = nwF f p := p82
                  have nn0 := hnw (by omega)
                  intro z83 t83 e83 l83 h83
                  try have w83 : t83 = 0 := by omega
                  refine And.intro (fun c84 => absurd c84 (by decide)) (fun _ => ?_)
                  -- k
                  intro z85 t85 e85 l85 h85
                  try have w85 : t85 = 0 := by omega
                  refine And.intro rfl ?_
                  exact hQ _ (Or.inr ⟨⟨by omega, hcp⟩, Or.inr (Or.inr ⟨Or.inl ⟨by omega, by rw [show (-1 : Int) = r46 from by omega]; exact p46⟩, v67, Or.inl ⟨by omega, ⟨by omega, by omega⟩, by omega⟩, by omega⟩)⟩)
          · refine And.intro rfl ?_
            exact hQ _ (Or.inr ⟨⟨by omega, hcp⟩, Or.inr (Or.inl ⟨by omega, p46, by omega⟩)⟩)
      · refine sX2_richestG (σ := σ) (f := f) (p := p) hp0 hp1 hp2 hp3 (by omega) (fun r86 p86 => ?_)
        have p86 : RC f p.toNat r86 := p86
        have rr0 := p86.1
        intro z87 t87 e87 l87 h87
        try have w87 : t87 = 0 := by omega
        refine sX2_mostHeldG (σ := σ) (f := f) (p := p) hp0 hp1 hp2 hf0 (fun r88 p88 => ?_)
        have p88 : MH f p.toNat r88 := p88
        have rr1 := p86.1
        have rr2 := p88.1
        intro z89 t89 e89 l89 h89
        try have w89 : t89 = 0 := by omega
        refine And.intro rfl ?_
        exact hQ _ (Or.inr ⟨⟨by omega, hcp⟩, Or.inl ⟨by omega, r86, r88, p86, p88, by omega⟩⟩)
    · refine hX 400 17 _ _ ?_
      refine And.intro rfl ?_
      exact hQ _ (Or.inl ⟨rfl, by omega⟩)

