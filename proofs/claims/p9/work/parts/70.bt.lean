theorem mod_ne {a i p : Int} (h1 : 0 ≤ a ∧ a < p) (h2 : 1 ≤ i ∧ i < p) (h3 : p ≤ 6) : ¬ (a + i) % p = a := by
  rcases (by omega : p = 2 ∨ p = 3 ∨ p = 4 ∨ p = 5 ∨ p = 6) with rfl | rfl | rfl | rfl | rfl <;> omega
theorem sm_lt {n m : Nat} {g : Nat → Int} (h : 0 < sm n g) (z : ∀ j, j < m → g j = 0) : m < n := by
  by_cases c : m < n
  · exact c
  · rw [sm_z (fun i hi => z i (by omega))] at h; omega
theorem VG.hk {f : Nat → Int} (h : VG f) {p k : Nat} (hp : p < 6) (hk : k < 13) (h1 : 1 ≤ hd f p k) : (k : Int) < f 0 := by
  have a := (h.2.2.1 p k hp hk).2.2
  by_cases c : f 0 ≤ (k : Int)
  · have := a (Or.inr c); omega
  · omega
set_option maxHeartbeats 4000000 in
set_option maxRecDepth 100000 in
theorem s_nextX {σ : xS} {a : Int} {Q : Option xV → xS → Prop} (hI : RI σ) (hp0 : 0 ≤ a ∧ a < σ 2 1 ∧ 2 ≤ σ 2 1) (hQ : ∀ r : Int, (0 ≤ r ∧ r < σ 2 1 ∧ ¬ r = a) → Q (some (xvi r)) σ) : xT kX11_nextWithCards [xvr 0, xvi a] σ Q := by
  refine ⟨Nat.le_of_ble_eq_true rfl, fun X hX => ?_⟩
  show X 0 [xvr 0, xvi a, xvu] σ
  have hI : RK σ σ := RK.rf hI
  have hb0 := hI.1.kinds; have hb1 := hI.1.persons
  refine hX 400 0 _ _ ?_
  refine And.intro (Nat.le_of_ble_eq_true rfl) ?_
  show xw _ _ _ _ _ _ _ _ _ _ [xvr 0, xvi a, xvi 1] _ _
  have lp_2 : ∀ (m2 : Nat) (i : Int), ((6 - i).toNat) = m2 → (1 ≤ i ∧ i ≤ 6) → X 2 [xvr 0, xvi a, xvi i] σ := by
    intro m2
    induction m2 using Nat.strongRecOn with
    | _ m2 ih_2 =>
    intro i hm_2 hv_2
    refine hX 400 2 _ _ ?_
    refine And.intro (rfl) (And.intro (⟨by omega, by omega⟩) ?_)
    intro v2 e2 l2 h2
    have e2 : v2 = σ 2 1 := e2
    have rv2 : 0 ≤ (σ 2 1) ∧ (σ 2 1) ≤ 6 := hI.1.persons
    refine And.intro (fun c3 => ?_) (fun c3 => ?_)
    · intro z4 t4 e4 l4 h4
      try have w4 : t4 = 0 := by omega
      refine And.intro (rfl) (And.intro (⟨by omega, by omega⟩) ?_)
      intro v5 e5 l5 h5
      have e5 : v5 = σ 2 1 := e5
      have rv5 : 0 ≤ (σ 2 1) ∧ (σ 2 1) ≤ 6 := hI.1.persons
      refine And.intro (by omega) ?_
      intro z6 e6 f6 l6 h6
      replace f6 := f6 (by omega) (by omega)
      have g6 := Int.emod_nonneg z4 (b := v5) (by omega); have k6 := Int.emod_lt_of_pos z4 (b := v5) (by omega); rw [← f6] at g6 k6
      refine And.intro rfl ?_
      have hne := mod_ne (a := a) (i := 1) (p := σ 2 1) (by omega) (by omega) (by omega)
      exact hQ _ ⟨by omega, by omega, (by intro hx; apply hne; rw [← hx]; rw [f6]; congr 1 <;> omega)⟩
    · intro z7 t7 e7 l7 h7
      try have w7 : t7 = 0 := by omega
      refine And.intro (rfl) (And.intro (⟨by omega, by omega⟩) ?_)
      intro v8 e8 l8 h8
      have e8 : v8 = σ 2 1 := e8
      have rv8 : 0 ≤ (σ 2 1) ∧ (σ 2 1) ≤ 6 := hI.1.persons
      refine And.intro (by omega) ?_
      intro z9 e9 f9 l9 h9
      replace f9 := f9 (by omega) (by omega)
      have g9 := Int.emod_nonneg z7 (b := v8) (by omega); have k9 := Int.emod_lt_of_pos z7 (b := v8) (by omega); rw [← f9] at g9 k9
      refine s_cards (σ := σ) (k := z9) (VG_iff.mp hI.1.1).1 (by omega) (fun r10 p10 => ?_)
      refine And.intro (fun c11 => ?_) (fun c11 => ?_)
      · intro z12 t12 e12 l12 h12
        try have w12 : t12 = 0 := by omega
        show xw _ _ _ _ _ _ _ _ _ _ [xvr 0, xvi a, xvi z12] _ _
        exact ih_2 _ (show (6 - z12).toNat < m2 from by omega) z12 rfl (show 1 ≤ z12 ∧ z12 ≤ 6 from by first | trivial | omega | (refine ⟨by assumption, ?_⟩; omega) | (refine ⟨?_, ?_⟩ <;> omega))
      · intro z13 t13 e13 l13 h13
        try have w13 : t13 = 0 := by omega
        refine And.intro (rfl) (And.intro (⟨by omega, by omega⟩) ?_)
        intro v14 e14 l14 h14
        have e14 : v14 = σ 2 1 := e14
        have rv14 : 0 ≤ (σ 2 1) ∧ (σ 2 1) ≤ 6 := hI.1.persons
        refine And.intro (by omega) ?_
        intro z15 e15 f15 l15 h15
        replace f15 := f15 (by omega) (by omega)
        have g15 := Int.emod_nonneg z13 (b := v14) (by omega); have k15 := Int.emod_lt_of_pos z13 (b := v14) (by omega); rw [← f15] at g15 k15
        refine And.intro rfl ?_
        have hne := mod_ne (a := a) (i := i) (p := σ 2 1) (by omega) (by omega) (by omega)
        exact hQ _ ⟨by omega, by omega, (by intro hx; apply hne; rw [← hx]; rw [f15]; congr 1 <;> omega)⟩
  exact lp_2 _ 1 rfl (show 1 ≤ 1 ∧ 1 ≤ 6 from by first | trivial | omega | (refine ⟨by assumption, ?_⟩; omega) | (refine ⟨?_, ?_⟩ <;> omega))
theorem bent_ok {σ : xS} {a q kd r : Int} (hp : σ 2 1 ≤ 6) (hq : 0 ≤ q ∧ q < σ 2 1) (hne : ¬ q = a) (hk : 0 ≤ kd ∧ kd < σ 2 0) (hk0 : σ 2 0 ≤ 13) (hr : r = 100 * q + kd) (hh : 1 ≤ σ 2 (60 + 13 * a + kd).toNat) : 0 ≤ r ∧ r / 100 < σ 2 1 ∧ ¬ r / 100 = a ∧ (0 ≤ r % 100 ∧ r % 100 < σ 2 0) ∧ 1 ≤ σ 2 (60 + 13 * a + r % 100).toNat := by
  have e1 : r / 100 = q := by omega
  have e2 : r % 100 = kd := by omega
  rw [e1, e2]
  exact ⟨by omega, hq.2, hne, hk, hh⟩
theorem hd_at {σ : xS} {a kd : Int} (h1 : 0 ≤ a ∧ a ≤ 5) (h2 : 0 ≤ kd ∧ kd ≤ 12) (h : 1 ≤ hd (σ 2) a.toNat kd.toNat) : 1 ≤ σ 2 (60 + 13 * a + kd).toNat := by
  have i1 := hdI (σ 2) (k := a) (kind := kd) (by omega) (by omega)
  omega
set_option maxHeartbeats 4000000 in
set_option maxRecDepth 100000 in
theorem s_bentOf {σ : xS} {a rule : Int} {Q : Option xV → xS → Prop} (hI : RI σ) (hp0 : 0 ≤ a ∧ a < σ 2 1) (hQ : ∀ r : Int, ((r = -1 ∧ (sm 13 (hd (σ 2) a.toNat) = 0 ∨ σ 2 1 < 2)) ∨ (0 ≤ r ∧ r / 100 < σ 2 1 ∧ ¬ r / 100 = a ∧ (0 ≤ r % 100 ∧ r % 100 < σ 2 0) ∧ 1 ≤ σ 2 (60 + 13 * a + r % 100).toNat)) → Q (some (xvi r)) σ) : xT kX11_bentOf [xvr 0, xvi a, xvi rule] σ Q := by
  refine ⟨Nat.le_of_ble_eq_true rfl, fun X hX => ?_⟩
  show X 0 [xvr 0, xvi a, xvi rule, xvu, xvu, xvu, xvu] σ
  have hI : RK σ σ := RK.rf hI
  have hb0 := hI.1.kinds; have hb1 := hI.1.persons
  refine hX 400 0 _ _ ?_
  refine s_cards (σ := σ) (k := a) (VG_iff.mp hI.1.1).1 (by omega) (fun r1 p1 => ?_)
  refine And.intro (fun c2 => ?_) (fun c2 => ?_)
  · refine hX 400 18 _ _ ?_
    refine And.intro rfl ?_
    exact hQ _ (Or.inl ⟨by omega, by omega⟩)
  · refine And.intro (rfl) (And.intro (⟨by omega, by omega⟩) ?_)
    intro v3 e3 l3 h3
    have e3 : v3 = σ 2 1 := e3
    have rv3 : 0 ≤ (σ 2 1) ∧ (σ 2 1) ≤ 6 := hI.1.persons
    refine And.intro (fun c4 => ?_) (fun c4 => ?_)
    · refine And.intro (Nat.le_of_ble_eq_true rfl) ?_
      show xw _ _ _ _ _ _ _ _ _ _ [xvr 0, xvi a, xvi rule, xvi 0, xvu, xvu, xvu] _ _
      have lp_22 : ∀ (m22 : Nat) (least : Int), ((13 - least).toNat) = m22 → (0 ≤ least ∧ (∀ j : Nat, (j : Int) < least → hd (σ 2) a.toNat j = 0)) → X 22 [xvr 0, xvi a, xvi rule, xvi least, xvu, xvu, xvu] σ := by
        intro m22
        induction m22 using Nat.strongRecOn with
        | _ m22 ih_22 =>
        intro least hm_22 hv_22
        obtain ⟨hl, hl0⟩ := hv_22
        have hl12 := sm_lt (n := 13) (m := least.toNat) (g := hd (σ 2) a.toNat) (by omega) (fun j hj => hl0 j (by omega))
        refine hX 400 22 _ _ ?_
        refine s_hand0 (σ := σ) (k := a) (kind := least) hI.1 (by omega) (by omega) (fun r6 p6 => ?_)
        have w6 : r6 = hd (σ 2) a.toNat (least).toNat := by
          have z : r6 = σ 2 (60 + 13 * a + least).toNat := p6.1
          rw [z]; exact hdI (σ 2) (k := a) (kind := least) (by omega) (by omega)
        have b6 := hI.1.1.hand (p := a.toNat) (k := (least).toNat) (by omega) (by omega)
        have u6 : 1 ≤ r6 → least < σ 2 0 := fun h => by have z := hI.1.1.hk (p := a.toNat) (k := (least).toNat) (by omega) (by omega) (by omega); omega
        refine And.intro (fun c7 => ?_) (fun c7 => ?_)
        · have hle1 : 1 ≤ hd (σ 2) a.toNat least.toNat := by have := hI.1.1.hand (p := a.toNat) (k := least.toNat) (by omega) (by omega); omega
          have hlek := hI.1.1.hk (p := a.toNat) (k := least.toNat) (by omega) (by omega) hle1
          have lp_125 : ∀ (u8_4 : xV) (u8_5 : xV), (True) → X 125 [xvr 0, xvi a, xvi rule, xvi least, u8_4, u8_5, xvu] σ := by
            intro u8_4 u8_5 hv_125
            refine hX 400 125 _ _ ?_
            refine And.intro (fun c9 => ?_) (fun c9 => ?_)
            · intro z10 t10 e10 l10 h10
              try have w10 : t10 = 0 := by omega
              refine And.intro (rfl) (And.intro (⟨by omega, by omega⟩) ?_)
              intro v11 e11 l11 h11
              have e11 : v11 = σ 2 z10.toNat := e11
              have rv11 : 0 ≤ σ 2 z10.toNat ∧ σ 2 z10.toNat ≤ 13 := hI.1.drewI (z := z10) (by omega) (by omega)
              intro z12 t12 e12 l12 h12
              try have w12 : t12 = 0 := by omega
              refine And.intro (Nat.le_of_ble_eq_true rfl) ?_
              show xw _ _ _ _ _ _ _ _ _ _ [xvr 0, xvi a, xvi rule, xvi least, xvi z12, u8_5, xvu] _ _
              refine s_nextX (σ := σ) (a := a) hI.1 (by omega) (fun r13 p13 => ?_)
              intro z14 t14 e14 l14 h14
              try have w14 : t14 = 0 := by omega
              refine And.intro (fun c15 => ?_) (fun c15 => ?_)
              · 
                intro z16 t16 e16 l16 h16
                try have w16 : t16 = 0 := by omega
                refine And.intro rfl ?_
                have hfin := bent_ok (σ := σ) (a := a) (q := r13) (kd := least) (r := z16) (by omega) (by omega) (by omega) (by omega) (by omega) (by omega) (by exact hd_at (by omega) (by omega) (by omega))
                exact hQ _ (Or.inr hfin)
              · refine And.intro (fun c17 => ?_) (fun c17 => ?_)
                · 
                  intro z18 t18 e18 l18 h18
                  try have w18 : t18 = 0 := by omega
                  refine And.intro rfl ?_
                  have hfin := bent_ok (σ := σ) (a := a) (q := r13) (kd := least) (r := z18) (by omega) (by omega) (by omega) (by omega) (by omega) (by omega) (by exact hd_at (by omega) (by omega) (by omega))
                  exact hQ _ (Or.inr hfin)
                · refine s_hand0 (σ := σ) (k := a) (kind := z12) hI.1 (by omega) (by omega) (fun r19 p19 => ?_)
                  have w19 : r19 = hd (σ 2) a.toNat (z12).toNat := by
                    have z : r19 = σ 2 (60 + 13 * a + z12).toNat := p19.1
                    rw [z]; exact hdI (σ 2) (k := a) (kind := z12) (by omega) (by omega)
                  have b19 := hI.1.1.hand (p := a.toNat) (k := (z12).toNat) (by omega) (by omega)
                  have u19 : 1 ≤ r19 → z12 < σ 2 0 := fun h => by have z := hI.1.1.hk (p := a.toNat) (k := (z12).toNat) (by omega) (by omega) (by omega); omega
                  refine And.intro (fun c20 => ?_) (fun c20 => ?_)
                  · 
                    intro z21 t21 e21 l21 h21
                    try have w21 : t21 = 0 := by omega
                    refine And.intro rfl ?_
                    have hfin := bent_ok (σ := σ) (a := a) (q := r13) (kd := least) (r := z21) (by omega) (by omega) (by omega) (by omega) (by omega) (by omega) (by exact hd_at (by omega) (by omega) (by omega))
                    exact hQ _ (Or.inr hfin)
                  · 
                    intro z22 t22 e22 l22 h22
                    try have w22 : t22 = 0 := by omega
                    refine And.intro rfl ?_
                    have hfin := bent_ok (σ := σ) (a := a) (q := r13) (kd := z12) (r := z22) (by omega) (by omega) (by omega) (by omega) (by omega) (by omega) (by exact hd_at (by omega) (by omega) (by omega))
                    exact hQ _ (Or.inr hfin)
            · refine And.intro (Nat.le_of_ble_eq_true rfl) ?_
              show xw _ _ _ _ _ _ _ _ _ _ [xvr 0, xvi a, xvi rule, xvi least, xvi (-1), u8_5, xvu] _ _
              refine And.intro (Nat.le_of_ble_eq_true rfl) ?_
              show xw _ _ _ _ _ _ _ _ _ _ [xvr 0, xvi a, xvi rule, xvi least, xvi (-1), xvi 0, xvu] _ _
              have lp_136 : ∀ (m136 : Nat) (who : Int) (q2 : Int), ((6 - q2).toNat) = m136 → (-1 ≤ who ∧ who < σ 2 1 ∧ ¬ who = a ∧ 0 ≤ q2 ∧ (who = -1 → q2 = 0 ∨ (q2 = 1 ∧ a = 0))) → X 136 [xvr 0, xvi a, xvi rule, xvi least, xvi who, xvi q2, xvu] σ := by
                intro m136
                induction m136 using Nat.strongRecOn with
                | _ m136 ih_136 =>
                intro who q2 hm_136 hv_136
                refine hX 400 136 _ _ ?_
                refine And.intro (rfl) (And.intro (⟨by omega, by omega⟩) ?_)
                intro v24 e24 l24 h24
                have e24 : v24 = σ 2 1 := e24
                have rv24 : 0 ≤ (σ 2 1) ∧ (σ 2 1) ≤ 6 := hI.1.persons
                refine And.intro (fun c25 => ?_) (fun c25 => ?_)
                · refine And.intro (Nat.le_of_ble_eq_true rfl) ?_
                  show xw _ _ _ _ _ _ _ _ _ _ [xvr 0, xvi a, xvi rule, xvi least, xvi who, xvi least, xvu] _ _
                  refine And.intro (Nat.le_of_ble_eq_true rfl) ?_
                  show xw _ _ _ _ _ _ _ _ _ _ [xvr 0, xvi a, xvi rule, xvi least, xvi who, xvi least, xvi least] _ _
                  have lp_189 : ∀ (m189 : Nat) (most : Int) (kd2 : Int), ((13 - kd2).toNat) = m189 → ((0 ≤ kd2 ∧ 0 ≤ most ∧ most ≤ 12 ∧ most < σ 2 0) ∧ 1 ≤ hd (σ 2) a.toNat most.toNat) → X 189 [xvr 0, xvi a, xvi rule, xvi least, xvi who, xvi most, xvi kd2] σ := by
                    intro m189
                    induction m189 using Nat.strongRecOn with
                    | _ m189 ih_189 =>
                    intro most kd2 hm_189 hv_189
                    refine hX 400 189 _ _ ?_
                    refine And.intro (fun c27 => ?_) (fun c27 => ?_)
                    · intro z28 t28 e28 l28 h28
                      try have w28 : t28 = 0 := by omega
                      intro z29 t29 e29 l29 h29
                      try have w29 : t29 = 0 := by omega
                      refine And.intro rfl ?_
                      have hfin := bent_ok (σ := σ) (a := a) (q := who) (kd := most) (r := z29) (by omega) (by omega) (by omega) (by omega) (by omega) (by omega) (by exact hd_at (by omega) (by omega) (by omega))
                      exact hQ _ (Or.inr hfin)
                    · have lp_219 : ∀ (most3 : Int), ((0 ≤ most3 ∧ most3 ≤ 12 ∧ most3 < σ 2 0) ∧ 1 ≤ hd (σ 2) a.toNat most3.toNat) → X 219 [xvr 0, xvi a, xvi rule, xvi least, xvi who, xvi most3, xvi kd2] σ := by
                        intro most3 hv_219
                        refine hX 400 219 _ _ ?_
                        intro z31 t31 e31 l31 h31
                        try have w31 : t31 = 0 := by omega
                        show xw _ _ _ _ _ _ _ _ _ _ [xvr 0, xvi a, xvi rule, xvi least, xvi who, xvi most3, xvi z31] _ _
                        exact ih_189 _ (show (13 - z31).toNat < m189 from by omega) most3 z31 rfl ⟨by omega, (by omega)⟩
                      refine s_hand0 (σ := σ) (k := a) (kind := kd2) hI.1 (by omega) (by omega) (fun r32 p32 => ?_)
                      have w32 : r32 = hd (σ 2) a.toNat (kd2).toNat := by
                        have z : r32 = σ 2 (60 + 13 * a + kd2).toNat := p32.1
                        rw [z]; exact hdI (σ 2) (k := a) (kind := kd2) (by omega) (by omega)
                      have b32 := hI.1.1.hand (p := a.toNat) (k := (kd2).toNat) (by omega) (by omega)
                      have u32 : 1 ≤ r32 → kd2 < σ 2 0 := fun h => by have z := hI.1.1.hk (p := a.toNat) (k := (kd2).toNat) (by omega) (by omega) (by omega); omega
                      refine s_hand0 (σ := σ) (k := a) (kind := most) hI.1 (by omega) (by omega) (fun r33 p33 => ?_)
                      have w33 : r33 = hd (σ 2) a.toNat (most).toNat := by
                        have z : r33 = σ 2 (60 + 13 * a + most).toNat := p33.1
                        rw [z]; exact hdI (σ 2) (k := a) (kind := most) (by omega) (by omega)
                      have b33 := hI.1.1.hand (p := a.toNat) (k := (most).toNat) (by omega) (by omega)
                      have u33 : 1 ≤ r33 → most < σ 2 0 := fun h => by have z := hI.1.1.hk (p := a.toNat) (k := (most).toNat) (by omega) (by omega) (by omega); omega
                      refine And.intro (fun c34 => ?_) (fun c34 => ?_)
                      · exact lp_219 most ⟨by omega, by omega⟩
                      · refine And.intro (Nat.le_of_ble_eq_true rfl) ?_
                        show xw _ _ _ _ _ _ _ _ _ _ [xvr 0, xvi a, xvi rule, xvi least, xvi who, xvi kd2, xvi kd2] _ _
                        exact lp_219 kd2 ⟨by omega, by omega⟩
                  exact lp_189 _ least least rfl ⟨by omega, hle1⟩
                · have lp_177 : ∀ (who3 : Int), (-1 ≤ who3 ∧ who3 < σ 2 1 ∧ ¬ who3 = a ∧ (who3 = -1 → q2 = a ∧ q2 = 0)) → X 177 [xvr 0, xvi a, xvi rule, xvi least, xvi who3, xvi q2, xvu] σ := by
                    intro who3 hv_177
                    refine hX 400 177 _ _ ?_
                    intro z36 t36 e36 l36 h36
                    try have w36 : t36 = 0 := by omega
                    show xw _ _ _ _ _ _ _ _ _ _ [xvr 0, xvi a, xvi rule, xvi least, xvi who3, xvi z36, xvu] _ _
                    exact ih_136 _ (show (6 - z36).toNat < m136 from by omega) who3 z36 rfl (show -1 ≤ who3 ∧ who3 < σ 2 1 ∧ ¬ who3 = a ∧ 0 ≤ z36 ∧ (who3 = -1 → z36 = 0 ∨ (z36 = 1 ∧ a = 0)) from by first | trivial | omega | (refine ⟨by assumption, ?_⟩; omega) | (refine ⟨?_, ?_⟩ <;> omega))
                  refine And.intro (fun c37 => ?_) (fun c37 => ?_)
                  · exact lp_177 who (show -1 ≤ who ∧ who < σ 2 1 ∧ ¬ who = a ∧ (who = -1 → q2 = a ∧ q2 = 0) from by first | trivial | omega | (refine ⟨by assumption, ?_⟩; omega) | (refine ⟨?_, ?_⟩ <;> omega))
                  · have lp_173 : ∀ (_ : Unit), (¬ q2 = a) → X 173 [xvr 0, xvi a, xvi rule, xvi least, xvi who, xvi q2, xvu] σ := by
                      intro _ hv_173
                      refine hX 400 173 _ _ ?_
                      refine And.intro (Nat.le_of_ble_eq_true rfl) ?_
                      show xw _ _ _ _ _ _ _ _ _ _ [xvr 0, xvi a, xvi rule, xvi least, xvi q2, xvi q2, xvu] _ _
                      exact lp_177 q2 (show -1 ≤ q2 ∧ q2 < σ 2 1 ∧ ¬ q2 = a ∧ (q2 = -1 → q2 = a ∧ q2 = 0) from by first | trivial | omega | (refine ⟨by assumption, ?_⟩; omega) | (refine ⟨?_, ?_⟩ <;> omega))
                    refine And.intro (fun c39 => ?_) (fun c39 => ?_)
                    · exact lp_173 () (show ¬ q2 = a from by first | trivial | omega | (refine ⟨by assumption, ?_⟩; omega) | (refine ⟨?_, ?_⟩ <;> omega))
                    · refine s_cards (σ := σ) (k := q2) (VG_iff.mp hI.1.1).1 (by omega) (fun r40 p40 => ?_)
                      refine s_cards (σ := σ) (k := who) (VG_iff.mp hI.1.1).1 (by omega) (fun r41 p41 => ?_)
                      refine And.intro (fun c42 => ?_) (fun c42 => ?_)
                      · exact lp_177 who (show -1 ≤ who ∧ who < σ 2 1 ∧ ¬ who = a ∧ (who = -1 → q2 = a ∧ q2 = 0) from by first | trivial | omega | (refine ⟨by assumption, ?_⟩; omega) | (refine ⟨?_, ?_⟩ <;> omega))
                      · exact lp_173 () (show ¬ q2 = a from by first | trivial | omega | (refine ⟨by assumption, ?_⟩; omega) | (refine ⟨?_, ?_⟩ <;> omega))
              exact lp_136 _ (-1) 0 rfl (show -1 ≤ (-1) ∧ (-1) < σ 2 1 ∧ ¬ (-1) = a ∧ 0 ≤ 0 ∧ ((-1) = -1 → 0 = 0 ∨ (0 = 1 ∧ a = 0)) from by first | trivial | omega | (refine ⟨by assumption, ?_⟩; omega) | (refine ⟨?_, ?_⟩ <;> omega))
          refine And.intro (fun c43 => ?_) (fun c43 => ?_)
          · exact lp_125 (xvu) (xvu) (show True from by first | trivial | omega | (refine ⟨by assumption, ?_⟩; omega) | (refine ⟨?_, ?_⟩ <;> omega))
          · refine And.intro (Nat.le_of_ble_eq_true rfl) ?_
            show xw _ _ _ _ _ _ _ _ _ _ [xvr 0, xvi a, xvi rule, xvi least, xvi 0, xvu, xvu] _ _
            have lp_46 : ∀ (m46 : Nat) (q1 : Int) (u44_5 : xV), ((6 - q1).toNat) = m46 → (0 ≤ q1) → X 46 [xvr 0, xvi a, xvi rule, xvi least, xvi q1, u44_5, xvu] σ := by
              intro m46
              induction m46 using Nat.strongRecOn with
              | _ m46 ih_46 =>
              intro q1 u44_5 hm_46 hv_46
              refine hX 400 46 _ _ ?_
              refine And.intro (rfl) (And.intro (⟨by omega, by omega⟩) ?_)
              intro v45 e45 l45 h45
              have e45 : v45 = σ 2 1 := e45
              have rv45 : 0 ≤ (σ 2 1) ∧ (σ 2 1) ≤ 6 := hI.1.persons
              refine And.intro (fun c46 => ?_) (fun c46 => ?_)
              · exact lp_125 (xvi q1) (u44_5) (show True from by first | trivial | omega | (refine ⟨by assumption, ?_⟩; omega) | (refine ⟨?_, ?_⟩ <;> omega))
              · refine And.intro (Nat.le_of_ble_eq_true rfl) ?_
                show xw _ _ _ _ _ _ _ _ _ _ [xvr 0, xvi a, xvi rule, xvi least, xvi q1, xvi 0, xvu] _ _
                have lp_60 : ∀ (m60 : Nat) (kd1 : Int), ((13 - kd1).toNat) = m60 → (0 ≤ kd1 ∧ kd1 ≤ 13) → X 60 [xvr 0, xvi a, xvi rule, xvi least, xvi q1, xvi kd1, xvu] σ := by
                  intro m60
                  induction m60 using Nat.strongRecOn with
                  | _ m60 ih_60 =>
                  intro kd1 hm_60 hv_60
                  refine hX 400 60 _ _ ?_
                  refine And.intro (fun c48 => ?_) (fun c48 => ?_)
                  · intro z49 t49 e49 l49 h49
                    try have w49 : t49 = 0 := by omega
                    show xw _ _ _ _ _ _ _ _ _ _ [xvr 0, xvi a, xvi rule, xvi least, xvi z49, xvi kd1, xvu] _ _
                    exact ih_46 _ (show (6 - z49).toNat < m46 from by omega) z49 (xvi kd1) rfl (show 0 ≤ z49 from by first | trivial | omega | (refine ⟨by assumption, ?_⟩; omega) | (refine ⟨?_, ?_⟩ <;> omega))
                  · have lp_113 : ∀ (_ : Unit), (True) → X 113 [xvr 0, xvi a, xvi rule, xvi least, xvi q1, xvi kd1, xvu] σ := by
                      intro _ hv_113
                      refine hX 400 113 _ _ ?_
                      intro z51 t51 e51 l51 h51
                      try have w51 : t51 = 0 := by omega
                      show xw _ _ _ _ _ _ _ _ _ _ [xvr 0, xvi a, xvi rule, xvi least, xvi q1, xvi z51, xvu] _ _
                      exact ih_60 _ (show (13 - z51).toNat < m60 from by omega) z51 rfl (show 0 ≤ z51 ∧ z51 ≤ 13 from by first | trivial | omega | (refine ⟨by assumption, ?_⟩; omega) | (refine ⟨?_, ?_⟩ <;> omega))
                    refine And.intro (fun c52 => ?_) (fun c52 => ?_)
                    · exact lp_113 () (show True from by first | trivial | omega | (refine ⟨by assumption, ?_⟩; omega) | (refine ⟨?_, ?_⟩ <;> omega))
                    · intro z53 t53 e53 l53 h53
                      try have w53 : t53 = 0 := by omega
                      intro z54 t54 e54 l54 h54
                      try have w54 : t54 = 0 := by omega
                      intro z55 t55 e55 l55 h55
                      try have w55 : t55 = 0 := by omega
                      refine And.intro (rfl) (And.intro (⟨by omega, by omega⟩) ?_)
                      intro v56 e56 l56 h56
                      have e56 : v56 = σ 2 z55.toNat := e56
                      have rv56 : 0 ≤ σ 2 z55.toNat ∧ σ 2 z55.toNat ≤ 4 := hI.1.knI (z := z55) (by omega) (by omega)
                      refine And.intro (fun c57 => ?_) (fun c57 => ?_)
                      · exact lp_113 () (show True from by first | trivial | omega | (refine ⟨by assumption, ?_⟩; omega) | (refine ⟨?_, ?_⟩ <;> omega))
                      · refine s_hand0 (σ := σ) (k := a) (kind := kd1) hI.1 (by omega) (by omega) (fun r58 p58 => ?_)
                        have w58 : r58 = hd (σ 2) a.toNat (kd1).toNat := by
                          have z : r58 = σ 2 (60 + 13 * a + kd1).toNat := p58.1
                          rw [z]; exact hdI (σ 2) (k := a) (kind := kd1) (by omega) (by omega)
                        have b58 := hI.1.1.hand (p := a.toNat) (k := (kd1).toNat) (by omega) (by omega)
                        have u58 : 1 ≤ r58 → kd1 < σ 2 0 := fun h => by have z := hI.1.1.hk (p := a.toNat) (k := (kd1).toNat) (by omega) (by omega) (by omega); omega
                        refine And.intro (fun c59 => ?_) (fun c59 => ?_)
                        · exact lp_113 () (show True from by first | trivial | omega | (refine ⟨by assumption, ?_⟩; omega) | (refine ⟨?_, ?_⟩ <;> omega))
                        · intro z60 t60 e60 l60 h60
                          try have w60 : t60 = 0 := by omega
                          intro z61 t61 e61 l61 h61
                          try have w61 : t61 = 0 := by omega
                          refine And.intro rfl ?_
                          have hfin := bent_ok (σ := σ) (a := a) (q := q1) (kd := kd1) (r := z61) (by omega) (by omega) (by omega) (by omega) (by omega) (by omega) (by exact hd_at (by omega) (by omega) (by omega))
                          exact hQ _ (Or.inr hfin)
                exact lp_60 _ 0 rfl (show 0 ≤ 0 ∧ 0 ≤ 13 from by first | trivial | omega | (refine ⟨by assumption, ?_⟩; omega) | (refine ⟨?_, ?_⟩ <;> omega))
            exact lp_46 _ 0 (xvu) rfl (show 0 ≤ 0 from by first | trivial | omega | (refine ⟨by assumption, ?_⟩; omega) | (refine ⟨?_, ?_⟩ <;> omega))
        · intro z62 t62 e62 l62 h62
          try have w62 : t62 = 0 := by omega
          show xw _ _ _ _ _ _ _ _ _ _ [xvr 0, xvi a, xvi rule, xvi z62, xvu, xvu, xvu] _ _
          exact ih_22 _ (show (13 - z62).toNat < m22 from by omega) z62 rfl ⟨by omega, (fun j hj => by
                    by_cases e : j = least.toNat
                    · rw [e]; omega
                    · exact hl0 j (by omega))⟩
      exact lp_22 _ 0 rfl ⟨by omega, fun j hj => by omega⟩
    · refine hX 400 18 _ _ ?_
      refine And.intro rfl ?_
      exact hQ _ (Or.inl ⟨by omega, by omega⟩)
