theorem HH_v {f : Nat → Int} (hV : V0 f) {p k : Nat} (hp : p < 6) (hk : k < 13) : (0 ≤ HH f p k ∧ HH f p k ≤ 4) ∧ (f 0 ≤ k → HH f p k = 0) := ⟨hV.hand hp hk, fun h => (hV.2.2.1 p k hp hk).2.2 (Or.inr h)⟩
def RCI (f : Nat → Int) (p : Nat) (b q : Int) : Prop := (b = -1 ∧ ∀ j : Nat, (j : Int) < q → j = p) ∨ ((0 ≤ b ∧ b < q ∧ ¬ b = p) ∧ (∀ j : Nat, (j : Int) < q → j ≠ p → cd f j ≤ cd f b.toNat) ∧ ∀ j : Nat, (j : Int) < b → j ≠ p → cd f j < cd f b.toNat)
theorem RCI.same {f : Nat → Int} {p : Nat} {b q q' : Int} (h : RCI f p b q) (hq : q' = q + 1) (h0 : 0 ≤ q) (hs : q = p ∨ (¬ b = -1 ∧ ¬ cd f b.toNat < cd f q.toNat)) : RCI f p b q' := by
  subst hq
  rcases h with ⟨a, c⟩ | ⟨a, c, d⟩
  · refine Or.inl ⟨a, fun j hj => ?_⟩
    by_cases e : (j : Int) = q
    · omega
    · exact c j (by omega)
  · refine Or.inr ⟨by omega, fun j hj hp => ?_, d⟩
    by_cases e : (j : Int) = q
    · rw [show j = q.toNat from by omega]; omega
    · exact c j (by omega) hp
theorem RCI.new {f : Nat → Int} {p : Nat} {b q q' : Int} (h : RCI f p b q) (hq : q' = q + 1) (h0 : 0 ≤ q) (hp : ¬ q = p) (hs : b = -1 ∨ cd f b.toNat < cd f q.toNat) : RCI f p q q' := by
  subst hq
  refine Or.inr ⟨⟨h0, by omega, hp⟩, fun j hj hjp => ?_, fun j hj hjp => ?_⟩
  · by_cases e : (j : Int) = q
    · rw [show j = q.toNat from by omega]; omega
    · rcases h with ⟨a, c⟩ | ⟨a, c, d⟩
      · exact absurd (c j (by omega)) hjp
      · have := c j (by omega) hjp; omega
  · rcases h with ⟨a, c⟩ | ⟨a, c, d⟩
    · exact absurd (c j (by omega)) hjp
    · have := c j (by omega) hjp; omega
set_option maxHeartbeats 4000000 in
set_option maxRecDepth 100000 in
theorem sX2_leastKindG {f : Nat → Int} {σ : xS} {p : Int} {Q : Option xV → xS → Prop} (hp0 : GR σ f) (hp1 : VX f) (hp2 : 0 ≤ p ∧ p ≤ 5) (hp3 : 0 < cd f p.toNat) (hQ : ∀ r : Int, (LKd f p.toNat r) → Q (some (xvi r)) σ) : xT kX2_leastKind [xvr 0, xvi p] σ Q := by
  refine ⟨Nat.le_of_ble_eq_true rfl, fun X hX => ?_⟩
  show X 0 [xvr 0, xvi p, xvu] σ
  refine hX 400 0 _ _ ?_
  have n0 := hp0.n0 (i := 0) (by decide)
  have n1 := hp0.n0 (i := 1) (by decide)
  have m0 := hp1.1.1.1
  have m1 := hp1.1.1.2.1
  refine And.intro (Nat.le_of_ble_eq_true rfl) ?_
  show xw _ _ _ _ _ _ _ _ _ _ [xvr 0, xvi p, xvi 0] _ _
  have lp_2 : ∀ (m2 : Nat) (i : Int), ((13 - i).toNat) = m2 → ((0 ≤ i ∧ i ≤ 13) ∧ ∀ j : Nat, (j : Int) < i → HH f p.toNat j = 0) → X 2 [xvr 0, xvi p, xvi i] σ := by
    intro m2
    induction m2 using Nat.strongRecOn with
    | _ m2 ih_2 =>
    intro i hm_2 hv_2
    obtain ⟨hv_2, hz⟩ := hv_2
    refine hX 400 2 _ _ ?_
    intro v2 e2 l2 h2
    have e2 : v2 = σ 0 0 := e2
    refine And.intro (fun c3 => ?_) (fun c3 => ?_)
    · refine And.intro rfl ?_
      exfalso
      have c0 := cd_z (f := f) (p := p.toNat) (fun j hj => by
        by_cases e : (j : Int) < i
        · exact hz j e
        · exact (HH_v hp1.1 (p := p.toNat) (k := j) (by omega) hj).2 (by omega))
      omega
    · refine sX2_held (σ := σ) (p := p) (kind := i) (by omega) (by omega) (fun r4 p4 => ?_)
      have p4 : r4 = HH f p.toNat i.toNat := p4.trans (hp0.vh hp2 (by omega))
      have hv4 := HH_v hp1.1 (p := p.toNat) (k := i.toNat) (by omega) (by omega)
      refine And.intro (fun c5 => ?_) (fun c5 => ?_)
      · intro z6 t6 e6 l6 h6
        try have w6 : t6 = 0 := by omega
        show xw _ _ _ _ _ _ _ _ _ _ [xvr 0, xvi p, xvi z6] _ _
        exact ih_2 _ (show (13 - z6).toNat < m2 from by omega) z6 rfl ⟨by omega, fun j hj => by
                  by_cases e : (j : Int) = i
                  · rw [show j = i.toNat from by omega]; omega
                  · exact hz j (by omega)⟩
      · refine And.intro rfl ?_
        exact hQ _ ⟨by omega, by omega, hz⟩
  exact lp_2 _ 0 rfl ⟨by omega, fun j hj => by omega⟩
set_option maxHeartbeats 4000000 in
set_option maxRecDepth 100000 in
theorem sX2_nextWithCardG {f : Nat → Int} {σ : xS} {p : Int} {Q : Option xV → xS → Prop} (hp0 : GR σ f) (hp1 : VX f) (hp2 : 0 ≤ p ∧ p ≤ 5) (hp3 : p < f 1) (hQ : ∀ r : Int, (r = nwF f p) → Q (some (xvi r)) σ) : xT kX2_nextWithCard [xvr 0, xvi p] σ Q := by
  refine ⟨Nat.le_of_ble_eq_true rfl, fun X hX => ?_⟩
  show X 0 [xvr 0, xvi p, xvu, xvu] σ
  refine hX 400 0 _ _ ?_
  have n0 := hp0.n0 (i := 0) (by decide)
  have n1 := hp0.n0 (i := 1) (by decide)
  have m0 := hp1.1.1.1
  have m1 := hp1.1.1.2.1
  refine sX2_afterG (σ := σ) (p := p) (by omega) (by omega) (fun r1 p1 => ?_)
  rw [n1] at p1
  refine And.intro (Nat.le_of_ble_eq_true rfl) ?_
  show xw _ _ _ _ _ _ _ _ _ _ [xvr 0, xvi p, xvi r1, xvu] _ _
  refine And.intro (Nat.le_of_ble_eq_true rfl) ?_
  show xw _ _ _ _ _ _ _ _ _ _ [xvr 0, xvi p, xvi r1, xvi 1] _ _
  have lp_8 : ∀ (m8 : Nat) (q : Int) (i : Int), ((6 - i).toNat) = m8 → ((1 ≤ i ∧ i ≤ f 1) ∧ (0 ≤ q ∧ q < f 1) ∧ nwN f p q (f 1 - i).toNat = nwF f p) → X 8 [xvr 0, xvi p, xvi q, xvi i] σ := by
    intro m8
    induction m8 using Nat.strongRecOn with
    | _ m8 ih_8 =>
    intro q i hm_8 hv_8
    obtain ⟨hv_8, hq, hN⟩ := hv_8
    refine hX 400 8 _ _ ?_
    intro v3 e3 l3 h3
    have e3 : v3 = σ 0 1 := e3
    refine And.intro (fun c4 => ?_) (fun c4 => ?_)
    · refine sX2_afterG (σ := σ) (p := p) (by omega) (by omega) (fun r5 p5 => ?_)
      rw [n1] at p5
      refine And.intro rfl ?_
      exact hQ _ (by rw [← hN, show (f 1 - i).toNat = 0 from by omega, p5]; rfl)
    · refine And.intro (rfl) (And.intro (⟨by omega, by omega⟩) ?_)
      intro v6 e6 l6 h6
      have e6 : v6 = σ 3 q.toNat := e6
      have g6 : v6 = cd f q.toNat := by rw [e6]; exact hp0.vc (by omega)
      refine And.intro (fun c7 => ?_) (fun c7 => ?_)
      · refine sX2_afterG (σ := σ) (p := q) (by omega) (by omega) (fun r8 p8 => ?_)
        rw [n1] at p8
        refine And.intro (Nat.le_of_ble_eq_true rfl) ?_
        show xw _ _ _ _ _ _ _ _ _ _ [xvr 0, xvi p, xvi r8, xvi i] _ _
        intro z9 t9 e9 l9 h9
        try have w9 : t9 = 0 := by omega
        show xw _ _ _ _ _ _ _ _ _ _ [xvr 0, xvi p, xvi r8, xvi z9] _ _
        exact ih_8 _ (show (6 - z9).toNat < m8 from by omega) r8 z9 rfl ⟨by omega, (by rw [p8]; exact aft_r (by omega) (by omega)), (by rw [← hN, show (f 1 - i).toNat = (f 1 - z9).toNat + 1 from by omega, nwN_s, if_neg (by omega), p8])⟩
      · refine And.intro rfl ?_
        exact hQ _ (by rw [← hN, show (f 1 - i).toNat = (f 1 - (i + 1)).toNat + 1 from by omega, nwN_s, if_pos (by omega)])
  exact lp_8 _ r1 1 rfl ⟨by omega, (by rw [p1]; exact aft_r (by omega) (by omega)), (by rw [p1]; rfl)⟩
set_option maxHeartbeats 4000000 in
set_option maxRecDepth 100000 in
theorem sX2_firstSureG {f : Nat → Int} {σ : xS} {p : Int} {Q : Option xV → xS → Prop} (hp0 : GR σ f) (hp1 : VX f) (hp2 : 0 ≤ p ∧ p ≤ 5) (hQ : ∀ r : Int, (FSX f p.toNat r) → Q (some (xvi r)) σ) : xT kX2_firstSure [xvr 0, xvi p] σ Q := by
  refine ⟨Nat.le_of_ble_eq_true rfl, fun X hX => ?_⟩
  show X 0 [xvr 0, xvi p, xvu, xvu] σ
  refine hX 400 0 _ _ ?_
  have n0 := hp0.n0 (i := 0) (by decide)
  have n1 := hp0.n0 (i := 1) (by decide)
  have m0 := hp1.1.1.1
  have m1 := hp1.1.1.2.1
  refine And.intro (Nat.le_of_ble_eq_true rfl) ?_
  show xw _ _ _ _ _ _ _ _ _ _ [xvr 0, xvi p, xvi 0, xvu] _ _
  have lp_2 : ∀ (m2 : Nat) (q : Int) (u1_3 : xV), ((6 - q).toNat) = m2 → ((0 ≤ q ∧ q ≤ 6) ∧ ∀ j kk : Nat, (j : Int) < q → j ≠ p.toNat → kk < 13 → ¬ SUR f p.toNat j kk) → X 2 [xvr 0, xvi p, xvi q, u1_3] σ := by
    intro m2
    induction m2 using Nat.strongRecOn with
    | _ m2 ih_2 =>
    intro q u1_3 hm_2 hv_2
    obtain ⟨hv_2, hns⟩ := hv_2
    refine hX 400 2 _ _ ?_
    intro v2 e2 l2 h2
    have e2 : v2 = σ 0 1 := e2
    refine And.intro (fun c3 => ?_) (fun c3 => ?_)
    · refine And.intro rfl ?_
      exact hQ _ (Or.inl ⟨rfl, fun j kk hj => hns j kk (by omega)⟩)
    · refine And.intro (Nat.le_of_ble_eq_true rfl) ?_
      show xw _ _ _ _ _ _ _ _ _ _ [xvr 0, xvi p, xvi q, xvi 0] _ _
      have lp_12 : ∀ (m12 : Nat) (k : Int), ((13 - k).toNat) = m12 → ((0 ≤ k ∧ k ≤ 13) ∧ ∀ kk : Nat, (kk : Int) < k → q.toNat ≠ p.toNat → ¬ SUR f p.toNat q.toNat kk) → X 12 [xvr 0, xvi p, xvi q, xvi k] σ := by
        intro m12
        induction m12 using Nat.strongRecOn with
        | _ m12 ih_12 =>
        intro k hm_12 hv_12
        obtain ⟨hv_12, hk2⟩ := hv_12
        refine hX 400 12 _ _ ?_
        intro v5 e5 l5 h5
        have e5 : v5 = σ 0 0 := e5
        refine And.intro (fun c6 => ?_) (fun c6 => ?_)
        · refine hX 400 59 _ _ ?_
          intro z7 t7 e7 l7 h7
          try have w7 : t7 = 0 := by omega
          show xw _ _ _ _ _ _ _ _ _ _ [xvr 0, xvi p, xvi z7, xvi k] _ _
          exact ih_2 _ (show (6 - z7).toNat < m2 from by omega) z7 (xvi k) rfl ⟨by omega, fun j kk hj hne hk hs => by
                    by_cases e : (j : Int) = q
                    · by_cases e2 : (kk : Int) < k
                      · exact hk2 kk e2 (by omega) (by rw [← show j = q.toNat from by omega]; exact hs)
                      · have z := (HH_v hp1.1 (p := p.toNat) (k := kk) (by omega) hk).2
                        have s2 := hs.2
                        omega
                    · exact hns j kk (by omega) hne hk hs⟩
        · refine And.intro (fun c8 => ?_) (fun c8 => ?_)
          · refine hX 400 59 _ _ ?_
            intro z9 t9 e9 l9 h9
            try have w9 : t9 = 0 := by omega
            show xw _ _ _ _ _ _ _ _ _ _ [xvr 0, xvi p, xvi z9, xvi k] _ _
            exact ih_2 _ (show (6 - z9).toNat < m2 from by omega) z9 (xvi k) rfl ⟨by omega, fun j kk hj hne hk hs => by
                      by_cases e : (j : Int) = q
                      · by_cases e2 : (kk : Int) < k
                        · exact hk2 kk e2 (by omega) (by rw [← show j = q.toNat from by omega]; exact hs)
                        · have z := (HH_v hp1.1 (p := p.toNat) (k := kk) (by omega) hk).2
                          have s2 := hs.2
                          omega
                      · exact hns j kk (by omega) hne hk hs⟩
          · refine sX3_sureOf (σ := σ) (p := q) (kind := k) (by omega) (by omega) (fun r10 p10 => ?_)
            have p10 : r10 = f (151 + 13 * q.toNat + k.toNat) := p10.trans (hp0.vk (by omega) (by omega))
            refine And.intro (fun c11 => ?_) (fun c11 => ?_)
            · refine hX 400 53 _ _ ?_
              intro z12 t12 e12 l12 h12
              try have w12 : t12 = 0 := by omega
              show xw _ _ _ _ _ _ _ _ _ _ [xvr 0, xvi p, xvi q, xvi z12] _ _
              exact ih_12 _ (show (13 - z12).toNat < m12 from by omega) z12 rfl ⟨by omega, fun kk hk hne hs => by
                        by_cases e : (kk : Int) = k
                        · have s1 := hs.1
                          have s2 := hs.2
                          rw [show kk = k.toNat from by omega] at s1 s2
                          omega
                        · exact hk2 kk (by omega) hne hs⟩
            · refine sX2_held (σ := σ) (p := p) (kind := k) (by omega) (by omega) (fun r13 p13 => ?_)
              have p13 : r13 = HH f p.toNat k.toNat := p13.trans (hp0.vh hp2 (by omega))
              have hv13 := HH_v hp1.1 (p := p.toNat) (k := k.toNat) (by omega) (by omega)
              refine And.intro (fun c14 => ?_) (fun c14 => ?_)
              · refine hX 400 53 _ _ ?_
                intro z15 t15 e15 l15 h15
                try have w15 : t15 = 0 := by omega
                show xw _ _ _ _ _ _ _ _ _ _ [xvr 0, xvi p, xvi q, xvi z15] _ _
                exact ih_12 _ (show (13 - z15).toNat < m12 from by omega) z15 rfl ⟨by omega, fun kk hk hne hs => by
                          by_cases e : (kk : Int) = k
                          · have s1 := hs.1
                            have s2 := hs.2
                            rw [show kk = k.toNat from by omega] at s1 s2
                            omega
                          · exact hk2 kk (by omega) hne hs⟩
              · intro z16 t16 e16 l16 h16
                try have w16 : t16 = 0 := by omega
                intro z17 t17 e17 l17 h17
                try have w17 : t17 = 0 := by omega
                refine And.intro rfl ?_
                refine hQ _ (Or.inr ⟨q.toNat, k.toNat, by omega, by omega, by omega, by omega, ⟨by omega, by omega⟩, fun j kk hk hne h => ?_⟩)
                rcases h with h | ⟨h, h2⟩
                · exact hns j kk (by omega) hne hk
                · rw [h]; exact hk2 kk (by omega) (by omega)
      exact lp_12 _ 0 rfl ⟨by omega, fun kk hk => by omega⟩
  exact lp_2 _ 0 (xvu) rfl ⟨by omega, fun j kk hj => by omega⟩
