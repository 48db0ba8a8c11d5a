/-- nothing of the game is touched -/
def SAMEx (σ σ' : xS) : Prop := σ' 2 = σ 2 ∧ σ' 7 = σ 7 ∧ σ' 8 = σ 8 ∧ σ' 0 24 = σ 0 24 ∧ σ' 0 27 = σ 0 27
def DLc2 (f : Nat → Int) (n : Int) : Prop := (1 ≤ n ∧ n ≤ 9) ∧ ¬ f 1 = 0 ∧ ¬ f 0 = 0 ∧ n * f 1 ≤ 4 * f 0
def GMc (f : Nat → Int) (i j n : Int) : Prop := (0 ≤ i ∧ i ≤ 3) ∧ (0 ≤ j ∧ j ≤ 3) ∧ (1 ≤ n ∧ n ≤ 30) ∧ 2 ≤ f 1 ∧ 5 * f 1 ≤ 4 * f 0
theorem whyF_r {f : Nat → Int} {p q : Int} {kind : Nat} : 0 ≤ whyF f p q kind ∧ whyF f p q kind ≤ 4 := by
  unfold whyF
  by_cases a : f 4 = -1
  · rw [if_pos a]; decide
  · rw [if_neg a]
    by_cases b : ¬ f 4 = p
    · rw [if_pos b]; decide
    · rw [if_neg b]
      by_cases c : HH f p.toNat kind = 0
      · rw [if_pos c]; decide
      · rw [if_neg c]
        by_cases d : p = q
        · rw [if_pos d]; decide
        · rw [if_neg d]; decide
theorem whyF_0 {f : Nat → Int} {p q : Int} {kind : Nat} (h : whyF f p q kind = 0) : ¬ f 4 = -1 ∧ f 4 = p ∧ ¬ HH f p.toNat kind = 0 ∧ ¬ p = q := by
  unfold whyF at h
  by_cases a : f 4 = -1
  · rw [if_pos a] at h; omega
  · rw [if_neg a] at h
    by_cases b : ¬ f 4 = p
    · rw [if_pos b] at h; omega
    · rw [if_neg b] at h
      by_cases c : HH f p.toNat kind = 0
      · rw [if_pos c] at h; omega
      · rw [if_neg c] at h
        by_cases d : p = q
        · rw [if_pos d] at h; omega
        · exact ⟨a, by omega, c, d⟩
set_option maxHeartbeats 4000000 in
set_option maxRecDepth 100000 in
theorem s_askF {σ : xS} {a b kind lies : Int} {Q : Option xV → xS → Prop} (hp0 : RI σ) (hp1 : TV (σ 2)) (hQ : ∀ r : Int, ∀ σ' : xS, Fr [2, 7, 8] [0, 24, 27] σ σ' → ((¬ (ASK (σ 2) a b kind ∧ (0 ≤ lies ∧ lies ≤ 1)) ∧ r = -1 ∧ SAMEx σ σ') ∨ ((ASK (σ 2) a b kind ∧ (0 ≤ lies ∧ lies ≤ 1)) ∧ 1 ≤ whyF (σ 2) a b kind.toNat ∧ r = -2 - whyF (σ 2) a b kind.toNat ∧ SAMEx σ σ') ∨ ((ASK (σ 2) a b kind ∧ (0 ≤ lies ∧ lies ≤ 1)) ∧ whyF (σ 2) a b kind.toNat = 0 ∧ KPT (σ 0 27) (σ' 0 27) (σ 8) (σ' 8) (σ 2) ∧ σ' 2 = askF (σ 2) a.toNat b.toNat kind.toNat lies ∧ r = askR (σ 2) a.toNat b.toNat kind.toNat lies 3 ∧ (σ' 0 24 = 1 ∧ ∀ i : Nat, i < 8 → σ' 7 i = askR (σ 2) a.toNat b.toNat kind.toNat lies i))) → Q (some (xvi r)) σ') : xT kX11_ask [xvr 0, xvi a, xvi b, xvi kind, xvi lies] σ Q := by
  refine ⟨Nat.le_of_ble_eq_true rfl, fun X hX => ?_⟩
  show X 0 [xvr 0, xvi a, xvi b, xvi kind, xvi lies, xvu] σ
  have hF : Fr [2, 7, 8] [0, 24, 27] σ σ := Fr.rf
  refine hX 400 0 _ _ ?_
  have hF := hF.p (j := 0) (v := 0) (by decide)
  have hI := (RK.rf hp0 |>.p0 (j := 0) (v := 0) (by decide) (by decide) (by decide)).1
  obtain ⟨hVx, hT2, hT6, hT4⟩ := id hp1
  have m0 := hVx.1.1.1
  have m1 := hVx.1.1.2.1
  have m3 := hVx.1.1.2.2.1
  have h27 := hp0.2.2.2.1
  refine s_areAskedF (σ := (xput σ 0 0 0)) hI (a := a) (b := b) (kind := kind) (fun r2 p2 => ?_)
  have p2 : (r2 = 1 ∧ ASK (σ 2) a b kind) ∨ (r2 = 0 ∧ ¬ ASK (σ 2) a b kind) := p2
  refine And.intro (fun c3 => ?_) (fun c3 => ?_)
  · refine hX 400 25 _ _ ?_
    refine And.intro rfl ?_
    exact hQ _ _ hF (Or.inl ⟨fun z => by
      obtain ⟨z1, z2⟩ := z
      rcases p2 with y | y
      · omega
      · exact y.2 z1, rfl, ⟨rfl, rfl, rfl, rfl, rfl⟩⟩)
  · refine s_isIn (σ := (xput σ 0 0 0)) (v := lies) (low := 0) (high := 1) (fun r4 p4 => ?_)
    refine And.intro (fun c5 => ?_) (fun c5 => ?_)
    · obtain ⟨hA1, hA2, hA3⟩ : ASK (σ 2) a b kind := by
        rcases p2 with z | z
        · exact z.2
        · omega
      refine s_whyOfF (σ := (xput σ 0 0 0)) (a := a) (b := b) (kind := kind) hVx.1 (by omega) (by omega) (fun r6 p6 => ?_)
      have p6 : r6 = whyF (σ 2) a b kind.toNat := p6
      refine And.intro (Nat.le_of_ble_eq_true rfl) ?_
      show xw _ _ _ _ _ _ _ _ _ _ [xvr 0, xvi a, xvi b, xvi kind, xvi lies, xvi r6] _ _
      refine And.intro (fun c7 => ?_) (fun c7 => ?_)
      · have hw0 : whyF (σ 2) a b kind.toNat = 0 := by
          have y := whyF_r (f := σ 2) (p := a) (q := b) (kind := kind.toNat)
          omega
        obtain ⟨w1, w2, w3, w4⟩ := whyF_0 hw0
        refine s_keepF (σ := (xput σ 0 0 0)) h27 (fun σ8 f8 p8 => ?_)
        have k2 : σ8 2 = σ 2 := f8.1 2 (by decide) (by decide)
        have hF := hF.tr f8 (by decide) (by decide)
        have hvh := HH_v hVx.1 (p := a.toNat) (k := kind.toNat) (by omega) (by omega)
        have hh1 : 1 ≤ σ 2 (60 + 13 * a.toNat + kind.toNat) := by
          have e : HH (σ 2) a.toNat kind.toNat = σ 2 (60 + 13 * a.toNat + kind.toNat) := rfl
          omega
        refine s_asksF (σ := σ8) (a := a) (b := b) (kind := kind) (lies := lies) (told := 1) (by rw [k2]; exact hVx) (by rw [k2]; omega) (by omega) w4 (by omega) (by rw [k2]; omega) (by rw [k2]; exact hh1) (by omega) (fun r9 σ9 f9 p9 => ?_)
        rw [k2] at p9
        have k27 : σ9 0 27 = σ8 0 27 := f9.2 27 (by decide)
        have k8 : σ9 8 = σ8 8 := f9.1 8 (by decide) (by decide)
        have hF := hF.tr f9 (by decide) (by decide)
        refine And.intro rfl ?_
        exact hQ _ _ hF (Or.inr (Or.inr ⟨⟨⟨hA1, hA2, hA3⟩, by omega⟩, hw0, (by rw [k27, k8]; exact p8), p9.1, p9.2.1, (by
          rcases p9.2.2 with y | y
          · omega
          · exact y.2)⟩))
      · intro z10 t10 e10 l10 h10
        try have w10 : t10 = 0 := by omega
        refine And.intro rfl ?_
        have hwr := whyF_r (f := σ 2) (p := a) (q := b) (kind := kind.toNat)
        exact hQ _ _ hF (Or.inr (Or.inl ⟨⟨⟨hA1, hA2, hA3⟩, by omega⟩, by omega, by omega, ⟨rfl, rfl, rfl, rfl, rfl⟩⟩))
    · refine hX 400 25 _ _ ?_
      refine And.intro rfl ?_
      exact hQ _ _ hF (Or.inl ⟨fun z => by
        obtain ⟨z1, z2⟩ := z
        rcases p2 with y | y
        · omega
        · exact y.2 z1, rfl, ⟨rfl, rfl, rfl, rfl, rfl⟩⟩)
set_option maxHeartbeats 4000000 in
set_option maxRecDepth 100000 in
theorem s_dealF {σ : xS} {n fr : Int} {Q : Option xV → xS → Prop} (hp0 : RI σ) (hp1 : TV (σ 2)) (hQ : ∀ r : Int, ∀ σ' : xS, Fr [2, 8, 21] [0, 27, 49] σ σ' → ((DLc2 (σ 2) n ∧ r = 1 ∧ KPT (σ 0 27) (σ' 0 27) (σ 8) (σ' 8) (σ 2) ∧ σ' 2 = dealF (σ 2) n fr) ∨ (¬ DLc2 (σ 2) n ∧ r = 0 ∧ SAMEx σ σ')) → Q (some (xvi r)) σ') : xT kX11_deal [xvr 0, xvi n, xvi fr] σ Q := by
  refine ⟨Nat.le_of_ble_eq_true rfl, fun X hX => ?_⟩
  show X 0 [xvr 0, xvi n, xvi fr] σ
  have hF : Fr [2, 8, 21] [0, 27, 49] σ σ := Fr.rf
  refine hX 400 0 _ _ ?_
  have hF := hF.p (j := 0) (v := 0) (by decide)
  have hI := (RK.rf hp0 |>.p0 (j := 0) (v := 0) (by decide) (by decide) (by decide)).1
  obtain ⟨hVx, hT2, hT6, hT4⟩ := id hp1
  have m0 := hVx.1.1.1
  have m1 := hVx.1.1.2.1
  have m3 := hVx.1.1.2.2.1
  have h27 := hp0.2.2.2.1
  refine s_isIn (σ := (xput σ 0 0 0)) (v := n) (low := 1) (high := 9) (fun r2 p2 => ?_)
  refine And.intro (fun c3 => ?_) (fun c3 => ?_)
  · refine hX 400 52 _ _ ?_
    refine And.intro rfl ?_
    refine And.intro (by omega) ?_
    exact hQ _ _ hF (Or.inr ⟨fun z => by obtain ⟨z1, z2, z3, z4⟩ := z; omega, rfl, ⟨rfl, rfl, rfl, rfl, rfl⟩⟩)
  · refine And.intro (rfl) (And.intro (⟨by omega, by omega⟩) ?_)
    intro v4 e4 l4 h4
    have e4 : v4 = σ 2 1 := e4
    refine And.intro (fun c5 => ?_) (fun c5 => ?_)
    · refine hX 400 52 _ _ ?_
      refine And.intro rfl ?_
      refine And.intro (by omega) ?_
      exact hQ _ _ hF (Or.inr ⟨fun z => by obtain ⟨z1, z2, z3, z4⟩ := z; omega, rfl, ⟨rfl, rfl, rfl, rfl, rfl⟩⟩)
    · refine And.intro (rfl) (And.intro (⟨by omega, by omega⟩) ?_)
      intro v6 e6 l6 h6
      have e6 : v6 = σ 2 0 := e6
      refine And.intro (fun c7 => ?_) (fun c7 => ?_)
      · refine hX 400 52 _ _ ?_
        refine And.intro rfl ?_
        refine And.intro (by omega) ?_
        exact hQ _ _ hF (Or.inr ⟨fun z => by obtain ⟨z1, z2, z3, z4⟩ := z; omega, rfl, ⟨rfl, rfl, rfl, rfl, rfl⟩⟩)
      · refine And.intro (rfl) (And.intro (⟨by omega, by omega⟩) ?_)
        intro v8 e8 l8 h8
        have e8 : v8 = σ 2 1 := e8
        have y9 : n * σ 2 1 ≤ 9 * σ 2 1 := Int.mul_le_mul_of_nonneg_right (by omega) (by omega)
        have y0 : 0 ≤ n * σ 2 1 := Int.mul_nonneg (by omega) (by omega)
        have y40 : n * v8 = n * σ 2 1 := by rw [show v8 = σ 2 1 from by omega]
        intro z9 t9 e9 l9 h9
        try have w9 : t9 = 0 := by omega
        have hm1 : z9 = n * σ 2 1 := by omega
        refine And.intro (rfl) (And.intro (⟨by omega, by omega⟩) ?_)
        intro v10 e10 l10 h10
        have e10 : v10 = σ 2 0 := e10
        intro z11 t11 e11 l11 h11
        try have w11 : t11 = 0 := by omega
        refine And.intro (fun c12 => ?_) (fun c12 => ?_)
        · refine s_keepF (σ := (xput σ 0 0 0)) h27 (fun σ13 f13 p13 => ?_)
          have k2 : σ13 2 = σ 2 := f13.1 2 (by decide) (by decide)
          have hF := hF.tr f13 (by decide) (by decide)
          refine s_dealsF (σ := σ13) (n := n) (fr := fr) (by omega) (by rw [k2]; omega) (by rw [k2]; omega) (by rw [k2]; omega) (by omega) (by rw [k2]; omega) (fun σ14 f14 p14 => ?_)
          rw [k2] at p14
          have k27 : σ14 0 27 = σ13 0 27 := f14.2 27 (by decide)
          have k8 : σ14 8 = σ13 8 := f14.1 8 (by decide) (by decide)
          have hF := hF.tr f14 (by decide) (by decide)
          refine And.intro rfl ?_
          refine And.intro (by omega) ?_
          exact hQ _ _ hF (Or.inl ⟨⟨by omega, by omega, by omega, by omega⟩, rfl, (by rw [k27, k8]; exact p13), p14⟩)
        · refine hX 400 52 _ _ ?_
          refine And.intro rfl ?_
          refine And.intro (by omega) ?_
          exact hQ _ _ hF (Or.inr ⟨fun z => by obtain ⟨z1, z2, z3, z4⟩ := z; omega, rfl, ⟨rfl, rfl, rfl, rfl, rfl⟩⟩)
set_option maxHeartbeats 4000000 in
set_option maxRecDepth 100000 in
theorem s_bentF {σ : xS} {k rule : Int} {Q : Option xV → xS → Prop} (hp0 : RI σ) (hp1 : TV (σ 2)) (hQ : ∀ r : Int, ∀ σ' : xS, Fr [] [0] σ σ' → (ansN ((0 ≤ k ∧ k < σ 2 1) ∧ 0 ≤ rule ∧ rule ≤ 3) r (bentF (σ 2) k.toNat rule)) → Q (some (xvi r)) σ') : xT kX11_bent [xvr 0, xvi k, xvi rule] σ Q := by
  refine ⟨Nat.le_of_ble_eq_true rfl, fun X hX => ?_⟩
  show X 0 [xvr 0, xvi k, xvi rule] σ
  have hF : Fr [] [0] σ σ := Fr.rf
  refine hX 400 0 _ _ ?_
  have hF := hF.p (j := 0) (v := 0) (by decide)
  have hI := (RK.rf hp0 |>.p0 (j := 0) (v := 0) (by decide) (by decide) (by decide)).1
  obtain ⟨hVx, hT2, hT6, hT4⟩ := id hp1
  have m0 := hVx.1.1.1
  have m1 := hVx.1.1.2.1
  have m3 := hVx.1.1.2.2.1
  have h27 := hp0.2.2.2.1
  refine s_isPerson (σ := (xput σ 0 0 0)) (k := k) hI (fun r2 p2 => ?_)
  have p2 : (r2 = 1 ∧ 0 ≤ k ∧ k < σ 2 1) ∨ (r2 = 0 ∧ (k < 0 ∨ σ 2 1 ≤ k)) := p2
  refine And.intro (fun c3 => ?_) (fun c3 => ?_)
  · refine hX 400 31 _ _ ?_
    refine And.intro rfl ?_
    exact hQ _ _ hF (Or.inr ⟨fun z => by obtain ⟨z1, z2⟩ := z; omega, rfl⟩)
  · refine s_isIn (σ := (xput σ 0 0 0)) (v := rule) (low := 0) (high := 3) (fun r4 p4 => ?_)
    refine And.intro (fun c5 => ?_) (fun c5 => ?_)
    · refine hX 400 31 _ _ ?_
      refine And.intro rfl ?_
      exact hQ _ _ hF (Or.inr ⟨fun z => by obtain ⟨z1, z2⟩ := z; omega, rfl⟩)
    · refine s_bentOfF (σ := (xput σ 0 0 0)) (a := k) (rule := rule) hVx (by show 0 ≤ k ∧ k < σ 2 1; omega) (fun r6 p6 => ?_)
      have p6 : r6 = bentF (σ 2) k.toNat rule := BNT.e p6
      refine And.intro rfl ?_
      exact hQ _ _ hF (Or.inl ⟨⟨by omega, by omega⟩, by omega⟩)

