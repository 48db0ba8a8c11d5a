set_option maxHeartbeats 4000000 in
set_option maxRecDepth 100000 in
theorem sX2_kindBitsG {f : Nat → Int} {σ : xS} {p : Int} {Q : Option xV → xS → Prop} (hp0 : GR σ f) (hp1 : VX f) (hp2 : 0 ≤ p ∧ p ≤ 5) (hQ : ∀ r : Int, (r = kbF f p.toNat (f 0).toNat) → Q (some (xvi r)) σ) : xT kX2_kindBits [xvr 0, xvi p] σ Q := by
  refine ⟨Nat.le_of_ble_eq_true rfl, fun X hX => ?_⟩
  show X 0 [xvr 0, xvi p, xvu, xvu] σ
  refine hX 400 0 _ _ ?_
  have n0 := hp0.n0 (i := 0) (by decide)
  have n1 := hp0.n0 (i := 1) (by decide)
  have m0 := hp1.1.1.1
  have m1 := hp1.1.1.2.1
  refine And.intro (Nat.le_of_ble_eq_true rfl) ?_
  show xw _ _ _ _ _ _ _ _ _ _ [xvr 0, xvi p, xvi 0, xvu] _ _
  refine And.intro (Nat.le_of_ble_eq_true rfl) ?_
  show xw _ _ _ _ _ _ _ _ _ _ [xvr 0, xvi p, xvi 0, xvi 0] _ _
  have lp_4 : ∀ (m4 : Nat) (n : Int) (i : Int), ((13 - i).toNat) = m4 → ((0 ≤ i ∧ i ≤ f 0) ∧ n = kbF f p.toNat i.toNat) → X 4 [xvr 0, xvi p, xvi n, xvi i] σ := by
    intro m4
    induction m4 using Nat.strongRecOn with
    | _ m4 ih_4 =>
    intro n i hm_4 hv_4
    obtain ⟨hv_4, hn⟩ := hv_4
    have hkr := kbF_r (f := f) (p := p.toNat) i.toNat (by omega)
    refine hX 400 4 _ _ ?_
    intro v2 e2 l2 h2
    have e2 : v2 = σ 0 0 := e2
    refine And.intro (fun c3 => ?_) (fun c3 => ?_)
    · refine And.intro rfl ?_
      exact hQ _ (by rw [hn, show (f 0).toNat = i.toNat from by omega])
    · have lp_27 : ∀ (n2 : Int), (n2 = kbF f p.toNat (i.toNat + 1)) → X 27 [xvr 0, xvi p, xvi n2, xvi i] σ := by
        intro n2 hv_27
        refine hX 400 27 _ _ ?_
        intro z5 t5 e5 l5 h5
        try have w5 : t5 = 0 := by omega
        show xw _ _ _ _ _ _ _ _ _ _ [xvr 0, xvi p, xvi n2, xvi z5] _ _
        exact ih_4 _ (show (13 - z5).toNat < m4 from by omega) n2 z5 rfl ⟨by omega, by rw [show z5.toNat = i.toNat + 1 from by omega]; exact hv_27⟩
      refine sX2_held (σ := σ) (p := p) (kind := i) (by omega) (by omega) (fun r6 p6 => ?_)
      have p6 : r6 = HH f p.toNat i.toNat := p6.trans (hp0.vh hp2 (by omega))
      have hv6 := HH_v hp1.1 (p := p.toNat) (k := i.toNat) (by omega) (by omega)
      refine And.intro (fun c7 => ?_) (fun c7 => ?_)
      · exact lp_27 n (by show n = (if _ then _ else _); rw [if_neg (by omega)]; exact hn)
      · intro z8 e8 l8 h8
        -- or
        intro z9 e9 l9 h9
        refine And.intro (Nat.le_of_ble_eq_true rfl) ?_
        show xw _ _ _ _ _ _ _ _ _ _ [xvr 0, xvi p, xvi z9, xvi i] _ _
        exact lp_27 z9 (by show z9 = (if _ then _ else _); rw [if_pos (by omega), show ((i.toNat : Nat) : Int) = i from by omega, ← hn]; exact xorb (by omega) (by omega) e8 e9)
  exact lp_4 _ 0 0 rfl ⟨by omega, rfl⟩
theorem cd_r {f : Nat → Int} (hV : V0 f) {p : Nat} (hp : p < 6) : 0 ≤ cd f p ∧ cd f p ≤ 52 := by
  have z := sm_nn (n := 13) (g := hd f p) (fun i hi => (hV.hand hp hi).1)
  have w := sm_le (n := 13) (g := hd f p) (g' := fun _ => (4 : Int)) (fun i hi => (hV.hand hp hi).2)
  rw [sm_const] at w
  have e : cd f p = sm 13 (hd f p) := rfl
  omega
set_option maxHeartbeats 4000000 in
set_option maxRecDepth 100000 in
theorem sX2_looseG {f : Nat → Int} {σ : xS} {Q : Option xV → xS → Prop} (hp0 : GR σ f) (hp1 : VX f) (hQ : ∀ r : Int, (r = losF f) → Q (some (xvi r)) σ) : xT kX2_loose [xvr 0] σ Q := by
  refine ⟨Nat.le_of_ble_eq_true rfl, fun X hX => ?_⟩
  show X 0 [xvr 0, xvu, xvu] σ
  refine hX 400 0 _ _ ?_
  have n0 := hp0.n0 (i := 0) (by decide)
  have n1 := hp0.n0 (i := 1) (by decide)
  have m0 := hp1.1.1.1
  have m1 := hp1.1.1.2.1
  have hCR := (hp0.cg hp1.1).1
  have h8 := hCR.2.2.1
  have h7 := hp0.hs
  have m7 := hp1.1.1.2.2.2
  refine sX2_heapSize (σ := σ) h8 (fun r1 p1 => ?_)
  refine And.intro (Nat.le_of_ble_eq_true rfl) ?_
  show xw _ _ _ _ _ _ _ _ _ _ [xvr 0, xvi r1, xvu] _ _
  refine And.intro (Nat.le_of_ble_eq_true rfl) ?_
  show xw _ _ _ _ _ _ _ _ _ _ [xvr 0, xvi r1, xvi 0] _ _
  have lp_7 : ∀ (m7 : Nat) (n : Int) (i : Int), ((6 - i).toNat) = m7 → ((0 ≤ i ∧ i ≤ f 1) ∧ (0 ≤ n ∧ n ≤ 52 + 52 * i) ∧ n = f 7 + sm i.toNat (cd f)) → X 7 [xvr 0, xvi n, xvi i] σ := by
    intro m7
    induction m7 using Nat.strongRecOn with
    | _ m7 ih_7 =>
    intro n i hm_7 hv_7
    obtain ⟨hv_7, hn0, hn⟩ := hv_7
    refine hX 400 7 _ _ ?_
    intro v3 e3 l3 h3
    have e3 : v3 = σ 0 1 := e3
    refine And.intro (fun c4 => ?_) (fun c4 => ?_)
    · refine And.intro rfl ?_
      exact hQ _ (by rw [hn]; unfold losF; rw [show (f 1).toNat = i.toNat from by omega])
    · refine And.intro (rfl) (And.intro (⟨by omega, by omega⟩) ?_)
      intro v5 e5 l5 h5
      have e5 : v5 = σ 3 i.toNat := e5
      have g5 : v5 = cd f i.toNat := by rw [e5]; exact hp0.vc (by omega)
      have gr5 := cd_r (f := f) hp1.1 (p := i.toNat) (by omega)
      intro z6 t6 e6 l6 h6
      try have w6 : t6 = 0 := by omega
      refine And.intro (Nat.le_of_ble_eq_true rfl) ?_
      show xw _ _ _ _ _ _ _ _ _ _ [xvr 0, xvi z6, xvi i] _ _
      intro z7 t7 e7 l7 h7
      try have w7 : t7 = 0 := by omega
      show xw _ _ _ _ _ _ _ _ _ _ [xvr 0, xvi z6, xvi z7] _ _
      exact ih_7 _ (show (6 - z7).toNat < m7 from by omega) z6 z7 rfl ⟨by omega, by omega, by
            rw [show z7.toNat = i.toNat + 1 from by omega]
            show z6 = f 7 + (sm i.toNat (cd f) + cd f i.toNat)
            omega⟩
  exact lp_7 _ r1 0 rfl ⟨by omega, by omega, (by show r1 = f 7 + 0; omega)⟩
set_option maxHeartbeats 4000000 in
set_option maxRecDepth 100000 in
theorem sX2_inHandsG {f : Nat → Int} {σ : xS} {kind : Int} {Q : Option xV → xS → Prop} (hp0 : GR σ f) (hp1 : VX f) (hp2 : 0 ≤ kind ∧ kind ≤ 12) (hQ : ∀ r : Int, (r = inhF f kind.toNat) → Q (some (xvi r)) σ) : xT kX2_inHands [xvr 0, xvi kind] σ Q := by
  refine ⟨Nat.le_of_ble_eq_true rfl, fun X hX => ?_⟩
  show X 0 [xvr 0, xvi kind, xvu, xvu] σ
  refine hX 400 0 _ _ ?_
  have n0 := hp0.n0 (i := 0) (by decide)
  have n1 := hp0.n0 (i := 1) (by decide)
  have m0 := hp1.1.1.1
  have m1 := hp1.1.1.2.1
  refine And.intro (Nat.le_of_ble_eq_true rfl) ?_
  show xw _ _ _ _ _ _ _ _ _ _ [xvr 0, xvi kind, xvi 0, xvu] _ _
  refine And.intro (Nat.le_of_ble_eq_true rfl) ?_
  show xw _ _ _ _ _ _ _ _ _ _ [xvr 0, xvi kind, xvi 0, xvi 0] _ _
  have lp_4 : ∀ (m4 : Nat) (n : Int) (i : Int), ((6 - i).toNat) = m4 → ((0 ≤ i ∧ i ≤ f 1) ∧ (0 ≤ n ∧ n ≤ 4 * i) ∧ n = sm i.toNat (fun q => HH f q kind.toNat)) → X 4 [xvr 0, xvi kind, xvi n, xvi i] σ := by
    intro m4
    induction m4 using Nat.strongRecOn with
    | _ m4 ih_4 =>
    intro n i hm_4 hv_4
    obtain ⟨hv_4, hn0, hn⟩ := hv_4
    refine hX 400 4 _ _ ?_
    intro v2 e2 l2 h2
    have e2 : v2 = σ 0 1 := e2
    refine And.intro (fun c3 => ?_) (fun c3 => ?_)
    · refine And.intro rfl ?_
      exact hQ _ (by rw [hn]; unfold inhF; rw [show (f 1).toNat = i.toNat from by omega])
    · refine sX2_held (σ := σ) (p := i) (kind := kind) (by omega) (by omega) (fun r4 p4 => ?_)
      have p4 : r4 = HH f i.toNat kind.toNat := p4.trans (hp0.vh (by omega) (by omega))
      have hv4 := HH_v hp1.1 (p := i.toNat) (k := kind.toNat) (by omega) (by omega)
      intro z5 t5 e5 l5 h5
      try have w5 : t5 = 0 := by omega
      refine And.intro (Nat.le_of_ble_eq_true rfl) ?_
      show xw _ _ _ _ _ _ _ _ _ _ [xvr 0, xvi kind, xvi z5, xvi i] _ _
      intro z6 t6 e6 l6 h6
      try have w6 : t6 = 0 := by omega
      show xw _ _ _ _ _ _ _ _ _ _ [xvr 0, xvi kind, xvi z5, xvi z6] _ _
      exact ih_4 _ (show (6 - z6).toNat < m4 from by omega) z5 z6 rfl ⟨by omega, by omega, by
            rw [show z6.toNat = i.toNat + 1 from by omega]
            show z5 = sm i.toNat (fun q => HH f q kind.toNat) + HH f i.toNat kind.toNat
            omega⟩
  exact lp_4 _ 0 0 rfl ⟨by omega, by omega, rfl⟩
set_option maxHeartbeats 4000000 in
set_option maxRecDepth 100000 in
theorem sX3_othersOfG {f : Nat → Int} {σ : xS} {p : Int} {Q : Option xV → xS → Prop} (hp0 : GR σ f) (hp1 : 0 ≤ p ∧ p ≤ 5) (hQ : ∀ r : Int, (r = f (229 + p.toNat)) → Q (some (xvi r)) σ) : xT kX3_othersOf [xvr 9, xvi p] σ Q := by
  refine ⟨Nat.le_of_ble_eq_true rfl, fun X hX => ?_⟩
  show X 0 [xvr 9, xvi p, xvu, xvu] σ
  refine hX 400 0 _ _ ?_
  have h9 := hp0.n9
  refine And.intro (Nat.le_of_ble_eq_true rfl) ?_
  show xw _ _ _ _ _ _ _ _ _ _ [xvr 9, xvi p, xvi 0, xvu] _ _
  refine And.intro (Nat.le_of_ble_eq_true rfl) ?_
  show xw _ _ _ _ _ _ _ _ _ _ [xvr 9, xvi p, xvi 0, xvi 0] _ _
  have lp_4 : ∀ (m4 : Nat) (n : Int) (i : Int), ((52 - i).toNat) = m4 → ((0 ≤ i ∧ i ≤ σ 9 2) ∧ n = rk (σ 11) p i.toNat) → X 4 [xvr 9, xvi p, xvi n, xvi i] σ := by
    intro m4
    induction m4 using Nat.strongRecOn with
    | _ m4 ih_4 =>
    intro n i hm_4 hv_4
    obtain ⟨hv_4, hn⟩ := hv_4
    have hrn := rk_nn (h := σ 11) (p := p) i.toNat
    have h9 := hp0.n9
    refine hX 400 4 _ _ ?_
    intro v2 e2 l2 h2
    have e2 : v2 = σ 9 2 := e2
    refine And.intro (fun c3 => ?_) (fun c3 => ?_)
    · refine And.intro rfl ?_
      have z := hp0.2.2.2.1.1.2.1 p.toNat (by omega)
      exact hQ _ (by rw [hn, ← z, show (σ 9 2).toNat = i.toNat from by omega, show ((p.toNat : Nat) : Int) = p from by omega])
    · have lp_28 : ∀ (n2 : Int), (n2 = rk (σ 11) p (i.toNat + 1)) → X 28 [xvr 9, xvi p, xvi n2, xvi i] σ := by
        intro n2 hv_28
        refine hX 400 28 _ _ ?_
        intro z5 t5 e5 l5 h5
        try have w5 : t5 = 0 := by omega
        show xw _ _ _ _ _ _ _ _ _ _ [xvr 9, xvi p, xvi n2, xvi z5] _ _
        exact ih_4 _ (show (52 - z5).toNat < m4 from by omega) n2 z5 rfl ⟨by omega, by rw [show z5.toNat = i.toNat + 1 from by omega]; exact hv_28⟩
      refine And.intro (rfl) (And.intro (⟨by omega, by omega⟩) ?_)
      intro v6 e6 l6 h6
      have e6 : v6 = σ 11 i.toNat := e6
      have hko := hp0.ko i.toNat (by omega)
      have ho6 : v6 = σ 11 i.toNat := by rw [e6]
      intro z7 e7 l7 h7
      have how : z7 = ow (σ 11 i.toNat) := by have z := xown (x := v6) (by omega) e7; rw [z, ho6]
      have hrs := rk_s (h := σ 11) (p := p) (i := i.toNat)
      refine And.intro (fun c8 => ?_) (fun c8 => ?_)
      · exact lp_28 n (by rw [rk_s]; first | (rw [if_pos (by omega)]; omega) | (rw [if_neg (by omega)]; omega))
      · intro z9 t9 e9 l9 h9
        try have w9 : t9 = 0 := by omega
        show xw _ _ _ _ _ _ _ _ _ _ [xvr 9, xvi p, xvi z9, xvi i] _ _
        exact lp_28 z9 (by rw [rk_s]; first | (rw [if_pos (by omega)]; omega) | (rw [if_neg (by omega)]; omega))
  exact lp_4 _ 0 0 rfl ⟨by have := hp0.n9; omega, rfl⟩

