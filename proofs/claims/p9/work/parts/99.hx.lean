/-! Answers: books, why not. -/
/-- no kind beyond those of the game is in play -/
def PZ (f : Nat → Int) : Prop := ∀ q : Nat, q < 13 → f 0 ≤ q → f (571 + q) = 0
theorem PZ.b {f : Nat → Int} (h : PZ f) (hV : V0 f) {q : Nat} (hq : q < 13) (h0 : f 0 ≤ q) : f (138 + q) = 0 := by
  obtain ⟨⟨a, _, _⟩, b⟩ := hV.2.2.2.2.1 q hq
  rw [h q hq h0] at b
  have s := sm_nn (n := 6) (g := fun p => hd f p q) (fun p hp => (hV.hand hp hq).1)
  have c : 0 ≤ ct f (f 7).toNat q := sm_nn (fun i _ => by split <;> decide)
  by_cases x : 0 < f (138 + q)
  · rw [if_pos x] at b; omega
  · omega
theorem PZ.q {f g : Nat → Int} (h : PZ f) (a : ∀ i, i = 0 ∨ 571 ≤ i → g i = f i) : PZ g := fun q hq h0 => by
  rw [a _ (by omega)]
  exact h q hq (by rw [← a 0 (by omega)]; exact h0)
def bkq (f : Nat → Int) (k : Int) (n : Nat) : Int := sm n (fun q => if f (138 + q) = k + 1 then 1 else 0)
def bksF (f : Nat → Int) (k : Int) : Int := bkq f k 13
def alq (f : Nat → Int) (n : Nat) : Int := sm n (fun q => if 0 < f (138 + q) then 1 else 0)
theorem bkq_s {f : Nat → Int} {k : Int} {n : Nat} : bkq f k (n + 1) = bkq f k n + (if f (138 + n) = k + 1 then 1 else 0) := rfl
theorem alq_s {f : Nat → Int} {n : Nat} : alq f (n + 1) = alq f n + (if 0 < f (138 + n) then 1 else 0) := rfl
theorem bkq_r {f : Nat → Int} {k : Int} : ∀ n : Nat, 0 ≤ bkq f k n ∧ bkq f k n ≤ n
  | 0 => ⟨Int.le_refl 0, Int.le_refl 0⟩
  | n + 1 => by
    have z := bkq_r (f := f) (k := k) n
    rw [bkq_s]
    split <;> omega
theorem alq_r {f : Nat → Int} : ∀ n : Nat, 0 ≤ alq f n ∧ alq f n ≤ n
  | 0 => ⟨Int.le_refl 0, Int.le_refl 0⟩
  | n + 1 => by
    have z := alq_r (f := f) n
    rw [alq_s]
    split <;> omega
theorem bkq_x {f : Nat → Int} {k : Int} (h : PZ f) (hV : V0 f) (hk : 0 ≤ k) : ∀ d n : Nat, n + d = 13 → f 0 ≤ n → bksF f k = bkq f k n
  | 0, n, e, _ => by
    have e : n = 13 := by omega
    rw [e]; rfl
  | d + 1, n, e, h0 => by
    rw [bkq_x h hV hk d (n + 1) (by omega) (by omega), bkq_s, h.b hV (by omega) h0, if_neg (by omega)]
    omega
theorem alq_x {f : Nat → Int} (h : PZ f) (hV : V0 f) : ∀ d n : Nat, n + d = 13 → f 0 ≤ n → alq f 13 = alq f n
  | 0, n, e, _ => by
    have e : n = 13 := by omega
    rw [e]
  | d + 1, n, e, h0 => by
    rw [alq_x h hV d (n + 1) (by omega) (by omega), alq_s, h.b hV (by omega) h0, if_neg (by omega)]
    omega
theorem alq_c {f : Nat → Int} (h : ∀ q, q < 13 → 0 ≤ f (138 + q)) : ∀ n : Nat, n ≤ 13 → alq f n = n - bkq f (-1) n
  | 0, _ => rfl
  | n + 1, hn => by
    have z := alq_c h n (by omega)
    have y := h n (by omega)
    rw [alq_s, bkq_s, z]
    by_cases c : 0 < f (138 + n)
    · rw [if_pos c, if_neg (by omega)]; omega
    · rw [if_neg c, if_pos (by omega)]; omega
def AHD (f : Nat → Int) (p : Int) : Prop := ∀ q : Nat, (q : Int) < f 1 → ¬ (q : Int) = p → bksF f q < bksF f p
def whyF (f : Nat → Int) (p q : Int) (kind : Nat) : Int := if f 4 = -1 then 1 else if ¬ f 4 = p then 2 else if HH f p.toNat kind = 0 then 3 else if p = q then 4 else 0
set_option maxHeartbeats 4000000 in
set_option maxRecDepth 100000 in
theorem sX2_booksOfG {f : Nat → Int} {σ : xS} {p : Int} {Q : Option xV → xS → Prop} (hp0 : GR σ f) (hp1 : VX f) (hp2 : -1 ≤ p ∧ p ≤ 5) (hQ : ∀ r : Int, (r = bkq f p (f 0).toNat) → Q (some (xvi r)) σ) : xT kX2_booksOf [xvr 0, xvi p] σ Q := by
  refine ⟨Nat.le_of_ble_eq_true rfl, fun X hX => ?_⟩
  show X 0 [xvr 0, xvi p, xvu, xvu] σ
  refine hX 400 0 _ _ ?_
  have n0 := hp0.n0 (i := 0) (by decide)
  have n1 := hp0.n0 (i := 1) (by decide)
  have m0 := hp1.1.1.1
  have m1 := hp1.1.1.2.1
  refine And.intro (Nat.le_of_ble_eq_true rfl) ?_
  show xw _ _ _ _ _ _ _ _ _ _ [xvr 0, xvi p, xvi 0, xvu] _ _
  refine And.intro (Nat.le_of_ble_eq_true rfl) ?_
  show xw _ _ _ _ _ _ _ _ _ _ [xvr 0, xvi p, xvi 0, xvi 0] _ _
  have lp_4 : ∀ (m4 : Nat) (n : Int) (i : Int), ((13 - i).toNat) = m4 → ((0 ≤ i ∧ i ≤ f 0) ∧ n = bkq f p i.toNat) → X 4 [xvr 0, xvi p, xvi n, xvi i] σ := by
    intro m4
    induction m4 using Nat.strongRecOn with
    | _ m4 ih_4 =>
    intro n i hm_4 hv_4
    obtain ⟨hv_4, hn⟩ := hv_4
    have hnr := bkq_r (f := f) (k := p) i.toNat
    refine hX 400 4 _ _ ?_
    intro v2 e2 l2 h2
    have e2 : v2 = σ 0 0 := e2
    refine And.intro (fun c3 => ?_) (fun c3 => ?_)
    · refine And.intro rfl ?_
      exact hQ _ (by rw [hn, show i.toNat = (f 0).toNat from by omega])
    · refine And.intro (rfl) (And.intro (⟨by omega, by omega⟩) ?_)
      intro v4 e4 l4 h4
      have e4 : v4 = σ 5 i.toNat := e4
      have ho4 : v4 = f (138 + i.toNat) - 1 := by
        have z := hp0.1 _ _ _ _ (mp_bk (j := i.toNat) (by omega))
        rw [e4, show i.toNat = i.toNat from by omega]
        omega
      refine And.intro (fun c5 => ?_) (fun c5 => ?_)
      · refine hX 400 25 _ _ ?_
        intro z6 t6 e6 l6 h6
        try have w6 : t6 = 0 := by omega
        show xw _ _ _ _ _ _ _ _ _ _ [xvr 0, xvi p, xvi n, xvi z6] _ _
        exact ih_4 _ (show (13 - z6).toNat < m4 from by omega) n z6 rfl ⟨by omega, by
              rw [show z6.toNat = i.toNat + 1 from by omega, bkq_s]
              first | (rw [if_pos (by omega)]; omega) | (rw [if_neg (by omega)]; omega)⟩
      · intro z7 t7 e7 l7 h7
        try have w7 : t7 = 0 := by omega
        show xw _ _ _ _ _ _ _ _ _ _ [xvr 0, xvi p, xvi z7, xvi i] _ _
        refine hX 400 25 _ _ ?_
        intro z8 t8 e8 l8 h8
        try have w8 : t8 = 0 := by omega
        show xw _ _ _ _ _ _ _ _ _ _ [xvr 0, xvi p, xvi z7, xvi z8] _ _
        exact ih_4 _ (show (13 - z8).toNat < m4 from by omega) z7 z8 rfl ⟨by omega, by
              rw [show z8.toNat = i.toNat + 1 from by omega, bkq_s]
              first | (rw [if_pos (by omega)]; omega) | (rw [if_neg (by omega)]; omega)⟩
  exact lp_4 _ 0 0 rfl ⟨by omega, rfl⟩
set_option maxHeartbeats 4000000 in
set_option maxRecDepth 100000 in
theorem sX2_allBooksG {f : Nat → Int} {σ : xS} {Q : Option xV → xS → Prop} (hp0 : GR σ f) (hp1 : VX f) (hp2 : PZ f) (hQ : ∀ r : Int, (r = alq f 13) → Q (some (xvi r)) σ) : xT kX2_allBooks [xvr 0] σ Q := by
  refine ⟨Nat.le_of_ble_eq_true rfl, fun X hX => ?_⟩
  show X 0 [xvr 0] σ
  refine hX 400 0 _ _ ?_
  have n0 := hp0.n0 (i := 0) (by decide)
  have n1 := hp0.n0 (i := 1) (by decide)
  have m0 := hp1.1.1.1
  have m1 := hp1.1.1.2.1
  intro v1 e1 l1 h1
  have e1 : v1 = σ 0 0 := e1
  refine sX2_booksOfG (σ := σ) (f := f) (p := (-1)) hp0 hp1 (by omega) (fun r2 p2 => ?_)
  have hbr2 := bkq_r (f := f) (k := (-1)) (f 0).toNat
  intro z3 t3 e3 l3 h3
  try have w3 : t3 = 0 := by omega
  refine And.intro rfl ?_
  have e1 := alq_x hp2 hp1.1 (13 - (f 0).toNat) (f 0).toNat (by omega) (by omega)
  have e2 := alq_c (f := f) (fun q hq => (hp1.1.2.2.2.2.1 q hq).1.1) (f 0).toNat (by omega)
  exact hQ _ (by omega)
set_option maxHeartbeats 4000000 in
set_option maxRecDepth 100000 in
theorem sX2_isAheadOfAllG {f : Nat → Int} {σ : xS} {p : Int} {Q : Option xV → xS → Prop} (hp0 : GR σ f) (hp1 : VX f) (hp2 : PZ f) (hp3 : 0 ≤ p ∧ p ≤ 5) (hQ : ∀ r : Int, ((r = 1 ∧ AHD f p) ∨ (r = 0 ∧ ¬ AHD f p)) → Q (some (xvi r)) σ) : xT kX2_isAheadOfAll [xvr 0, xvi p] σ Q := by
  refine ⟨Nat.le_of_ble_eq_true rfl, fun X hX => ?_⟩
  show X 0 [xvr 0, xvi p, xvu, xvu] σ
  refine hX 400 0 _ _ ?_
  have n0 := hp0.n0 (i := 0) (by decide)
  have n1 := hp0.n0 (i := 1) (by decide)
  have m0 := hp1.1.1.1
  have m1 := hp1.1.1.2.1
  refine sX2_booksOfG (σ := σ) (f := f) (p := p) hp0 hp1 (by omega) (fun r1 p1 => ?_)
  have hbr1 := bkq_r (f := f) (k := p) (f 0).toNat
  rw [← bkq_x hp2 hp1.1 (by omega) (13 - (f 0).toNat) (f 0).toNat (by omega) (by omega)] at p1
  refine And.intro (Nat.le_of_ble_eq_true rfl) ?_
  show xw _ _ _ _ _ _ _ _ _ _ [xvr 0, xvi p, xvi r1, xvu] _ _
  refine And.intro (Nat.le_of_ble_eq_true rfl) ?_
  show xw _ _ _ _ _ _ _ _ _ _ [xvr 0, xvi p, xvi r1, xvi 0] _ _
  have lp_8 : ∀ (m8 : Nat) (i : Int), ((6 - i).toNat) = m8 → ((0 ≤ i ∧ i ≤ 6) ∧ ∀ q : Nat, (q : Int) < i → ¬ (q : Int) = p → bksF f q < bksF f p) → X 8 [xvr 0, xvi p, xvi r1, xvi i] σ := by
    intro m8
    induction m8 using Nat.strongRecOn with
    | _ m8 ih_8 =>
    intro i hm_8 hv_8
    obtain ⟨hv_8, hA⟩ := hv_8
    refine hX 400 8 _ _ ?_
    intro v3 e3 l3 h3
    have e3 : v3 = σ 0 1 := e3
    refine And.intro (fun c4 => ?_) (fun c4 => ?_)
    · refine And.intro rfl ?_
      refine And.intro (by omega) ?_
      exact hQ _ (Or.inl ⟨rfl, fun q hq hne => hA q (by omega) hne⟩)
    · refine And.intro (fun c5 => ?_) (fun c5 => ?_)
      · refine hX 400 32 _ _ ?_
        intro z6 t6 e6 l6 h6
        try have w6 : t6 = 0 := by omega
        show xw _ _ _ _ _ _ _ _ _ _ [xvr 0, xvi p, xvi r1, xvi z6] _ _
        exact ih_8 _ (show (6 - z6).toNat < m8 from by omega) z6 rfl ⟨by omega, fun q hq hne => by
                  by_cases e : (q : Int) = i
                  · rw [show ((q : Nat) : Int) = i from e]; omega
                  · exact hA q (by omega) hne⟩
      · refine sX2_booksOfG (σ := σ) (f := f) (p := i) hp0 hp1 (by omega) (fun r7 p7 => ?_)
        have hbr7 := bkq_r (f := f) (k := i) (f 0).toNat
        rw [← bkq_x hp2 hp1.1 (by omega) (13 - (f 0).toNat) (f 0).toNat (by omega) (by omega)] at p7
        refine And.intro (fun c8 => ?_) (fun c8 => ?_)
        · refine hX 400 32 _ _ ?_
          intro z9 t9 e9 l9 h9
          try have w9 : t9 = 0 := by omega
          show xw _ _ _ _ _ _ _ _ _ _ [xvr 0, xvi p, xvi r1, xvi z9] _ _
          exact ih_8 _ (show (6 - z9).toNat < m8 from by omega) z9 rfl ⟨by omega, fun q hq hne => by
                    by_cases e : (q : Int) = i
                    · rw [show ((q : Nat) : Int) = i from e]; omega
                    · exact hA q (by omega) hne⟩
        · refine And.intro rfl ?_
          refine And.intro (by omega) ?_
          exact hQ _ (Or.inr ⟨rfl, fun h => by
            have z := h i.toNat (by omega) (by omega)
            rw [show ((i.toNat : Nat) : Int) = i from by omega] at z
            omega⟩)
  exact lp_8 _ 0 rfl ⟨by omega, fun q hq => by omega⟩
set_option maxHeartbeats 4000000 in
set_option maxRecDepth 100000 in
theorem sX2_whyNotG {f : Nat → Int} {σ : xS} {p q kind : Int} {Q : Option xV → xS → Prop} (hp0 : GR σ f) (hp1 : σ 0 14 = f 4) (hp2 : 0 ≤ p ∧ p ≤ 5) (hp3 : 0 ≤ kind ∧ kind ≤ 12) (hQ : ∀ r : Int, (r = whyF f p q kind.toNat) → Q (some (xvi r)) σ) : xT kX2_whyNot [xvr 0, xvi p, xvi q, xvi kind] σ Q := by
  refine ⟨Nat.le_of_ble_eq_true rfl, fun X hX => ?_⟩
  show X 0 [xvr 0, xvi p, xvi q, xvi kind] σ
  refine hX 400 0 _ _ ?_
  intro v1 e1 l1 h1
  have e1 : v1 = σ 0 14 := e1
  refine And.intro (fun c2 => ?_) (fun c2 => ?_)
  · intro v3 e3 l3 h3
    have e3 : v3 = σ 0 14 := e3
    refine And.intro (fun c4 => ?_) (fun c4 => ?_)
    · refine sX2_held (σ := σ) (p := p) (kind := kind) hp2 hp3 (fun r5 p5 => ?_)
      have p5 : r5 = HH f p.toNat kind.toNat := p5.trans (hp0.vh hp2 hp3)
      refine And.intro (fun c6 => ?_) (fun c6 => ?_)
      · refine And.intro (fun c7 => ?_) (fun c7 => ?_)
        · refine And.intro rfl ?_
          exact hQ _ (by unfold whyF; rw [if_neg (by omega), if_neg (by omega), if_neg (by omega), if_neg (by omega)])
        · refine And.intro rfl ?_
          exact hQ _ (by unfold whyF; rw [if_neg (by omega), if_neg (by omega), if_neg (by omega), if_pos (by omega)])
      · refine And.intro rfl ?_
        exact hQ _ (by unfold whyF; rw [if_neg (by omega), if_neg (by omega), if_pos (by omega)])
    · refine And.intro rfl ?_
      exact hQ _ (by unfold whyF; rw [if_neg (by omega), if_pos (by omega)])
  · refine And.intro rfl ?_
    exact hQ _ (by unfold whyF; rw [if_pos (by omega)])
set_option maxHeartbeats 4000000 in
set_option maxRecDepth 100000 in
theorem sX2_canDealG {f : Nat → Int} {σ : xS} {n : Int} {Q : Option xV → xS → Prop} (hp0 : GR σ f) (hp1 : VX f) (hp2 : 1 ≤ n ∧ n ≤ 9) (hQ : ∀ r : Int, ((r = 1 ∧ 0 < f 1 ∧ 0 < f 0 ∧ n * f 1 ≤ 4 * f 0) ∨ (r = 0 ∧ ¬ (0 < f 1 ∧ 0 < f 0 ∧ n * f 1 ≤ 4 * f 0))) → Q (some (xvi r)) σ) : xT kX2_canDeal [xvr 0, xvi n] σ Q := by
  refine ⟨Nat.le_of_ble_eq_true rfl, fun X hX => ?_⟩
  show X 0 [xvr 0, xvi n] σ
  refine hX 400 0 _ _ ?_
  have n0 := hp0.n0 (i := 0) (by decide)
  have n1 := hp0.n0 (i := 1) (by decide)
  have m0 := hp1.1.1.1
  have m1 := hp1.1.1.2.1
  intro v1 e1 l1 h1
  have e1 : v1 = σ 0 1 := e1
  refine And.intro (fun c2 => ?_) (fun c2 => ?_)
  · refine hX 400 33 _ _ ?_
    refine And.intro rfl ?_
    refine And.intro (by omega) ?_
    exact hQ _ (show (0 = 1 ∧ 0 < f 1 ∧ 0 < f 0 ∧ n * f 1 ≤ 4 * f 0) ∨ (0 = 0 ∧ ¬ (0 < f 1 ∧ 0 < f 0 ∧ n * f 1 ≤ 4 * f 0)) from by first | trivial | omega)
  · intro v3 e3 l3 h3
    have e3 : v3 = σ 0 0 := e3
    refine And.intro (fun c4 => ?_) (fun c4 => ?_)
    · refine hX 400 33 _ _ ?_
      refine And.intro rfl ?_
      refine And.intro (by omega) ?_
      exact hQ _ (show (0 = 1 ∧ 0 < f 1 ∧ 0 < f 0 ∧ n * f 1 ≤ 4 * f 0) ∨ (0 = 0 ∧ ¬ (0 < f 1 ∧ 0 < f 0 ∧ n * f 1 ≤ 4 * f 0)) from by first | trivial | omega)
    · intro v5 e5 l5 h5
      have e5 : v5 = σ 0 1 := e5
      have y9 : n * f 1 ≤ 9 * f 1 := Int.mul_le_mul_of_nonneg_right (by omega) (by omega)
      have y0 : 0 ≤ n * f 1 := Int.mul_nonneg (by omega) (by omega)
      have y19 : n * v5 = n * f 1 := by rw [show v5 = f 1 from by omega]
      intro z6 t6 e6 l6 h6
      try have w6 : t6 = 0 := by omega
      have hm1 : z6 = n * f 1 := by omega
      intro v7 e7 l7 h7
      have e7 : v7 = σ 0 0 := e7
      intro z8 t8 e8 l8 h8
      try have w8 : t8 = 0 := by omega
      refine And.intro (fun c9 => ?_) (fun c9 => ?_)
      · refine hX 400 33 _ _ ?_
        refine And.intro rfl ?_
        refine And.intro (by omega) ?_
        exact hQ _ (show (0 = 1 ∧ 0 < f 1 ∧ 0 < f 0 ∧ n * f 1 ≤ 4 * f 0) ∨ (0 = 0 ∧ ¬ (0 < f 1 ∧ 0 < f 0 ∧ n * f 1 ≤ 4 * f 0)) from by first | trivial | omega)
      · refine And.intro rfl ?_
        refine And.intro (by omega) ?_
        exact hQ _ (show (1 = 1 ∧ 0 < f 1 ∧ 0 < f 0 ∧ n * f 1 ≤ 4 * f 0) ∨ (1 = 0 ∧ ¬ (0 < f 1 ∧ 0 < f 0 ∧ n * f 1 ≤ 4 * f 0)) from by first | trivial | omega)

