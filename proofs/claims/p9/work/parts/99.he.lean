/-! The reference's steps on others, exactly. -/
def MSK (f : Nat → Int) : Prop := ∀ p i : Nat, p < 6 → (i : Int) < f (229 + p) → 0 ≤ f (235 + 52 * p + i) ∧ f (235 + 52 * p + i) < 8192
/-- while the others close up -/
def shfF (g : Nat → Int) (k i i3 : Nat) : Nat → Int := fun j => if j = 229 + k then g j - 1 else if 235 + 52 * k + i ≤ j ∧ j < 235 + 52 * k + i3 then g (j + 1) else g j
theorem shfF_z {g : Nat → Int} {k i : Nat} : shfF g k i i = up g (229 + k) (g (229 + k) - 1) := by
  funext j
  unfold shfF up
  by_cases e : j = 229 + k
  · subst e; rw [if_pos rfl, if_pos rfl]
  · rw [if_neg e, if_neg e, if_neg (by omega)]
theorem shfF_s {g : Nat → Int} {k i i3 : Nat} (h : i ≤ i3) : up (shfF g k i i3) (235 + 52 * k + i3) (g (235 + 52 * k + i3 + 1)) = shfF g k i (i3 + 1) := by
  funext j
  by_cases e : j = 235 + 52 * k + i3
  · subst e
    rw [up_s]
    unfold shfF
    rw [if_neg (by omega), if_pos ⟨by omega, by omega⟩]
  · rw [up_n e]
    unfold shfF
    by_cases e2 : j = 229 + k
    · rw [if_pos e2, if_pos e2]
    · rw [if_neg e2, if_neg e2]
      by_cases e3 : 235 + 52 * k + i ≤ j ∧ j < 235 + 52 * k + i3
      · rw [if_pos e3, if_pos ⟨e3.1, by omega⟩]
      · rw [if_neg e3, if_neg (by omega)]
theorem shfF_e {g : Nat → Int} {k i i3 : Nat} (h : (i3 : Int) = g (229 + k) - 1) : shfF g k i i3 = takesF g k i := by
  funext j
  unfold shfF takesF
  by_cases e2 : j = 229 + k
  · rw [if_pos e2, if_pos e2]
  · rw [if_neg e2, if_neg e2]
    by_cases e3 : 235 + 52 * k + i ≤ j ∧ j < 235 + 52 * k + i3
    · rw [if_pos e3, if_pos ⟨e3.1, by omega⟩]
    · rw [if_neg e3, if_neg (by omega)]
theorem takesF_up {f : Nat → Int} {k i i0 : Nat} {c : Int} (hk : k < 6) (h0 : 547 ≤ i0) (h52 : f (229 + k) ≤ 52) : takesF (up f i0 c) k i = up (takesF f k i) i0 c := by
  funext j
  by_cases e : j = i0
  · subst e
    rw [up_s]
    unfold takesF
    rw [up_n (show 229 + k ≠ j from by omega), if_neg (by omega), if_neg (by omega), up_s]
  · rw [up_n e]
    unfold takesF
    rw [up_n (show 229 + k ≠ i0 from by omega), up_n e]
    by_cases e2 : j = 229 + k
    · rw [if_pos e2, if_pos e2]
    · rw [if_neg e2, if_neg e2]
      by_cases e3 : 235 + 52 * k + i ≤ j ∧ (j : Int) < 235 + 52 * k + (f (229 + k) - 1)
      · rw [if_pos e3, if_pos e3, up_n (by omega)]
      · rw [if_neg e3, if_neg e3]
/-- every other of k gets the bit, up to i -/
def brF (f : Nat → Int) (k : Nat) (kind : Int) (i : Nat) : Nat → Int := fun j => if 235 + 52 * k ≤ j ∧ j < 235 + 52 * k + i then orF (f j) kind else f j
theorem brF_z {f : Nat → Int} {k : Nat} {kind : Int} : brF f k kind 0 = f := by
  funext j
  unfold brF
  rw [if_neg (by omega)]
theorem brF_s {f : Nat → Int} {k i : Nat} {kind : Int} : up (brF f k kind i) (235 + 52 * k + i) (orF (f (235 + 52 * k + i)) kind) = brF f k kind (i + 1) := by
  funext j
  by_cases e : j = 235 + 52 * k + i
  · subst e
    rw [up_s]
    unfold brF
    rw [if_pos ⟨by omega, by omega⟩]
  · rw [up_n e]
    unfold brF
    by_cases e3 : 235 + 52 * k ≤ j ∧ j < 235 + 52 * k + i
    · rw [if_pos e3, if_pos ⟨e3.1, by omega⟩]
    · rw [if_neg e3, if_neg (by omega)]
theorem brF_e {f : Nat → Int} {k i : Nat} {kind : Int} (h : (i : Int) = f (229 + k)) : brF f k kind i = barsF f k (fun m => orF m kind) := by
  funext j
  unfold brF barsF
  by_cases e3 : 235 + 52 * k ≤ j ∧ j < 235 + 52 * k + i
  · rw [if_pos e3, if_pos ⟨e3.1, by omega⟩]
  · rw [if_neg e3, if_neg (by omega)]
theorem brF_o {f : Nat → Int} {k i j : Nat} {kind : Int} (h : j < 235 + 52 * k ∨ 235 + 52 * k + i ≤ j) : brF f k kind i j = f j := by
  unfold brF
  rw [if_neg (by omega)]
set_option maxHeartbeats 4000000 in
set_option maxRecDepth 100000 in
theorem s_addsF {σ : xS} {k mask : Int} {Q : Option xV → xS → Prop} (hp0 : 0 ≤ k ∧ k ≤ 5) (hp1 : 0 ≤ σ 2 (229 + k.toNat) ∧ σ 2 (229 + k.toNat) ≤ 51) (hQ : ∀ σ' : xS, Fr [2] [] σ σ' → (σ' 2 = addsF (σ 2) k.toNat mask) → Q none σ') : xT kX11_adds [xvr 0, xvi k, xvi mask] σ Q := by
  refine ⟨Nat.le_of_ble_eq_true rfl, fun X hX => ?_⟩
  show X 0 [xvr 0, xvi k, xvi mask] σ
  have hF : Fr [2] [] σ σ := Fr.rf
  refine hX 400 0 _ _ ?_
  intro z1 t1 e1 l1 h1
  try have w1 : t1 = 0 := by omega
  intro z2 t2 e2 l2 h2
  try have w2 : t2 = 0 := by omega
  intro z3 t3 e3 l3 h3
  try have w3 : t3 = 0 := by omega
  refine And.intro (rfl) (And.intro (⟨by omega, by omega⟩) ?_)
  intro v4 e4 l4 h4
  have e4 : v4 = σ 2 z3.toNat := e4
  rw [show z3.toNat = 229 + k.toNat from by omega] at e4
  intro z5 t5 e5 l5 h5
  try have w5 : t5 = 0 := by omega
  refine And.intro (rfl) (And.intro (⟨by omega, by omega⟩) ?_)
  have hF := hF.pt (t := 2) (j := z5.toNat) (v := mask) (by decide) (by decide)
  intro z7 t7 e7 l7 h7
  try have w7 : t7 = 0 := by omega
  refine And.intro (rfl) (And.intro (⟨by omega, by omega⟩) ?_)
  intro v8 e8 l8 h8
  have e8 : v8 = (xput σ 2 z5.toNat mask) 2 z7.toNat := e8
  rw [xput_o (by omega), show z7.toNat = 229 + k.toNat from by omega] at e8
  intro z9 t9 e9 l9 h9
  try have w9 : t9 = 0 := by omega
  refine And.intro (rfl) (And.intro (⟨by omega, by omega⟩) ?_)
  have hF := hF.pt (t := 2) (j := z7.toNat) (v := z9) (by decide) (by decide)
  refine And.intro rfl (And.intro rfl ?_)
  exact hQ _ hF (by
      show xput (xput σ 2 z5.toNat mask) 2 z7.toNat z9 2 = _
      rw [xput_up, xput_up]
      unfold addsF
      rw [show z5.toNat = 235 + 52 * k.toNat + (σ 2 (229 + k.toNat)).toNat from by omega, show z7.toNat = 229 + k.toNat from by omega, show z9 = σ 2 (229 + k.toNat) + 1 from by omega])
set_option maxHeartbeats 4000000 in
set_option maxRecDepth 100000 in
theorem s_bitOfF {σ : xS} {set kk : Int} {Q : Option xV → xS → Prop} (hp0 : 0 ≤ set ∧ set < 65536) (hp1 : 0 ≤ kk ∧ kk ≤ 12) (hQ : ∀ r : Int, (r = bF set kk) → Q (some (xvi r)) σ) : xT kX11_bitOf [xvi set, xvi kk] σ Q := by
  refine ⟨Nat.le_of_ble_eq_true rfl, fun X hX => ?_⟩
  show X 0 [xvi set, xvi kk] σ
  refine hX 400 0 _ _ ?_
  intro z1 e1 l1 h1
  -- shr
  intro z2 e2 l2 h2
  have q2 := x1b z1; rw [← e2] at q2
  -- and
  refine And.intro (fun c3 => ?_) (fun c3 => ?_)
  · refine And.intro rfl ?_
    refine And.intro (by omega) ?_
    exact hQ _ (by have hb : z2 = bF set kk := xbit (by omega) (by omega) e1 e2; omega)
  · refine And.intro rfl ?_
    refine And.intro (by omega) ?_
    exact hQ _ (by have hb : z2 = bF set kk := xbit (by omega) (by omega) e1 e2; omega)
