/-! The class's search for an other: the first of all, the first that fits. -/
def ANY (h : Nat → Int) (n p i any : Int) : Prop := (any = -1 ∧ ∀ j : Nat, i < j → (j : Int) < n → ¬ ow (h j) = p) ∨ ((i < any ∧ any < n ∧ 0 ≤ any) ∧ ow (h any.toNat) = p ∧ ∀ j : Nat, i < j → (j : Int) < any → ¬ ow (h j) = p)
def FIT (h : Nat → Int) (n p k i fit : Int) : Prop := (fit = -1 ∧ ∀ j : Nat, i < j → (j : Int) < n → ow (h j) = p → ¬ bF (h j) k = 0) ∨ ((i < fit ∧ fit < n ∧ 0 ≤ fit) ∧ ow (h fit.toNat) = p ∧ bF (h fit.toNat) k = 0 ∧ ∀ j : Nat, i < j → (j : Int) < fit → ow (h j) = p → ¬ bF (h j) k = 0)
theorem ANY.z {h : Nat → Int} {n p i : Int} (hi : i = n - 1) : ANY h n p i (-1) := Or.inl ⟨rfl, fun j h1 h2 => by omega⟩
theorem FIT.z {h : Nat → Int} {n p k i : Int} (hi : i = n - 1) : FIT h n p k i (-1) := Or.inl ⟨rfl, fun j h1 h2 => by omega⟩
theorem ANY.miss {h : Nat → Int} {n p i i' any : Int} (H : ANY h n p i any) (h0 : 0 ≤ i) (hi : i' = i - 1) (hm : ¬ ow (h i.toNat) = p) : ANY h n p i' any := by
  subst hi
  rcases H with ⟨a, b⟩ | ⟨a, c, b⟩
  · refine Or.inl ⟨a, fun j h1 h2 => ?_⟩
    by_cases e : (j : Int) = i
    · rw [show j = i.toNat from by omega]; exact hm
    · exact b j (by omega) h2
  · refine Or.inr ⟨by omega, c, fun j h1 h2 => ?_⟩
    by_cases e : (j : Int) = i
    · rw [show j = i.toNat from by omega]; exact hm
    · exact b j (by omega) h2
theorem ANY.hit {h : Nat → Int} {n p i i' : Int} (h0 : 0 ≤ i) (hn : i < n) (hi : i' = i - 1) (hm : ow (h i.toNat) = p) : ANY h n p i' i := Or.inr ⟨by omega, hm, fun j h1 h2 => by omega⟩
theorem FIT.miss {h : Nat → Int} {n p k i i' fit : Int} (H : FIT h n p k i fit) (h0 : 0 ≤ i) (hi : i' = i - 1) (hm : ow (h i.toNat) = p → ¬ bF (h i.toNat) k = 0) : FIT h n p k i' fit := by
  subst hi
  rcases H with ⟨a, b⟩ | ⟨a, c, d, b⟩
  · refine Or.inl ⟨a, fun j h1 h2 => ?_⟩
    by_cases e : (j : Int) = i
    · rw [show j = i.toNat from by omega]; exact hm
    · exact b j (by omega) h2
  · refine Or.inr ⟨by omega, c, d, fun j h1 h2 => ?_⟩
    by_cases e : (j : Int) = i
    · rw [show j = i.toNat from by omega]; exact hm
    · exact b j (by omega) h2
theorem FIT.hit {h : Nat → Int} {n p k i i' : Int} (h0 : 0 ≤ i) (hn : i < n) (hi : i' = i - 1) (hm : ow (h i.toNat) = p) (hb : bF (h i.toNat) k = 0) : FIT h n p k i' i := Or.inr ⟨by omega, hm, hb, fun j h1 h2 => by omega⟩
/-- which other it is: the first that fits, or none fits and the first of all -/
def WHX (h : Nat → Int) (n p k : Int) (c c' : Nat → Int) (q : Nat) : Prop := (q : Int) < n ∧ ow (h q) = p ∧ ((bF (h q) k = 0 ∧ (∀ j : Nat, j < q → ow (h j) = p → ¬ bF (h j) k = 0) ∧ c' = c) ∨ ((∀ j : Nat, (j : Int) < n → ow (h j) = p → ¬ bF (h j) k = 0) ∧ (∀ j : Nat, j < q → ¬ ow (h j) = p) ∧ c' = up c p.toNat (wr (c p.toNat + 1))))
/-- what reveal does -/
def RVX (σ σ' : xS) (p kind : Int) : Prop := (((∀ j : Nat, (j : Int) < σ 9 2 → ¬ ow (σ 11 j) = p) ∧ σ' 9 2 = σ 9 2 ∧ σ' 10 = σ 10 ∧ σ' 11 = σ 11 ∧ σ' 12 = σ 12) ∨ ∃ q : Nat, WHX (σ 11) (σ 9 2) p kind (σ 12) (σ' 12) q ∧ σ' 9 2 = σ 9 2 - 1 ∧ σ' 10 = up (σ 10) (13 * p + kind).toNat (σ 10 (13 * p + kind).toNat + 1) ∧ ∀ j : Nat, (j : Int) < σ 9 2 - 1 → σ' 11 j = cut (σ 11) q j)
set_option maxHeartbeats 4000000 in
set_option maxRecDepth 100000 in
theorem sX3_addOtherF {σ : xS} {p : Int} {Q : Option xV → xS → Prop} (hp0 : 0 ≤ p ∧ p ≤ 5) (hp1 : 0 ≤ σ 9 2 ∧ σ 9 2 ≤ 51) (hQ : ∀ σ' : xS, Fr [9, 11] [] σ σ' → (σ' 9 2 = σ 9 2 + 1 ∧ σ' 11 = up (σ 11) (σ 9 2).toNat (8192 * p)) → Q none σ') : xT kX3_addOther [xvr 9, xvi p] σ Q := by
  refine ⟨Nat.le_of_ble_eq_true rfl, fun X hX => ?_⟩
  show X 0 [xvr 9, xvi p] σ
  have hF : Fr [9, 11] [] σ σ := Fr.rf
  refine hX 400 0 _ _ ?_
  intro v1 e1 l1 h1
  have e1 : v1 = σ 9 2 := e1
  refine And.intro (fun c2 => ?_) (fun c2 => ?_)
  · refine hX 400 32 _ _ ?_
    refine And.intro rfl (And.intro rfl ?_)
    exfalso; omega
  · intro v3 e3 l3 h3
    have e3 : v3 = σ 9 2 := e3
    intro z4 e4 l4 h4
    refine And.intro (rfl) (And.intro (⟨by omega, by omega⟩) ?_)
    have hF := hF.pt (t := 11) (j := v3.toNat) (v := z4) (by decide) (by decide)
    intro v6 e6 l6 h6
    have e6 : v6 = σ 9 2 := e6
    intro z7 t7 e7 l7 h7
    try have w7 : t7 = 0 := by omega
    have hF := hF.pt (t := 9) (j := 2) (v := z7) (by decide) (by decide)
    refine hX 400 32 _ _ ?_
    refine And.intro rfl (And.intro rfl ?_)
    exact hQ _ hF ⟨(show z7 = σ 9 2 + 1 from by omega), (by show xput σ 11 v3.toNat z4 11 = _; rw [xput_up, show v3.toNat = (σ 9 2).toNat from by omega, xshl13 (by omega) e4])⟩
