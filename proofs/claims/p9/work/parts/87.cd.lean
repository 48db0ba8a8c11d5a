/-! What a Game of the class keeps. -/
def gh (σ : xS) (p k : Nat) : Int := σ 2 (13 * p + k)
def gu (σ : xS) (p k : Nat) : Int := σ 10 (13 * p + k)
/-- cards of a kind in the heap -/
def gcf (h : Nat → Int) (a b : Int) (k : Nat) : Int := sm 52 (fun i => if a ≤ (i : Int) ∧ (i : Int) < b ∧ h i = (k : Int) then 1 else 0)
def gsf (hs h : Nat → Int) (a b : Int) (k : Nat) : Int := sm 6 (fun p => hs (13 * p + k)) + gcf h a b k
def CRx (σ : xS) : Prop := (0 ≤ σ 0 0 ∧ σ 0 0 ≤ 13) ∧ (0 ≤ σ 0 1 ∧ σ 0 1 ≤ 6) ∧ (0 ≤ σ 0 8 ∧ σ 0 8 ≤ σ 0 9 ∧ σ 0 9 ≤ 52) ∧ (∀ i : Nat, (i : Int) < σ 0 9 → 0 ≤ σ 4 i ∧ σ 4 i ≤ 12)
def CHx (hs : Nat → Int) : Prop := ∀ p k, p < 6 → k < 13 → 0 ≤ hs (13 * p + k)
def CSx (hs h : Nat → Int) (a b : Int) : Prop := ∀ k, k < 13 → gsf hs h a b k ≤ 4
def CUx (hs us : Nat → Int) : Prop := ∀ p k, p < 6 → k < 13 → 0 ≤ us (13 * p + k) ∧ us (13 * p + k) ≤ hs (13 * p + k) + 1
def CG (σ : xS) : Prop := CRx σ ∧ (CHx (σ 2) ∧ CSx (σ 2) (σ 4) (σ 0 8) (σ 0 9)) ∧ CUx (σ 2) (σ 10) ∧ (0 ≤ σ 9 2 ∧ σ 9 2 ≤ 52)
theorem gcf_nn {h : Nat → Int} {a b : Int} {k : Nat} : 0 ≤ gcf h a b k := sm_nn (fun i _ => by split <;> omega)
theorem CHx.h4 {hs h : Nat → Int} {a b : Int} (h1 : CHx hs) (h2 : CSx hs h a b) {p k : Nat} (hp : p < 6) (hk : k < 13) : 0 ≤ hs (13 * p + k) ∧ hs (13 * p + k) ≤ 4 := by
  have x := h2 k hk
  have y := gcf_nn (h := h) (a := a) (b := b) (k := k)
  have z := sm_ge (n := 6) (g := fun p => hs (13 * p + k)) (fun i hi => h1 i k hi hk) hp
  have w := h1 p k hp hk
  unfold gsf at x
  omega
theorem ixk {p kind : Int} (h1 : 0 ≤ p ∧ p ≤ 5) (h2 : 0 ≤ kind ∧ kind ≤ 12) : (13 * p + kind).toNat = 13 * p.toNat + kind.toNat := by omega
theorem CG.hI {σ : xS} (h : CG σ) {p kind : Int} (h1 : 0 ≤ p ∧ p ≤ 5) (h2 : 0 ≤ kind ∧ kind ≤ 12) : 0 ≤ σ 2 (13 * p + kind).toNat ∧ σ 2 (13 * p + kind).toNat ≤ 4 := by
  rw [ixk h1 h2]; exact h.2.1.1.h4 h.2.1.2 (by omega) (by omega)
theorem CG.uI {σ : xS} (h : CG σ) {p kind : Int} (h1 : 0 ≤ p ∧ p ≤ 5) (h2 : 0 ≤ kind ∧ kind ≤ 12) : 0 ≤ σ 10 (13 * p + kind).toNat ∧ σ 10 (13 * p + kind).toNat ≤ σ 2 (13 * p + kind).toNat + 1 := by
  rw [ixk h1 h2]; exact h.2.2.1 _ _ (by omega) (by omega)
/-- a hand's number changes -/
theorem gsf_up {hs h : Nat → Int} {a b v : Int} {p k j : Nat} (hp : p < 6) (hk : k < 13) (hj : j < 13) : gsf (up hs (13 * p + k) v) h a b j = gsf hs h a b j + (if j = k then v - hs (13 * p + k) else 0) := by
  unfold gsf
  by_cases e : j = k
  · subst e
    rw [if_pos rfl, sm_upd (n := 6) (g := fun q => hs (13 * q + j)) (g' := fun q => up hs (13 * p + j) v (13 * q + j)) hp (fun q hq hne => up_n (by omega))]
    try dsimp only
    rw [up_s]
    omega
  · rw [if_neg e, sm_congr (n := 6) (g := fun q => up hs (13 * p + k) v (13 * q + j)) (g' := fun q => hs (13 * q + j)) (fun q hq => up_n (by omega))]
    omega
/-- the first card of the heap is taken -/
theorem gcf_s {h : Nat → Int} {a b : Int} {k : Nat} (h0 : 0 ≤ a) (h1 : a < b) (h2 : b ≤ 52) : gcf h a b k = gcf h (a + 1) b k + (if h a.toNat = (k : Int) then 1 else 0) := by
  have e := sm_upd (n := 52) (g := fun i : Nat => if a + 1 ≤ (i : Int) ∧ (i : Int) < b ∧ h i = (k : Int) then (1 : Int) else 0) (g' := fun i : Nat => if a ≤ (i : Int) ∧ (i : Int) < b ∧ h i = (k : Int) then (1 : Int) else 0) (j := a.toNat) (by omega) (fun i hi hne => by
    by_cases c : a ≤ (i : Int)
    · by_cases d : (i : Int) < b ∧ h i = (k : Int)
      · rw [if_pos ⟨c, d⟩, if_pos ⟨by omega, d⟩]
      · rw [if_neg (fun h => d h.2), if_neg (fun h => d h.2)]
    · rw [if_neg (fun h => c h.1), if_neg (fun h => by have := h.1; omega)])
  unfold gcf
  rw [e, if_neg (fun h => by have := h.1; omega)]
  by_cases d : h a.toNat = (k : Int)
  · rw [if_pos d, if_pos ⟨by omega, by omega, d⟩]; omega
  · rw [if_neg d, if_neg (fun h => d h.2.2)]; omega
/-- a card is laid behind the heap -/
theorem gcf_add {h h' : Nat → Int} {a b : Int} {k : Nat} (h0 : 0 ≤ a ∧ a ≤ b) (h2 : b < 52) (hs : ∀ i, i ≠ b.toNat → h' i = h i) : gcf h' a (b + 1) k = gcf h a b k + (if h' b.toNat = (k : Int) then 1 else 0) := by
  have e := sm_upd (n := 52) (g := fun i : Nat => if a ≤ (i : Int) ∧ (i : Int) < b ∧ h i = (k : Int) then (1 : Int) else 0) (g' := fun i : Nat => if a ≤ (i : Int) ∧ (i : Int) < b + 1 ∧ h' i = (k : Int) then (1 : Int) else 0) (j := b.toNat) (by omega) (fun i hi hne => by
    rw [hs i hne]
    by_cases c : (i : Int) < b
    · by_cases d : a ≤ (i : Int) ∧ h i = (k : Int)
      · rw [if_pos ⟨d.1, by omega, d.2⟩, if_pos ⟨d.1, c, d.2⟩]
      · rw [if_neg (fun h => d ⟨h.1, h.2.2⟩), if_neg (fun h => d ⟨h.1, h.2.2⟩)]
    · rw [if_neg (fun h => by have := h.2.1; omega), if_neg (fun h => c h.2.1)])
  unfold gcf
  rw [e, if_neg (fun h => by have := h.2.1; omega)]
  by_cases d : h' b.toNat = (k : Int)
  · rw [if_pos d, if_pos ⟨by omega, by omega, d⟩]; omega
  · rw [if_neg d, if_neg (fun h => d h.2.2)]; omega
theorem gcf_z {h : Nat → Int} {a b : Int} {k : Nat} (h0 : b ≤ a) : gcf h a b k = 0 := sm_z (fun i _ => by rw [if_neg (fun h => by have := h.1; have := h.2.1; omega)])
