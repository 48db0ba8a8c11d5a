/-! What each step of a Game of the class keeps. -/
/-- one person's number of one kind changes, and what is known of it -/
theorem CG.hand {σ σ' : xS} (h : CG σ) {p kind v : Int} (h1 : 0 ≤ p ∧ p ≤ 5) (h2 : 0 ≤ kind ∧ kind ≤ 12) (hR : CRx σ') (e2 : σ' 2 = up (σ 2) (13 * p + kind).toNat v) (e10 : ∀ j, j ≠ (13 * p + kind).toNat → σ' 10 j = σ 10 j) (hv : 0 ≤ v) (hw : 0 ≤ σ' 10 (13 * p + kind).toNat ∧ σ' 10 (13 * p + kind).toNat ≤ v + 1) (hS : CSx (σ' 2) (σ' 4) (σ' 0 8) (σ' 0 9)) (hz : 0 ≤ σ' 9 2 ∧ σ' 9 2 ≤ 52) : CG σ' := by
  refine ⟨hR, ⟨fun q j hq hj => ?_, hS⟩, fun q j hq hj => ?_, hz⟩
  · rw [e2]
    by_cases e : 13 * q + j = (13 * p + kind).toNat
    · rw [e, up_s]; exact hv
    · rw [up_n e]; exact h.2.1.1 q j hq hj
  · by_cases e : 13 * q + j = (13 * p + kind).toNat
    · rw [e, e2, up_s]; exact hw
    · rw [e10 _ e, e2, up_n e]; exact h.2.2.1 q j hq hj
theorem CRx.eq {σ σ' : xS} (h : CRx σ) (e0 : σ' 0 0 = σ 0 0) (e1 : σ' 0 1 = σ 0 1) (e4 : σ' 4 = σ 4) (e8 : σ' 0 8 = σ 0 8) (e9 : σ' 0 9 = σ 0 9) : CRx σ' := by
  unfold CRx
  rw [e0, e1, e4, e8, e9]; exact h
theorem CG.eq {σ σ' : xS} (h : CG σ) (e0 : σ' 0 0 = σ 0 0) (e1 : σ' 0 1 = σ 0 1) (e2 : σ' 2 = σ 2) (e4 : σ' 4 = σ 4) (e8 : σ' 0 8 = σ 0 8) (e9 : σ' 0 9 = σ 0 9) (e10 : σ' 10 = σ 10) (ez : 0 ≤ σ' 9 2 ∧ σ' 9 2 ≤ 52) : CG σ' := by
  refine ⟨h.1.eq e0 e1 e4 e8 e9, ?_, ?_, ez⟩
  · rw [e2, e4, e8, e9]; exact h.2.1
  · rw [e2, e10]; exact h.2.2.1
/-- nothing of what CG speaks of is in these cells and fields -/
theorem CG.fr {σ σ' : xS} {ts js : List Nat} (h : CG σ) (hF : Fr ts js σ σ') (a2 : 2 ∉ ts) (a4 : 4 ∉ ts) (a9 : 9 ∉ ts) (a10 : 10 ∉ ts) (b0 : 0 ∉ js) (b1 : 1 ∉ js) (b8 : 8 ∉ js) (b9 : 9 ∉ js) : CG σ' :=
  h.eq (hF.2 0 b0) (hF.2 1 b1) (hF.1 2 (by decide) a2) (hF.1 4 (by decide) a4) (hF.2 8 b8) (hF.2 9 b9) (hF.1 10 (by decide) a10) (by rw [hF.1 9 (by decide) a9]; exact h.2.2.2)
theorem CSx_up {hs h : Nat → Int} {a b v : Int} (hS : CSx hs h a b) {p kind : Int} (h1 : 0 ≤ p ∧ p ≤ 5) (h2 : 0 ≤ kind ∧ kind ≤ 12) (hv : v ≤ hs (13 * p + kind).toNat) : CSx (up hs (13 * p + kind).toNat v) h a b := fun k hk => by
  rw [ixk h1 h2] at hv ⊢
  rw [gsf_up (by omega) (by omega) hk]
  have := hS k hk
  split <;> omega
/-- the heap's first card comes to a hand -/
theorem CSx.draw {hs h : Nat → Int} {a b : Int} (hS : CSx hs h a b) {p c v : Int} (h1 : 0 ≤ p ∧ p ≤ 5) (h2 : 0 ≤ c ∧ c ≤ 12) (h0 : 0 ≤ a) (hab : a < b) (hb : b ≤ 52) (hc : h a.toNat = c) (hv : v = hs (13 * p + c).toNat + 1) : CSx (up hs (13 * p + c).toNat v) h (a + 1) b := fun k hk => by
  rw [ixk h1 h2] at hv ⊢
  rw [gsf_up (by omega) (by omega) hk]
  have z := hS k hk
  unfold gsf at z ⊢
  rw [gcf_s h0 hab hb, hc] at z
  by_cases e : k = c.toNat
  · rw [if_pos e]
    rw [if_pos (by omega)] at z
    subst e
    omega
  · rw [if_neg e]
    rw [if_neg (by omega)] at z
    omega
def C0x (σ : xS) : Prop := CRx σ ∧ CHx (σ 2) ∧ CSx (σ 2) (σ 4) (σ 0 8) (σ 0 9)
theorem C0x.fr {σ σ' : xS} {ts js : List Nat} (h : C0x σ) (hF : Fr ts js σ σ') (a2 : 2 ∉ ts) (a4 : 4 ∉ ts) (b0 : 0 ∉ js) (b1 : 1 ∉ js) (b8 : 8 ∉ js) (b9 : 9 ∉ js) : C0x σ' := by
  refine ⟨h.1.eq (hF.2 0 b0) (hF.2 1 b1) (hF.1 4 (by decide) a4) (hF.2 8 b8) (hF.2 9 b9), ?_⟩
  rw [hF.1 2 (by decide) a2, hF.1 4 (by decide) a4, hF.2 8 b8, hF.2 9 b9]; exact h.2
theorem C0x.cg {σ : xS} (h : C0x σ) (hz : 0 ≤ σ 9 2 ∧ σ 9 2 ≤ 52) (h10 : ∀ i : Nat, i < 78 → σ 10 i = 0) : CG σ := ⟨h.1, h.2, fun p k hp hk => by rw [h10 _ (by omega)]; have := h.2.1 p k hp hk; omega, hz⟩
