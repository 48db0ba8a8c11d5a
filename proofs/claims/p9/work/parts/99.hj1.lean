theorem VX.akm {f : Nat → Int} {a b kind : Nat} {lies : Int} (h : VX f) (ha : a < 6) (hb : b < 6) (hab : a ≠ b) (hd' : kind < 13) (hpa : (a : Int) < f 1) (h1 : 1 ≤ f (60 + 13 * a + kind)) (h6 : 0 ≤ f 6 ∧ f 6 < f 1) : VX (akM f a b kind lies) ∧ (∀ i, i < 5 ∨ 571 ≤ i → akM f a b kind lies i = f i) ∧ (0 ≤ akM f a b kind lies 6 ∧ akM f a b kind lies 6 ≤ f 1) ∧ (0 ≤ akN f a b kind lies ∧ akN f a b kind lies < f 1) := by
  obtain ⟨va, oa, _⟩ := h.ak ha hd' h1
  have a1 := oa 1 (by omega)
  have a6 := oa 6 (by omega)
  unfold akM akN
  by_cases c : gvs f b kind lies
  · rw [if_pos c, if_pos c]
    have ab := oa (60 + 13 * b + kind) (by omega)
    obtain ⟨vg, og⟩ := va.gi ha hb hab hd' (by rw [a1]; exact hpa) (by rw [ab]; exact c.1)
    obtain ⟨vb, ob⟩ := vg.books (k := a) (kind := kind) ha hd'
    refine ⟨vb, fun i hi => (ob i (by omega)).trans ((og i (by omega)).trans (oa i (by omega))), ?_, by omega⟩
    rw [ob 6 (by omega)]
    unfold gvI gvF
    rw [up_s]
    omega
  · rw [if_neg c, if_neg c]
    obtain ⟨vd, od, _⟩ := va.den (k := b) (kind := kind) hb hd'
    have d1 := od 1 (by omega)
    have d6 := od 6 (by omega)
    obtain ⟨vn, on, o6⟩ := vd.no (p := a) (kind := kind) ha (by omega) (by omega)
    have r := noN_r (f := denF (ak1F f a kind) b kind) (p := a) (kind := kind) (by omega)
    exact ⟨vn, fun i hi => (on i (by omega)).trans ((od i (by omega)).trans (oa i (by omega))), by omega, by omega⟩
/-- the turn goes on -/
theorem VX.fin {f : Nat → Int} {p : Int} (h : VX f) (hp : 0 ≤ p ∧ p < f 1) : VX (finF f p) ∧ (∀ i, (i < 7 ∨ 571 ≤ i) → i ≠ 4 → finF f p i = f i) ∧ ((finF f p 4 = -1) ∨ (0 ≤ finF f p 4 ∧ finF f p 4 < f 1 ∧ 0 < cd (finF f p) (finF f p 4).toNat ∧ ¬ f 6 = f 1)) := by
  unfold finF
  by_cases c : f 6 = f 1
  · rw [if_pos c]
    exact ⟨h.t (Or.inl rfl), fun i _ h4 => up_n h4, Or.inl up_s⟩
  · rw [if_neg c]
    obtain ⟨a, b, d⟩ := h.st hp
    exact ⟨a, b, d.imp id (fun z => ⟨z.1, z.2.1, z.2.2, c⟩)⟩

