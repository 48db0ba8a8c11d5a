theorem GL.restore {w : Nat → Bool} {σ σ' ς ς' : xS} {k r : Int} (h : GL w σ ς) (hkp : ∀ k : Nat, k < 2 → (¬ ς 27 k = 0 ↔ w (9 + k) = true)) (c : reF w σ k σ' (fun q => ς 25 (765 * k.toNat + q))) (h39 : 0 ≤ σ' 39 1 ∧ σ' 39 1 ≤ 7) (fr : Fr [2, 5] [0, 27] ς ς') (x : (((0 ≤ k ∧ k ≤ 1) ∧ ¬ ς 27 k.toNat = 0) ∧ r = 1 ∧ (∀ q : Nat, q < 765 → ς' 2 q = ς 25 (765 * k.toNat + q)) ∧ (∀ q : Nat, q < 6 → ς' 5 q = ς 26 (6 * k.toNat + q)) ∧ ς' 0 27 = 0) ∨ (¬ ((0 ≤ k ∧ k ≤ 1) ∧ ¬ ς 27 k.toNat = 0) ∧ r = 0 ∧ ς' 2 = ς 2 ∧ ς' 5 = ς 5 ∧ ς' 0 27 = ς 0 27)) : GL w σ' ς' := by
  have e7 : ς' 7 = ς 7 := fr.1 7 (by decide) (by decide)
  have e8 : ς' 8 = ς 8 := fr.1 8 (by decide) (by decide)
  have e25 : ς' 25 = ς 25 := fr.1 25 (by decide) (by decide)
  have e26 : ς' 26 = ς 26 := fr.1 26 (by decide) (by decide)
  have e27 : ς' 27 = ς 27 := fr.1 27 (by decide) (by decide)
  have e24 : ς' 0 24 = ς 0 24 := fr.2 24 (by decide)
  rcases c with ⟨k1, k2, g1, g2, _, g4, g5⟩ | ⟨k1, g1⟩
  · rcases x with ⟨x1, x2, x3, x4, x5⟩ | ⟨x1, _⟩
    · obtain ⟨_, b, d, l⟩ := h
      obtain ⟨d1, d2, d3⟩ := d k.toNat (by omega) x1.2
      have er : ∀ q, q < 584 → ς' 2 q = (fun q => ς 25 (765 * k.toNat + q)) q := fun q hq => x3 q (by omega)
      have z1 : 0 ≤ ς 25 (765 * k.toNat + 1) ∧ ς 25 (765 * k.toNat + 1) ≤ 6 := d2.1.1.1.1.2.1
      refine ⟨⟨g1.c5 er, d2.c5 er, ?_⟩, ?_, ?_, ?_⟩
      · rw [x3 1 (by omega)]
        exact d3.cg (fun q hq => g2 q (by omega)) (fun q hq => x4 q (by omega))
      · rw [x5]
        exact PASTL.z g4 h39
      · rw [e25, e26, e27]
        exact d.same (fun t h1 _ => g5 t (by omega) (by omega) (by omega) (by omega))
      · rw [e24, e7]
        unfold LATL
        rw [g5 43 (by omega) (by omega) (by omega) (by omega)]; exact l
    · exact absurd ⟨by omega, (hkp k.toNat (by omega)).mpr k2⟩ x1
  · rcases x with ⟨x1, _⟩ | ⟨_, _, x3, x4, x5⟩
    · exact absurd ⟨by omega, (hkp k.toNat (by omega)).mp x1.2⟩ k1
    · exact (h.cls (STW.all g1)).rr (fun i _ => congrFun x3 i) (fun q _ => congrFun x4 q) e7 e8 e25 e26 e27 e24 x5

