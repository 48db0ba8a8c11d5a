/-! The game's steps as the reference's calls tell them. -/
def LO (f f' : Nat → Int) : Prop := ∀ i, (i < 60 ∨ 584 ≤ i) → i ≠ 2 → i ≠ 5 → f' i = f i
theorem LO.rf {f : Nat → Int} : LO f f := fun _ _ _ _ => rfl
theorem LO.tr {f g h : Nat → Int} (a : LO f g) (b : LO g h) : LO f h := fun i h1 h2 h3 => (b i h1 h2 h3).trans (a i h1 h2 h3)
theorem LO.ag {f f' : Nat → Int} (h : AG f f') : LO f f' := fun i h1 h2 h3 => h i (nir h2 h3 (by omega))
theorem AG.up {G f : Nat → Int} (h : AG G f) {i : Nat} {v : Int} : AG (up G i v) (up f i v) := fun j hj => by
  by_cases e : j = i
  · rw [e, up_s, up_s]
  · rw [up_n e, up_n e]; exact h j hj
theorem hdI (f : Nat → Int) {k kind : Int} (h1 : 0 ≤ k) (h2 : 0 ≤ kind) : f (60 + 13 * k + kind).toNat = hd f k.toNat kind.toNat := by
  unfold hd; rw [show (60 + 13 * k + kind).toNat = 60 + 13 * k.toNat + kind.toNat from by omega]
theorem knI' (f : Nat → Int) {k kind : Int} (h1 : 0 ≤ k) (h2 : 0 ≤ kind) : f (151 + 13 * k + kind).toNat = kn f k.toNat kind.toNat := by
  unfold kn; rw [show (151 + 13 * k + kind).toNat = 151 + 13 * k.toNat + kind.toNat from by omega]
theorem otI (f : Nat → Int) {k : Int} (h1 : 0 ≤ k) : f (229 + k).toNat = f (229 + k.toNat) := by
  rw [show (229 + k).toNat = 229 + k.toNat from by omega]
/-- one more is known -/
theorem V0.learn {f f' : Nat → Int} (h : V0 f) {k kind : Int} (h1 : 0 ≤ k ∧ k ≤ 5) (h2 : 0 ≤ kind ∧ kind ≤ 12) (hlt : kn f k.toNat kind.toNat < hd f k.toNat kind.toNat)
    (a : AG (up (up f (229 + k).toNat (f (229 + k).toNat - 1)) (151 + 13 * k + kind).toNat (f (151 + 13 * k + kind).toNat + 1)) f') : V0 f' ∧ kn f' k.toNat kind.toNat = kn f k.toNat kind.toNat + 1 ∧ LO f f' ∧ (∀ p j, p < 6 → j < 13 → hd f' p j = hd f p j) ∧ (∀ p j, p < 6 → j < 13 → ¬ (p = k.toNat ∧ j = kind.toNat) → kn f' p j = kn f p j) := by
  have e1 : (229 + k).toNat = 229 + k.toNat := by omega
  have e2 : (151 + 13 * k + kind).toNat = 151 + 13 * k.toNat + kind.toNat := by omega
  rw [e1, e2] at a
  have hn : kn f' k.toNat kind.toNat = kn f k.toNat kind.toNat + 1 := by
    unfold kn
    rw [a _ (nir (by omega) (by omega) (by omega)), up_s]
  have ho : f' (229 + k.toNat) = f (229 + k.toNat) - 1 := by rw [a _ (nir (by omega) (by omega) (by omega)), up_n (by omega), up_s]
  have hs : ∀ i, ¬ IR i → i ≠ 229 + k.toNat → i ≠ 151 + 13 * k.toNat + kind.toNat → f' i = f i := fun i hi a1 a2 => by rw [a i hi, up_n a2, up_n a1]
  have h0 := (h.2.2.1 k.toNat kind.toNat (by omega) (by omega)).1
  refine ⟨h.lk (d := 1) (by omega) (by omega) ho hn (by omega) (by omega) hs, hn, fun i a1 a2 a3 => hs i (nir a2 a3 (by omega)) (by omega) (by omega), fun p j hp hj => ?_, fun p j hp hj hne => ?_⟩
  · exact hs _ (nir (by omega) (by omega) (by omega)) (by omega) (by omega)
  · exact hs _ (nir (by omega) (by omega) (by omega)) (by omega) (by omega)
/-- a known one is one of the others again -/
theorem V0.forget {f f' : Nat → Int} (h : V0 f) {k kind : Int} (h1 : 0 ≤ k ∧ k ≤ 5) (h2 : 0 ≤ kind ∧ kind ≤ 12) (hlt : 1 ≤ kn f k.toNat kind.toNat)
    (a : AG (up (up f (229 + k).toNat (f (229 + k).toNat + 1)) (151 + 13 * k + kind).toNat (f (151 + 13 * k + kind).toNat - 1)) f') : V0 f' ∧ kn f' k.toNat kind.toNat = kn f k.toNat kind.toNat - 1 ∧ LO f f' ∧ (∀ p j, p < 6 → j < 13 → hd f' p j = hd f p j) ∧ (∀ p j, p < 6 → j < 13 → ¬ (p = k.toNat ∧ j = kind.toNat) → kn f' p j = kn f p j) := by
  have e1 : (229 + k).toNat = 229 + k.toNat := by omega
  have e2 : (151 + 13 * k + kind).toNat = 151 + 13 * k.toNat + kind.toNat := by omega
  rw [e1, e2] at a
  have hn : kn f' k.toNat kind.toNat = kn f k.toNat kind.toNat + -1 := by
    unfold kn
    rw [a _ (nir (by omega) (by omega) (by omega)), up_s]; omega
  have ho : f' (229 + k.toNat) = f (229 + k.toNat) - -1 := by rw [a _ (nir (by omega) (by omega) (by omega)), up_n (by omega), up_s]; omega
  have hs : ∀ i, ¬ IR i → i ≠ 229 + k.toNat → i ≠ 151 + 13 * k.toNat + kind.toNat → f' i = f i := fun i hi a1 a2 => by rw [a i hi, up_n a2, up_n a1]
  have h0 := h.2.2.1 k.toNat kind.toNat (by omega) (by omega)
  refine ⟨h.lk (d := -1) (by omega) (by omega) ho hn (by omega) (by omega) hs, by omega, fun i a1 a2 a3 => hs i (nir a2 a3 (by omega)) (by omega) (by omega), fun p j hp hj => ?_, fun p j hp hj hne => ?_⟩
  · exact hs _ (nir (by omega) (by omega) (by omega)) (by omega) (by omega)
  · exact hs _ (nir (by omega) (by omega) (by omega)) (by omega) (by omega)
theorem V0.book {f f' : Nat → Int} (h : V0 f) {k kind : Int} (h1 : 0 ≤ k ∧ k ≤ 5) (h2 : 0 ≤ kind ∧ kind ≤ 12) (h4 : hd f k.toNat kind.toNat = 4) (hk4 : kn f k.toNat kind.toNat = 4)
    (a : AG (up (up (up f (151 + 13 * k + kind).toNat 0) (60 + 13 * k + kind).toNat (f (60 + 13 * k + kind).toNat + -4)) (138 + kind).toNat (k + 1)) f') : V0 f' ∧ LO f f' := by
  have e1 : (138 + kind).toNat = 138 + kind.toNat := by omega
  have e2 : (151 + 13 * k + kind).toNat = 151 + 13 * k.toNat + kind.toNat := by omega
  have e3 : (60 + 13 * k + kind).toNat = 60 + 13 * k.toNat + kind.toNat := by omega
  rw [e1, e2, e3] at a
  have h4' : f (60 + 13 * k.toNat + kind.toNat) = 4 := h4
  have hn : kn f' k.toNat kind.toNat = 0 := by
    unfold kn
    rw [a _ (nir (by omega) (by omega) (by omega)), up_n (by omega), up_n (by omega), up_s]
  have hh : hd f' k.toNat kind.toNat = 0 := by
    unfold hd
    rw [a _ (nir (by omega) (by omega) (by omega)), up_n (by omega), up_s, h4']; rfl
  have hb : f' (138 + kind.toNat) = k.toNat + 1 := by rw [a _ (nir (by omega) (by omega) (by omega)), up_s]; omega
  have hs : ∀ i, ¬ IR i → i ≠ 60 + 13 * k.toNat + kind.toNat → i ≠ 151 + 13 * k.toNat + kind.toNat → i ≠ 138 + kind.toNat → f' i = f i := fun i hi a1 a2 a3 => by rw [a i hi, up_n a3, up_n a1, up_n a2]
  exact ⟨h.bk (by omega) (by omega) h4 hk4 hh hn hb hs, fun i a1 a2 a3 => hs i (nir a2 a3 (by omega)) (by omega) (by omega) (by omega)⟩
