/-! An asking. -/
def LPx (f f' : Nat → Int) : Prop := ∀ i, (i < 4 ∨ 584 ≤ i) → i ≠ 2 → f' i = f i
theorem LPx.rf {f : Nat → Int} : LPx f f := fun _ _ _ => rfl
theorem LPx.tr {f g h : Nat → Int} (a : LPx f g) (b : LPx g h) : LPx f h := fun i h1 h2 => (b i h1 h2).trans (a i h1 h2)
theorem LO.p {f g : Nat → Int} (a : LO f g) : LPx f g := fun i h1 h2 => a i (by omega) h2 (by omega)
theorem LQ.p {f g : Nat → Int} (a : LQ f g) : LPx f g := fun i h1 h2 => a i (by omega) h2 (by omega)
theorem L4.p {f g : Nat → Int} (a : L4 f g) : LPx f g := fun i h1 h2 => a i (by omega) h2 (by omega) (by omega)
def HEx (f f' : Nat → Int) : Prop := ∀ p j, p < 6 → j < 13 → hd f' p j = hd f p j
theorem HEx.rf {f : Nat → Int} : HEx f f := fun _ _ _ _ => rfl
theorem HEx.tr {f g h : Nat → Int} (a : HEx f g) (b : HEx g h) : HEx f h := fun p j hp hj => (b p j hp hj).trans (a p j hp hj)
theorem HEx.ag {f g : Nat → Int} (a : AG f g) : HEx f g := fun p j hp hj => a _ (nir (by omega) (by omega) (by omega))
theorem V0.o51k {f : Nat → Int} (h : V0 f) {p k : Nat} (hp : p < 6) (hk : k < 13) (h1 : 1 ≤ kn f p k) : 0 ≤ f (229 + p) ∧ f (229 + p) ≤ 51 := by
  have a := h.2.2.2.1 p hp
  have b := h.others hp
  have c := sm_le (n := 13) (g := hd f p) (g' := fun _ => 4) (fun i hi => (h.hand hp hi).2)
  rw [sm_const] at c
  have d := sm_ge (n := 13) (g := kn f p) (fun i hi => (h.2.2.1 p i hp hi).1) hk
  omega
theorem V0.give {f f' : Nat → Int} (h : V0 f) {a b kind g m : Int} (ha : 0 ≤ a ∧ a ≤ 5) (hb : 0 ≤ b ∧ b ≤ 5) (hab : ¬ a = b) (hk : 0 ≤ kind ∧ kind ≤ 12) (hpa : a < f 1) (hg : hd f b.toNat kind.toNat = g) (hg0 : 0 < g) (hkb : kn f b.toNat kind.toNat = g) (hm : m = -g)
    (hA : AG (up (up (up (up (up f (151 + 13 * b + kind).toNat 0) (60 + 13 * b + kind).toNat (f (60 + 13 * b + kind).toNat + m)) (60 + 13 * a + kind).toNat (f (60 + 13 * a + kind).toNat + g)) (151 + 13 * a + kind).toNat (f (151 + 13 * a + kind).toNat + g)) 6 0) f') : V0 f' ∧ LPx f f' ∧ f' 6 = 0 := by
  have e1 : (151 + 13 * b + kind).toNat = 151 + 13 * b.toNat + kind.toNat := by omega
  have e2 : (60 + 13 * b + kind).toNat = 60 + 13 * b.toNat + kind.toNat := by omega
  have e3 : (60 + 13 * a + kind).toNat = 60 + 13 * a.toNat + kind.toNat := by omega
  have e4 : (151 + 13 * a + kind).toNat = 151 + 13 * a.toNat + kind.toNat := by omega
  rw [e1, e2, e3, e4] at hA
  have hg' : f (60 + 13 * b.toNat + kind.toNat) = g := hg
  have hne : a.toNat ≠ b.toNat := by omega
  have V : V0 (up (up (up (up f (151 + 13 * b.toNat + kind.toNat) 0) (60 + 13 * b.toNat + kind.toNat) (f (60 + 13 * b.toNat + kind.toNat) + m)) (60 + 13 * a.toNat + kind.toNat) (f (60 + 13 * a.toNat + kind.toNat) + g)) (151 + 13 * a.toNat + kind.toNat) (f (151 + 13 * a.toNat + kind.toNat) + g)) := by
    refine h.gv (a := a.toNat) (b := b.toNat) (k := kind.toNat) (by omega) (by omega) hne (by omega) (by omega) (by omega) (by omega) ?_ ?_ ?_ ?_ (fun i hi a1 a2 a3 a4 => ?_)
    · unfold hd; rw [up_n (by omega), up_n (by omega), up_s]; omega
    · unfold kn; rw [up_n (by omega), up_n (by omega), up_n (by omega), up_s]
    · unfold hd; rw [up_n (by omega), up_s]; omega
    · unfold kn; rw [up_s]; unfold hd at hg ⊢; omega
    · rw [up_n a3, up_n a1, up_n a2, up_n a4]
  refine ⟨V.t4 (fun i hi h4 h6 => ?_), fun i h1 h2 => ?_, ?_⟩
  · rw [hA i hi, up_n h6]
  · rw [hA i (nir h2 (by omega) (by omega)), up_n (by omega), up_n (by omega), up_n (by omega), up_n (by omega), up_n (by omega)]
  · rw [hA 6 (nir (by omega) (by omega) (by omega)), up_s]
theorem V0.v6 {f f' : Nat → Int} (h : V0 f) {v : Int} (a : AG (up f 6 v) f') : V0 f' ∧ f' 6 = v ∧ LPx f f' ∧ f' 7 = f 7 := ⟨h.t4 (fun i hi h4 h6 => by rw [a i hi, up_n h6]), (by rw [a 6 (nir (by omega) (by omega) (by omega)), up_s]), (fun i h1 h2 => by rw [a i (nir h2 (by omega) (by omega)), up_n (by omega)]), by rw [a 7 (nir (by omega) (by omega) (by omega)), up_n (by omega)]⟩
