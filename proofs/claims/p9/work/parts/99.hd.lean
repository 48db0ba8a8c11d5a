/-! The class's game (cells 0 .. 12) against the reference's row f: where each number of f stands. -/
def mp (i : Nat) : Option (Nat × Nat × Int) :=
  if i < 4 then some (0, i, 0) else if i = 4 then none else if i < 7 then some (0, i + 10, 0) else if i < 60 then none else if i < 138 then some (2, i - 60, 0) else if i < 151 then some (5, i - 138, -1) else if i < 229 then some (10, i - 151, 0) else if i < 547 then none else if i < 553 then some (12, i - 547, 0) else if i < 559 then some (6, i - 553, 0) else if i < 565 then some (7, i - 559, 0) else if i < 571 then some (8, i - 565, -1) else none
/-- numbers -/
def GM (σ : xS) (f : Nat → Int) : Prop := ∀ i t j c, mp i = some (t, j, c) → σ t j = f i + c
theorem mp_e {i t j : Nat} {c : Int} (h : mp i = some (t, j, c)) : (0 ≤ i ∧ i < 4 ∧ t = 0 ∧ j = i ∧ c = 0) ∨ (5 ≤ i ∧ i < 7 ∧ t = 0 ∧ j = i + 10 ∧ c = 0) ∨ (60 ≤ i ∧ i < 138 ∧ t = 2 ∧ j = i - 60 ∧ c = 0) ∨ (138 ≤ i ∧ i < 151 ∧ t = 5 ∧ j = i - 138 ∧ c = -1) ∨ (151 ≤ i ∧ i < 229 ∧ t = 10 ∧ j = i - 151 ∧ c = 0) ∨ (547 ≤ i ∧ i < 553 ∧ t = 12 ∧ j = i - 547 ∧ c = 0) ∨ (553 ≤ i ∧ i < 559 ∧ t = 6 ∧ j = i - 553 ∧ c = 0) ∨ (559 ≤ i ∧ i < 565 ∧ t = 7 ∧ j = i - 559 ∧ c = 0) ∨ (565 ≤ i ∧ i < 571 ∧ t = 8 ∧ j = i - 565 ∧ c = -1) := by
  unfold mp at h
  by_cases c0 : i < 4
  · rw [if_pos c0] at h; have e := Option.some.inj h; have e1 := (Prod.mk.inj e).1; have e2 := (Prod.mk.inj (Prod.mk.inj e).2).1; have e3 := (Prod.mk.inj (Prod.mk.inj e).2).2; exact Or.inl ⟨by omega, c0, e1.symm, e2.symm, e3.symm⟩
  rw [if_neg c0] at h
  by_cases c1 : i = 4
  · rw [if_pos c1] at h; cases h
  rw [if_neg c1] at h
  by_cases c2 : i < 7
  · rw [if_pos c2] at h; have e := Option.some.inj h; have e1 := (Prod.mk.inj e).1; have e2 := (Prod.mk.inj (Prod.mk.inj e).2).1; have e3 := (Prod.mk.inj (Prod.mk.inj e).2).2; exact Or.inr (Or.inl ⟨by omega, c2, e1.symm, e2.symm, e3.symm⟩)
  rw [if_neg c2] at h
  by_cases c3 : i < 60
  · rw [if_pos c3] at h; cases h
  rw [if_neg c3] at h
  by_cases c4 : i < 138
  · rw [if_pos c4] at h; have e := Option.some.inj h; have e1 := (Prod.mk.inj e).1; have e2 := (Prod.mk.inj (Prod.mk.inj e).2).1; have e3 := (Prod.mk.inj (Prod.mk.inj e).2).2; exact Or.inr (Or.inr (Or.inl ⟨by omega, c4, e1.symm, e2.symm, e3.symm⟩))
  rw [if_neg c4] at h
  by_cases c5 : i < 151
  · rw [if_pos c5] at h; have e := Option.some.inj h; have e1 := (Prod.mk.inj e).1; have e2 := (Prod.mk.inj (Prod.mk.inj e).2).1; have e3 := (Prod.mk.inj (Prod.mk.inj e).2).2; exact Or.inr (Or.inr (Or.inr (Or.inl ⟨by omega, c5, e1.symm, e2.symm, e3.symm⟩)))
  rw [if_neg c5] at h
  by_cases c6 : i < 229
  · rw [if_pos c6] at h; have e := Option.some.inj h; have e1 := (Prod.mk.inj e).1; have e2 := (Prod.mk.inj (Prod.mk.inj e).2).1; have e3 := (Prod.mk.inj (Prod.mk.inj e).2).2; exact Or.inr (Or.inr (Or.inr (Or.inr (Or.inl ⟨by omega, c6, e1.symm, e2.symm, e3.symm⟩))))
  rw [if_neg c6] at h
  by_cases c7 : i < 547
  · rw [if_pos c7] at h; cases h
  rw [if_neg c7] at h
  by_cases c8 : i < 553
  · rw [if_pos c8] at h; have e := Option.some.inj h; have e1 := (Prod.mk.inj e).1; have e2 := (Prod.mk.inj (Prod.mk.inj e).2).1; have e3 := (Prod.mk.inj (Prod.mk.inj e).2).2; exact Or.inr (Or.inr (Or.inr (Or.inr (Or.inr (Or.inl ⟨by omega, c8, e1.symm, e2.symm, e3.symm⟩)))))
  rw [if_neg c8] at h
  by_cases c9 : i < 559
  · rw [if_pos c9] at h; have e := Option.some.inj h; have e1 := (Prod.mk.inj e).1; have e2 := (Prod.mk.inj (Prod.mk.inj e).2).1; have e3 := (Prod.mk.inj (Prod.mk.inj e).2).2; exact Or.inr (Or.inr (Or.inr (Or.inr (Or.inr (Or.inr (Or.inl ⟨by omega, c9, e1.symm, e2.symm, e3.symm⟩))))))
  rw [if_neg c9] at h
  by_cases c10 : i < 565
  · rw [if_pos c10] at h; have e := Option.some.inj h; have e1 := (Prod.mk.inj e).1; have e2 := (Prod.mk.inj (Prod.mk.inj e).2).1; have e3 := (Prod.mk.inj (Prod.mk.inj e).2).2; exact Or.inr (Or.inr (Or.inr (Or.inr (Or.inr (Or.inr (Or.inr (Or.inl ⟨by omega, c10, e1.symm, e2.symm, e3.symm⟩)))))))
  rw [if_neg c10] at h
  by_cases c11 : i < 571
  · rw [if_pos c11] at h; have e := Option.some.inj h; have e1 := (Prod.mk.inj e).1; have e2 := (Prod.mk.inj (Prod.mk.inj e).2).1; have e3 := (Prod.mk.inj (Prod.mk.inj e).2).2; exact Or.inr (Or.inr (Or.inr (Or.inr (Or.inr (Or.inr (Or.inr (Or.inr (⟨by omega, c11, e1.symm, e2.symm, e3.symm⟩))))))))
  rw [if_neg c11] at h
  cases h
theorem mp_inj {i i' t j : Nat} {c c' : Int} (h : mp i = some (t, j, c)) (h' : mp i' = some (t, j, c')) : i = i' := by
  have a := mp_e h
  have b := mp_e h'
  clear h h'
  rcases a with a | a | a | a | a | a | a | a | a <;> rcases b with b | b | b | b | b | b | b | b | b <;> omega
theorem GM.up {σ : xS} {f : Nat → Int} {i t j : Nat} {c v w : Int} (H : GM σ f) (h : mp i = some (t, j, c)) (hw : w = v + c) : GM (xput σ t j w) (up f i v) := by
  intro i' t' j' c' h'
  by_cases e : i' = i
  · subst e
    have z := h.symm.trans h'
    cases z
    rw [xput_s, up_s, hw]
  · rw [up_n e]
    have ne : ¬ (t' = t ∧ j' = j) := fun z => by
      obtain ⟨rfl, rfl⟩ := z
      exact e (mp_inj h' h)
    unfold xput
    by_cases e1 : t' = t
    · rw [if_pos e1, if_neg (fun z => ne ⟨e1, z⟩)]; exact H _ _ _ _ h'
    · rw [if_neg e1]; exact H _ _ _ _ h'
/-- the cells that the numbers stand in -/
theorem mp_c {i t j : Nat} {c : Int} (h : mp i = some (t, j, c)) : (t = 0 ∧ (j < 4 ∨ (15 ≤ j ∧ j < 17))) ∨ (t = 2 ∧ j < 78) ∨ (t = 5 ∧ j < 13) ∨ (t = 10 ∧ j < 78) ∨ ((t = 12 ∨ t = 6 ∨ t = 7 ∨ t = 8) ∧ j < 6) := by
  have a := mp_e h
  clear h
  rcases a with a | a | a | a | a | a | a | a | a <;> omega
theorem mp_i {i t j : Nat} {c : Int} (h : mp i = some (t, j, c)) : i < 4 ∨ (5 ≤ i ∧ i < 7) ∨ (60 ≤ i ∧ i < 229) ∨ (547 ≤ i ∧ i < 571) := by
  have a := mp_e h
  clear h
  rcases a with a | a | a | a | a | a | a | a | a <;> omega
theorem GM.of {σ σ' : xS} {f : Nat → Int} (H : GM σ f) (h0 : ∀ j, j < 4 ∨ (15 ≤ j ∧ j < 17) → σ' 0 j = σ 0 j) (h2 : ∀ j, j < 78 → σ' 2 j = σ 2 j) (h5 : ∀ j, j < 13 → σ' 5 j = σ 5 j) (hA : ∀ j, j < 78 → σ' 10 j = σ 10 j) (hC : ∀ j, j < 6 → σ' 12 j = σ 12 j) (h6 : ∀ j, j < 6 → σ' 6 j = σ 6 j) (h7 : ∀ j, j < 6 → σ' 7 j = σ 7 j) (h8 : ∀ j, j < 6 → σ' 8 j = σ 8 j) : GM σ' f := by
  intro i t j c h
  rw [← H i t j c h]
  rcases mp_c h with ⟨rfl, e⟩ | ⟨rfl, e⟩ | ⟨rfl, e⟩ | ⟨rfl, e⟩ | ⟨rfl | rfl | rfl | rfl, e⟩
  · exact h0 j e
  · exact h2 j e
  · exact h5 j e
  · exact hA j e
  · exact hC j e
  · exact h6 j e
  · exact h7 j e
  · exact h8 j e
theorem GM.fr {σ σ' : xS} {f : Nat → Int} {ts js : List Nat} (H : GM σ f) (hF : Fr ts js σ σ') (t2 : 2 ∉ ts := by decide) (t5 : 5 ∉ ts := by decide) (t10 : 10 ∉ ts := by decide) (t12 : 12 ∉ ts := by decide) (t6 : 6 ∉ ts := by decide) (t7 : 7 ∉ ts := by decide) (t8 : 8 ∉ ts := by decide) (hj : ∀ j ∈ js, ¬ (j < 4 ∨ (15 ≤ j ∧ j < 17)) := by decide) : GM σ' f :=
  H.of (fun j h => hF.2 j (fun z => hj j z h)) (fun j _ => by rw [hF.1 2 (by decide) t2]) (fun j _ => by rw [hF.1 5 (by decide) t5]) (fun j _ => by rw [hF.1 10 (by decide) t10]) (fun j _ => by rw [hF.1 12 (by decide) t12]) (fun j _ => by rw [hF.1 6 (by decide) t6]) (fun j _ => by rw [hF.1 7 (by decide) t7]) (fun j _ => by rw [hF.1 8 (by decide) t8])
theorem GM.ag {σ : xS} {f f' : Nat → Int} (H : GM σ f) (h : ∀ i, i < 4 ∨ (5 ≤ i ∧ i < 7) ∨ (60 ≤ i ∧ i < 229) ∨ (547 ≤ i ∧ i < 571) → f' i = f i) : GM σ f' := fun i t j c e => by
  rw [H i t j c e, h i (mp_i e)]
/-- cards in each hand -/
def GC (σ : xS) (f : Nat → Int) : Prop := ∀ p : Nat, p < 6 → σ 3 p = sm 13 (hd f p)
theorem GC.of {σ σ' : xS} {f f' : Nat → Int} (H : GC σ f) (h3 : ∀ j, j < 6 → σ' 3 j = σ 3 j) (hf : ∀ i, 60 ≤ i → i < 138 → f' i = f i) : GC σ' f' := fun p hp => by
  rw [h3 p hp, H p hp]
  exact sm_congr (fun i hi => (hf (60 + 13 * p + i) (by omega) (by omega)).symm)
theorem GC.up {σ σ' : xS} {f f' : Nat → Int} {p k : Nat} {n : Int} (H : GC σ f) (hp : p < 6) (hk : k < 13) (h3 : σ' 3 p = σ 3 p + n) (ho : ∀ q, q < 6 → q ≠ p → σ' 3 q = σ 3 q) (hf : f' (60 + 13 * p + k) = f (60 + 13 * p + k) + n) (hfo : ∀ i, 60 ≤ i → i < 138 → i ≠ 60 + 13 * p + k → f' i = f i) : GC σ' f' := fun q hq => by
  by_cases e : q = p
  · subst e
    rw [h3, H q hq, sm_upd (g := hd f q) (g' := hd f' q) hk (fun i hi hne => hfo _ (by omega) (by omega) (by omega))]
    show _ = sm 13 (hd f q) - f (60 + 13 * q + k) + f' (60 + 13 * q + k)
    rw [hf]; omega
  · rw [ho q hq e, H q hq]
    exact sm_congr (fun i hi => (hfo (60 + 13 * q + i) (by omega) (by omega) (by omega)).symm)
/-- the heap: from heapFrom on -/
def GH (σ : xS) (f : Nat → Int) : Prop := (0 ≤ σ 0 8 ∧ σ 0 9 - σ 0 8 = f 7) ∧ ∀ i : Nat, (i : Int) < f 7 → σ 4 ((σ 0 8).toNat + i) = f (8 + i)
theorem GH.of {σ σ' : xS} {f f' : Nat → Int} (H : GH σ f) (h8 : σ' 0 8 = σ 0 8) (h9 : σ' 0 9 = σ 0 9) (h4 : σ' 4 = σ 4) (h52 : f 7 ≤ 52) (hf : ∀ i, 7 ≤ i → i < 60 → f' i = f i) : GH σ' f' := by
  obtain ⟨⟨a, b⟩, c⟩ := H
  have e7 := hf 7 (by decide) (by decide)
  unfold GH
  rw [h8, h9, h4, e7]
  exact ⟨⟨a, b⟩, fun i hi => by rw [hf (8 + i) (by omega) (by omega)]; exact c i hi⟩
/-- the first card goes -/
theorem GH.pop {σ σ' : xS} {f f' : Nat → Int} (H : GH σ f) (h1 : 1 ≤ f 7) (h8 : σ' 0 8 = σ 0 8 + 1) (h9 : σ' 0 9 = σ 0 9) (h4 : σ' 4 = σ 4) (e7 : f' 7 = f 7 - 1) (hf : ∀ i : Nat, (i : Int) < f 7 - 1 → f' (8 + i) = f (8 + i + 1)) : GH σ' f' := by
  obtain ⟨⟨a, b⟩, c⟩ := H
  unfold GH
  rw [h8, h9, h4, e7]
  refine ⟨by omega, fun i hi => ?_⟩
  rw [hf i hi, show (σ 0 8 + 1).toNat + i = (σ 0 8).toNat + (i + 1) from by omega, c (i + 1) (by omega)]
  rfl
/-- the class's game is the reference's -/
def HX (σ : xS) : Prop := σ 0 9 ≤ 52 ∧ ∀ i : Nat, (i : Int) < σ 0 9 → 0 ≤ σ 4 i ∧ σ 4 i ≤ 12
theorem HX.of {σ σ' : xS} (h : HX σ) (e9 : σ' 0 9 = σ 0 9) (e4 : σ' 4 = σ 4) : HX σ' := by
  unfold HX
  rw [e9, e4]
  exact h
def GR (σ : xS) (f : Nat → Int) : Prop := GM σ f ∧ GC σ f ∧ (GH σ f ∧ f 7 ≤ 52) ∧ (OTR (σ 11) (σ 9 2) f ∧ σ 9 2 ≤ 52) ∧ HX σ
theorem OTR.w {h f : Nat → Int} {n : Int} (H : OTR h n f) (hn : n ≤ 52) : ∀ q : Nat, q < 6 → 0 ≤ f (229 + q) ∧ f (229 + q) ≤ 52 := fun q hq => by
  have z := rk_nn (h := h) (p := q) n.toNat
  rw [H.2.1 q hq] at z
  have := H.1
  omega
theorem GR.w {σ : xS} {f : Nat → Int} (H : GR σ f) : ∀ q : Nat, q < 6 → 0 ≤ f (229 + q) ∧ f (229 + q) ≤ 52 := H.2.2.2.1.1.w H.2.2.2.1.2
theorem OTR.c {h h' : Nat → Int} {n : Int} {f f' : Nat → Int} (H : OTR h n f) (e : ∀ i : Nat, (i : Int) < n → h' i = h i) (hf : ∀ i, 229 ≤ i → i < 547 → f' i = f i) (h52 : ∀ q : Nat, q < 6 → f (229 + q) ≤ 52) : OTR h' n f' := by
  obtain ⟨h0, h1, h2⟩ := H
  have hc : ∀ (q : Int) (i : Nat), (i : Int) ≤ n → rk h' q i = rk h q i := fun q i hi => rk_c i (fun j hj => e j (by omega))
  refine ⟨h0, fun q hq => by rw [hc q _ (by omega), h1 q hq, hf _ (by omega) (by omega)], fun i hi => ?_⟩
  obtain ⟨q, hq, a, b⟩ := h2 i hi
  have r2 := (rk_nn (h := h) (p := q) i).1
  have r3 := h52 q hq
  have r4 := rk_lt (h := h) (p := q) (i := i) (j := n.toNat) (by omega) a
  rw [h1 q hq] at r4
  exact ⟨q, hq, by rw [e i hi]; exact a, by rw [e i hi, hc q i (by omega), b, hf _ (by omega) (by omega)]⟩
/-- the first other of k that fits -/
def ffx (f : Nat → Int) (k : Nat) (kind : Int) : Nat → Nat → Nat
  | 0, r => r
  | d + 1, r => if bF (f (235 + 52 * k + r)) kind = 0 then r else ffx f k kind d (r + 1)
theorem ffx_hit {f : Nat → Int} {k : Nat} {kind : Int} {q : Nat} : ∀ (d r : Nat), r ≤ q → q < r + d → (∀ j, r ≤ j → j < q → ¬ bF (f (235 + 52 * k + j)) kind = 0) → bF (f (235 + 52 * k + q)) kind = 0 → ffx f k kind d r = q
  | 0, r, h1, h2, _, _ => by omega
  | d + 1, r, h1, h2, h3, h4 => by
    unfold ffx
    by_cases e : r = q
    · subst e; rw [if_pos h4]
    · rw [if_neg (h3 r (Nat.le_refl r) (by omega))]
      exact ffx_hit d (r + 1) (by omega) (by omega) (fun j a b => h3 j (by omega) b) h4
theorem ffx_no {f : Nat → Int} {k : Nat} {kind : Int} : ∀ (d r : Nat), (∀ j, r ≤ j → j < r + d → ¬ bF (f (235 + 52 * k + j)) kind = 0) → ffx f k kind d r = r + d
  | 0, r, _ => rfl
  | d + 1, r, h => by
    unfold ffx
    rw [if_neg (h r (Nat.le_refl r) (by omega)), ffx_no d (r + 1) (fun j a b => h j (by omega) (by omega))]
    omega
/-- one card more is known -/
def learnF (f : Nat → Int) (k : Nat) (kind : Int) : Nat → Int :=
  if f (229 + k) = 0 then f
  else if ffx f k kind (f (229 + k)).toNat 0 = (f (229 + k)).toNat then up (up (takesF f k 0) (547 + k) (wr (f (547 + k) + 1))) (151 + 13 * k + kind.toNat) (f (151 + 13 * k + kind.toNat) + 1)
  else up (takesF f k (ffx f k kind (f (229 + k)).toNat 0)) (151 + 13 * k + kind.toNat) (f (151 + 13 * k + kind.toNat) + 1)
theorem mp_kn {j : Nat} (h : j < 78) : mp (151 + j) = some (10, j, 0) := by
  unfold mp
  repeat (first | rw [if_pos (by omega)] | rw [if_neg (by omega)])
  rw [show 151 + j - 151 = j from by omega]
theorem mp_ca {j : Nat} (h : j < 6) : mp (547 + j) = some (12, j, 0) := by
  unfold mp
  repeat (first | rw [if_pos (by omega)] | rw [if_neg (by omega)])
  rw [show 547 + j - 547 = j from by omega]
theorem takesF_far {f : Nat → Int} {k i j : Nat} (hk : k < 6) (h52 : f (229 + k) ≤ 52) (h : j < 229 ∨ 547 ≤ j) : takesF f k i j = f j := by
  unfold takesF
  rw [if_neg (by omega), if_neg (by omega)]
