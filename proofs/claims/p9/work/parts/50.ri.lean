/-! What a table's or a deal's first rows are; what the invariant keeps where the game goes on. -/
theorem V0.ag8 {f f' : Nat → Int} (h : V0 f) (a : ∀ i, i < 584 → ¬ IR i → f' i = f i) : V0 f' := by
  have h1 : V0 (fun i => if i < 584 then f' i else f i) := h.ag (fun i hi => by
    by_cases e : i < 584
    · simp only [e, if_true]; exact a i e hi
    · simp only [e, if_false])
  obtain ⟨hm, hh, hk, ho, hb, hd'⟩ := h1
  have e' : ∀ i, i < 584 → (fun i => if i < 584 then f' i else f i) i = f' i := fun i hi => by simp only [hi, if_true]
  generalize (fun i => if i < 584 then f' i else f i) = g at *
  have eH : ∀ p k, p < 6 → k < 13 → hd f' p k = hd g p k := fun p k hp hk => (e' _ (by omega)).symm
  have eK : ∀ p k, p < 6 → k < 13 → kn f' p k = kn g p k := fun p k hp hk => (e' _ (by omega)).symm
  refine ⟨?_, ?_, ?_, ?_, ?_, ?_⟩
  · unfold VM; rw [← e' 0 (by omega), ← e' 1 (by omega), ← e' 3 (by omega), ← e' 7 (by omega)]; exact hm
  · intro i hi
    rw [← e' 7 (by omega)] at hi
    rw [← e' 0 (by omega), ← e' (8 + i) (by have := hm.2.2.2.2; omega)]
    exact hh i hi
  · intro p k hp hk'
    rw [eH p k hp hk', eK p k hp hk', ← e' 0 (by omega), ← e' 1 (by omega)]
    exact hk p k hp hk'
  · intro p hp
    rw [← e' (229 + p) (by omega), sm_congr (fun i hi => eK p i hp hi), sm_congr (fun i hi => eH p i hp hi)]
    exact ho p hp
  · intro k hk'
    rw [← e' (138 + k) (by omega), ← e' (571 + k) (by omega), ← e' 7 (by omega), sm_congr (n := 6) (g := fun p => hd f' p k) (g' := fun p => hd g p k) (fun i hi => eH i k hi hk'), ct_congr (f := g) (f' := f') (fun i hi => (e' (8 + i) (by have := hm.2.2.2.2; omega)).symm)]
    exact hb k hk'
  · intro p hp
    rw [← e' (565 + p) (by omega)]
    exact hd' p hp
theorem VG.ag8 {f f' : Nat → Int} (h : VG f) (a : ∀ i, i < 584 → ¬ IR i → f' i = f i) : VG f' := by
  obtain ⟨h0, h1, h2⟩ := VG_iff.mp h
  have e1 : f' 1 = f 1 := a 1 (by omega) (nir (by decide) (by decide) (by omega))
  have e4 : f' 4 = f 4 := a 4 (by omega) (nir (by decide) (by decide) (by omega))
  have e6 : f' 6 = f 6 := a 6 (by omega) (nir (by decide) (by decide) (by omega))
  refine VG_iff.mpr ⟨h0.ag8 a, ?_, ?_⟩
  · unfold VTn; rw [e1, e4, e6]; exact h1
  · intro hn
    rw [e4] at hn ⊢
    have h3 := h2 hn
    have h4 := h1.1
    have h5 := h0.1.2.1
    rw [sm_congr (g := hd f' (f 4).toNat) (g' := hd f (f 4).toNat) (fun i hi => a _ (by omega) (nir (by omega) (by omega) (by omega)))]
    exact h3
theorem CO.eq {f f' : Nat → Int} (h : CO f) (a : ∀ i, 584 ≤ i → f' i = f i) : CO f' := by
  obtain ⟨h1, d, h2, h3⟩ := h
  refine ⟨by rw [a 584 (by omega)]; exact h1, d, h2, fun i hi => ?_⟩
  rw [a 584 (by omega)] at hi
  rw [a _ (by omega), a _ (by omega)]
  exact h3 i hi
theorem blk_ag {s s' u : Nat → Int} {j : Nat} (a : ∀ i, i < 4 → i ≠ 2 → s' i = s i) : ∀ i, i < 584 → ¬ IR i → blk s' u j i = blk s u j i := fun i h1 h2 => by
  unfold blk
  split
  · exact a i (by omega) (fun e => h2 (Or.inl e))
  · rfl
theorem RI.g {σ σ' : xS} (h : RI σ) (hG : VG (σ' 2)) (hL : LPx (σ 2) (σ' 2)) (h8 : σ' 8 = σ 8) (h25 : σ' 25 = σ 25) (h27 : σ' 27 = σ 27) (a : σ' 0 2 = σ 0 2) (b : σ' 0 27 = σ 0 27) (c : σ' 0 37 = σ 0 37) : RI σ' := by
  obtain ⟨g1, g2, g3, g4, g5, g6, g7⟩ := h
  refine ⟨hG, g2.eq (fun i hi => hL i (by omega) (by omega)), by rw [a]; exact g3, by rw [b]; exact g4, fun j hj => ?_, by rw [c]; exact g6, by rw [h25, h27]; exact g7⟩
  rw [b] at hj
  rw [h8]
  exact (g5 j hj).ag8 (blk_ag (fun i h1 h2 => hL i (by omega) h2))
theorem RK.g {σ0 σ σ' : xS} (h : RK σ0 σ) {ts js : List Nat} (hF : Fr ts js σ σ') (hG : VG (σ' 2)) (hL : LPx (σ 2) (σ' 2)) (t8 : 8 ∉ ts) (t25 : 25 ∉ ts) (t27 : 27 ∉ ts) (a : 2 ∉ js) (b : 27 ∉ js) (c : 37 ∉ js) (t1 : 1 ∉ ts := by decide) (t6 : 6 ∉ ts := by decide) (t5 : 5 ∉ ts := by decide) : RK σ0 σ' :=
  h.tr ⟨h.1.g hG hL (hF.1 8 (by decide) t8) (hF.1 25 (by decide) t25) (hF.1 27 (by decide) t27) (hF.2 2 a) (hF.2 27 b) (hF.2 37 c), hF.2 2 a, hF.1 27 (by decide) t27, hF.1 1 (by decide) t1, hF.1 6 (by decide) t6, hF.1 5 (by decide) t5⟩
/-- hands and heap are right; of j persons the others are counted, nothing is known -/
def VS (j : Int) (f : Nat → Int) : Prop := VM f ∧ VH f ∧ VK f ∧ VB f ∧ VD f ∧ (∀ p k, p < 6 → k < 13 → kn f p k = 0) ∧ ∀ p : Nat, p < 6 → f (229 + p) = if (p : Int) < j then sm 13 (hd f p) else 0
theorem VS.hand {j : Int} {f : Nat → Int} (h : VS j f) {p k : Nat} (hp : p < 6) (hk : k < 13) : 0 ≤ hd f p k ∧ hd f p k ≤ 4 := by
  obtain ⟨hm, hh, hkk, hb, hd', hz, ho⟩ := h
  have h2 := (hb k hk).2
  have h3 := (hb k hk).1
  have h0 : ∀ i, i < 6 → 0 ≤ (fun p => hd f p k) i := fun i hi => by have := hkk i k hi hk; dsimp only; omega
  have h4 := sm_ge (n := 6) (g := fun p => hd f p k) h0 hp
  have h5 : 0 ≤ ct f (f 7).toNat k := sm_nn (fun i _ => by split <;> omega)
  have h6 := hkk p k hp hk
  split at h2 <;> omega
theorem VS.v0 {f : Nat → Int} {j : Int} (h : VS j f) (hj : j = f 1) : V0 f := by
  obtain ⟨hm, hh, hk, hb, hd', hz, ho⟩ := h
  refine ⟨hm, hh, hk, fun p hp => ?_, hb, hd'⟩
  have e : sm 13 (kn f p) = 0 := by
    rw [sm_congr (g := kn f p) (g' := fun _ => 0) (fun i hi => hz p i hp hi), sm_const]; rfl
  rw [ho p hp, e]
  by_cases c : (p : Int) < j
  · rw [if_pos c]; omega
  · rw [if_neg c, sm_congr (g := hd f p) (g' := fun _ => 0) (fun i hi => (hk p i hp hi).2.2 (Or.inl (by omega))), sm_const]; rfl
theorem VS.ag {f f' : Nat → Int} {j : Int} (h : VS j f) {k : Nat} {v : Int} (hk6 : k < 6) (a : AG (up f (229 + k) v) f') (hv : v = if (k : Int) < j + 1 then sm 13 (hd f k) else 0) (hjk : j = k) : VS (j + 1) f' := by
  obtain ⟨hm, hh, hk, hb, hd', hz, ho⟩ := h
  have s' : ∀ i, ¬ i = 2 → ¬ i = 5 → (i < 229 ∨ 565 ≤ i) → f' i = f i := fun i a1 a2 a3 => by rw [a i (nir a1 a2 (by omega)), up_n (by omega)]
  have e0 : f' 0 = f 0 := s' 0 (by decide) (by decide) (by omega)
  have e1 : f' 1 = f 1 := s' 1 (by decide) (by decide) (by omega)
  have e3 : f' 3 = f 3 := s' 3 (by decide) (by decide) (by omega)
  have e7 : f' 7 = f 7 := s' 7 (by decide) (by decide) (by omega)
  have eH : ∀ p k, p < 6 → k < 13 → hd f' p k = hd f p k := fun p k hp hk => s' _ (by omega) (by omega) (by omega)
  have eK : ∀ p k, p < 6 → k < 13 → kn f' p k = kn f p k := fun p k hp hk => s' _ (by omega) (by omega) (by omega)
  refine ⟨?_, ?_, ?_, ?_, ?_, ?_, ?_⟩
  · unfold VM; rw [e0, e1, e3, e7]; exact hm
  · intro i hi
    rw [e7] at hi
    rw [e0, s' (8 + i) (by omega) (by omega) (by have := hm.2.2.2.2; omega)]
    exact hh i hi
  · intro p k hp hk'
    rw [eH p k hp hk', eK p k hp hk', e0, e1]
    exact hk p k hp hk'
  · intro k hk'
    rw [s' (138 + k) (by omega) (by omega) (by omega), s' (571 + k) (by omega) (by omega) (by omega), e7, sm_congr (n := 6) (g := fun p => hd f' p k) (g' := fun p => hd f p k) (fun i hi => eH i k hi hk'), ct_congr (fun i hi => s' (8 + i) (by omega) (by omega) (by have := hm.2.2.2.2; omega))]
    exact hb k hk'
  · intro p hp
    rw [s' (565 + p) (by omega) (by omega) (by omega)]
    exact hd' p hp
  · intro p k hp hk'
    rw [eK p k hp hk']; exact hz p k hp hk'
  · intro p hp
    rw [sm_congr (g := hd f' p) (g' := hd f p) (fun i hi => eH p i hp hi), a _ (nir (by omega) (by omega) (by omega))]
    by_cases e : p = k
    · subst e; rw [up_s]; exact hv
    · rw [up_n (by omega), ho p hp]
      by_cases c : (p : Int) < j
      · rw [if_pos c, if_pos (by omega)]
      · rw [if_neg c, if_neg (by omega)]
theorem AGx_up2 {f g h : Nat → Int} {a : Nat} {x y z : Int} (h1 : AG (up f a x) g) (h2 : AG (up g a y) h) (e : y = z) : AG (up f a z) h := fun i hi => by
  rw [h2 i hi]
  by_cases e2 : i = a
  · rw [e2, up_s, up_s, e]
  · rw [up_n e2, up_n e2, h1 i hi, up_n e2]
theorem AGx_upid {f : Nat → Int} {a : Nat} {x : Int} (h : f a = x) : AG (up f a x) f := fun i _ => by
  by_cases e : i = a
  · rw [e, up_s, h]
  · rw [up_n e]
