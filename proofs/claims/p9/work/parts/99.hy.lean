/-! Games dealt by seeds. -/
def rlF (i j : Int) : Nat → Int := fun k => if k = 0 then i else j
theorem TV.to {f R : Nat → Int} (h : TV f) (h2 : 2 ≤ f 1) (h4 : ¬ f 4 = -1) (hr : ∃ r, BNT f (f 4).toNat (R (f 4).toNat) r) : TV (stA f R) ∧ ∀ i, i < 4 ∨ 571 ≤ i → stA f R i = f i := by
  obtain ⟨r, hr⟩ := hr
  obtain ⟨e, a, b, c⟩ := h.bok h2 h4 hr
  have m := h.1.1.1.2.1
  have ht : 0 ≤ f 4 ∧ f 4 < f 1 := by
    rcases h.2.2.2 with q | q
    · exact absurd q h4
    · exact ⟨q.1.1, q.1.2.1⟩
  rw [e] at a b c
  exact h.ask (a := (f 4).toNat) (b := (bto f R / 100).toNat) (kind := (bto f R % 100).toNat) (lies := 0) (by omega) (by omega) (by omega) (by omega) h4 c
/-- there is an answer -/
theorem LKd.ex {f : Nat → Int} {p : Nat} : ∀ n : Nat, (∃ j, j < n ∧ 0 < HH f p j) → (∀ j, j < n → 0 ≤ HH f p j) → n ≤ 13 → ∃ r, LKd f p r
  | 0, h, _, _ => by obtain ⟨j, hj, _⟩ := h; exact absurd hj (Nat.not_lt_zero _)
  | n + 1, h, hz, hn => by
    by_cases c : ∃ j, j < n ∧ 0 < HH f p j
    · exact LKd.ex n c (fun j hj => hz j (by omega)) (by omega)
    · obtain ⟨j, hj, h1⟩ := h
      have e : j = n := by
        by_cases x : j < n
        · exact absurd ⟨j, x, h1⟩ c
        · omega
      subst e
      exact ⟨(j : Int), by omega, by rw [show ((j : Nat) : Int).toNat = j from by omega]; exact h1, fun q hq => by
        have a := hz q (by omega)
        have b : ¬ 0 < HH f p q := fun z => c ⟨q, by omega, z⟩
        omega⟩
def ahB (f : Nat → Int) : Prop := AHD f 0
/-- asked so often -/
theorem akM_5 {f : Nat → Int} {a b kind : Nat} {lies : Int} (h : VX f) (ha : a < 6) (hb : b < 6) (hab : a ≠ b) (hd' : kind < 13) (hpa : (a : Int) < f 1) (h1 : 1 ≤ f (60 + 13 * a + kind)) (h6 : 0 ≤ f 6 ∧ f 6 < f 1) : akM f a b kind lies 5 = wr (f 5 + 1) := by
  obtain ⟨va, oa, _⟩ := h.ak ha hd' h1
  obtain ⟨vc, oc⟩ := h.ac ha
  have a1 := oa 1 (by omega)
  have a6 := oa 6 (by omega)
  have c5 : acF f a 5 = wr (f 5 + 1) := by unfold acF; rw [up_n (by omega), up_s]
  have a5 : ak1F f a kind 5 = wr (f 5 + 1) := by
    unfold ak1F
    by_cases c : f (151 + 13 * a + kind) = 0
    · rw [if_pos c, learnF_o ha (by omega) (vc.1.w a ha).2 (by omega) (by omega), c5]
    · rw [if_neg c, c5]
  unfold akM
  by_cases c : gvs f b kind lies
  · rw [if_pos c]
    have ab := oa (60 + 13 * b + kind) (by omega)
    obtain ⟨vg, og⟩ := va.gi ha hb hab hd' (by rw [a1]; exact hpa) (by rw [ab]; exact c.1)
    obtain ⟨_, ob⟩ := vg.books (k := a) (kind := kind) ha hd'
    rw [ob 5 (by omega), og 5 (by omega), a5]
  · rw [if_neg c]
    obtain ⟨vd, od, _⟩ := va.den (k := b) (kind := kind) hb hd'
    have d1 := od 1 (by omega)
    have d6 := od 6 (by omega)
    obtain ⟨_, on, _⟩ := vd.no (p := a) (kind := kind) ha (by omega) (by omega)
    rw [on 5 (by omega), od 5 (by omega), a5]
theorem dl0_c {f g : Nat → Int} (h : ∀ i, i < 4 ∨ 584 ≤ i → g i = f i) : dl0 g = dl0 f := by
  funext i
  unfold dl0
  rw [h 0 (by omega)]
  by_cases a : i < 4
  · rw [if_pos a, if_pos a]; exact h i (by omega)
  · rw [if_neg a, if_neg a]
    by_cases b : i < 571
    · rw [if_pos b, if_pos b]
    · rw [if_neg b, if_neg b]
      by_cases c : i < 584
      · rw [if_pos c, if_pos c]
      · rw [if_neg c, if_neg c]; exact h i (by omega)
theorem dlN_c {f g S : Nat → Int} {n : Int} (h : ∀ i, i < 4 ∨ 584 ≤ i → g i = f i) : ∀ i : Nat, dlN g S n i = dlN f S n i
  | 0 => dl0_c h
  | i + 1 => by rw [dlN_s, dlN_s, dlN_c h i, h 1 (by omega)]
theorem dealF_c {f g : Nat → Int} {n seed : Int} (h : ∀ i, i < 4 ∨ 584 ≤ i → g i = f i) : dealF g n seed = dealF f n seed := by
  unfold dealF dlF
  rw [h 0 (by omega), dlN_c h]
/-- what stands when the cards are dealt -/
theorem dealF_v {f : Nat → Int} {n seed : Int} (h0 : 1 ≤ f 0 ∧ f 0 ≤ 13) (h1 : 1 ≤ f 1 ∧ f 1 ≤ 6) (h3 : 0 ≤ f 3 ∧ f 3 ≤ 9) (hn : 1 ≤ n ∧ n ≤ 9) (h2 : f 2 = 0 ∨ f 2 = 1) : TV (dealF f n seed) ∧ (∀ i, i < 4 ∨ 584 ≤ i → dealF f n seed i = f i) ∧ dealF f n seed 5 = 0 ∧ PZ (dealF f n seed) := by
  have s := SHf_v (K := f 0) (seed := seed) h0.1
  obtain ⟨v1, v2, v3, _, _⟩ := dlN_v (f := f) (S := SHf (f 0) seed) (n := n) h0 h1 h3 hn s.1 (4 * f 0).toNat (by omega)
  obtain ⟨hV, h6⟩ := dlF_vs (f := f) (n := n) (seed := seed) h0 h1 h3 hn
  obtain ⟨a, b, c⟩ := hV.beg
  have e : ∀ i, i < 4 ∨ 584 ≤ i → dealF f n seed i = f i := fun i hi => (b i (by omega) (by omega)).trans (v2 i hi)
  have e1 := e 1 (by omega)
  have g6 : dealF f n seed 6 = 0 := (b 6 (by omega) (by omega)).trans h6
  refine ⟨⟨a, by rw [e 2 (by omega)]; exact h2, by omega, ?_⟩, e, (b 5 (by omega) (by omega)).trans (v3 5 (by omega)), fun q hq hq0 => ?_⟩
  · rcases c with c | c
    · exact Or.inl c
    · have d1 : dlF f n seed 1 = f 1 := v2 1 (by omega)
      exact Or.inr ⟨⟨c.1, by rw [e1]; have c2 : dealF f n seed 4 < dlF f n seed 1 := c.2.1; omega, c.2.2⟩, by omega⟩
  · rw [e 0 (by omega)] at hq0
    have y : dealF f n seed (571 + q) = dlF f n seed (571 + q) := b _ (by omega) (by omega)
    rw [y]
    have z := (v1.2.2.2.1 q hq).2.1
    rw [v2 0 (by omega), if_neg (by omega)] at z
    exact z

