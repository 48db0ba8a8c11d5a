theorem EEND_cg {nm nm' : Nat → Int} {ps kd : Int} {b b' : Nat → Int} {n : Int} (h : ALx b b' n) (hn : ∀ q : Nat, q < ps.toNat → nm q = nm' q) {m : Int} {s : EVx} {x : Sum (Int × Int) EVx} (a : EEND nm ps kd b n m s x) : EEND nm' ps kd b' n m s x := by
  obtain ⟨i, t, a1, a2⟩ := a
  refine ⟨i, t, EVN_cg h hn m s i t a1, ?_⟩
  rw [← (tkc_cg h m t.p).1, ← est_cg h hn]
  exact a2
/-- rows that were read: persons and kinds as they must be -/
def ERW (ps kd : Int) (s : EVx) : Prop := (0 ≤ s.l ∧ s.l ≤ 30) ∧ ∀ k : Nat, (k : Int) < s.l → (0 ≤ s.rd (4 * k) ∧ s.rd (4 * k) < ps) ∧ (0 ≤ s.rd (4 * k + 1) ∧ s.rd (4 * k + 1) < ps) ∧ (0 ≤ s.rd (4 * k + 2) ∧ s.rd (4 * k + 2) < kd) ∧ 0 ≤ s.rd (4 * k + 3) ∧ s.rd (4 * k + 3) ≤ 4
theorem ERW.l {nm : Nat → Int} {ps kd : Int} {b : Nat → Int} {n m : Int} {s t : EVx} (hs : ERW ps kd s) (h0 : 0 ≤ ps) (h : evl nm ps kd b n m s = .inr t) : ERW ps kd (evx 0 (t.l + 1) t.rd) := by
  obtain ⟨a0, a1, a, b', k, g, e, ⟨x1, x2⟩, ⟨y1, y2⟩, hk, hg⟩ := evl_r h
  obtain ⟨⟨l0, l1⟩, hr⟩ := hs
  have fa := fnd_r nm (tkw b n m s.p) ps.toNat
  have fb := fnd_r nm (tkw b n m (tkp b n m (tkp b n m s.p))) ps.toNat
  rw [← x2] at fa
  rw [← y2] at fb
  refine ⟨⟨(show 0 ≤ t.l + 1 by omega), (show t.l + 1 ≤ 30 by omega)⟩, fun q hq => ?_⟩
  have hq : (q : Int) < t.l + 1 := hq
  show (0 ≤ t.rd (4 * q) ∧ t.rd (4 * q) < ps) ∧ (0 ≤ t.rd (4 * q + 1) ∧ t.rd (4 * q + 1) < ps) ∧ (0 ≤ t.rd (4 * q + 2) ∧ t.rd (4 * q + 2) < kd) ∧ 0 ≤ t.rd (4 * q + 3) ∧ t.rd (4 * q + 3) ≤ 4
  rw [e]
  by_cases c : (q : Int) < s.l
  · rw [ev4_lo l0 (by omega), ev4_lo l0 (by omega), ev4_lo l0 (by omega), ev4_lo l0 (by omega)]
    exact hr q c
  · obtain ⟨e1, e2, e3, e4⟩ := ev4_at (rd := s.rd) (a := a) (b := b') (k := k) (g := g) l0
    rw [show 4 * q = (4 * s.l).toNat by omega, show (4 * s.l).toNat + 1 = (4 * s.l + 1).toNat by omega, show (4 * s.l).toNat + 2 = (4 * s.l + 2).toNat by omega, show (4 * s.l).toNat + 3 = (4 * s.l + 3).toNat by omega, e1, e2, e3, e4]
    refine ⟨by omega, by omega, by omega, by omega⟩
theorem ERW.s {nm : Nat → Int} {ps kd : Int} {b : Nat → Int} {n m : Int} {s t : EVx} (hs : ERW ps kd s) (h0 : 0 ≤ ps) (h : est nm ps kd b n m s = .inr t) : ERW ps kd t := by
  cases e : evl nm ps kd b n m s with
  | inl x => rw [est_l e] at h; cases h
  | inr u =>
    by_cases c : tkc b n m u.p = 59
    · rw [est_1 e c] at h
      have z := Sum.inr.inj h
      subst z
      exact hs.l h0 e
    · rw [est_0 e c] at h; cases h
theorem ERW.n {nm : Nat → Int} {ps kd : Int} {b : Nat → Int} {n m : Int} {s : EVx} (hs : ERW ps kd s) (h0 : 0 ≤ ps) : ∀ (i : Nat) (t : EVx), EVN nm ps kd b n m i s t → ERW ps kd t
  | 0, t, h => by
    have h : t = s := h
    rw [h]; exact hs
  | i + 1, t, ⟨u, h, _, e⟩ => (ERW.n hs h0 i u h).s h0 e
/-- an EVENING ahead of its first line -/
noncomputable abbrev es0 : EVx := evx 0 0 (fun _ => 0)
theorem ERW.z {ps kd : Int} : ERW ps kd es0 := ⟨⟨Int.le_refl 0, (by decide)⟩, fun k hk => absurd hk (by show ¬ (k : Int) < 0; omega)⟩
/-- where a fault lies -/
theorem tka_r {b : Nat → Int} {n m p : Int} (h0 : 0 ≤ p) (hn : p ≤ n) (hm : 0 ≤ m) : 0 ≤ tka b n m p ∧ tka b n m p ≤ n := by
  obtain ⟨q, ⟨s1, s2, _, _⟩, h⟩ := tk_N (b := b) (m := m) h0 hn
  rcases h with ⟨a, _, c, _⟩ | ⟨_, c, _⟩
  · have c : tka b n m p = m := c
    omega
  · have c : tka b n m p = q := c
    omega
theorem ite_inl {A B : Type} {c : Prop} [Decidable c] {a : A} {x : Sum A B} {y : A} (h : (if c then Sum.inl a else x) = Sum.inl y) : a = y ∨ x = Sum.inl y := by
  by_cases k : c
  · rw [if_pos k] at h; exact Or.inl (Sum.inl.inj h)
  · rw [if_neg k] at h; exact Or.inr h
theorem evl_pl {nm : Nat → Int} {ps kd : Int} {b : Nat → Int} {n m : Int} {s : EVx} {y : Int × Int} (h0 : 0 ≤ s.p) (hn : s.p ≤ n) (hm : 0 ≤ m) (h : evl nm ps kd b n m s = .inl y) : 0 ≤ y.2 ∧ y.2 ≤ n := by
  have y1 := tkp_r (b := b) (n := n) (m := m) h0 hn
  have y2 := tkp_r (b := b) (n := n) (m := m) (p := (tkp b n m s.p)) (by omega) y1.2.1
  have y3 := tkp_r (b := b) (n := n) (m := m) (p := (tkp b n m (tkp b n m s.p))) (by omega) y2.2.1
  have y4 := tkp_r (b := b) (n := n) (m := m) (p := (tkp b n m (tkp b n m (tkp b n m s.p)))) (by omega) y3.2.1
  have y5 := tkp_r (b := b) (n := n) (m := m) (p := (tkp b n m (tkp b n m (tkp b n m (tkp b n m s.p))))) (by omega) y4.2.1
  have a0 := tka_r (b := b) (m := m) h0 hn hm
  have a1 := tka_r (b := b) (n := n) (m := m) (p := (tkp b n m s.p)) (by omega) y1.2.1 hm
  have a2 := tka_r (b := b) (n := n) (m := m) (p := (tkp b n m (tkp b n m s.p))) (by omega) y2.2.1 hm
  have a3 := tka_r (b := b) (n := n) (m := m) (p := (tkp b n m (tkp b n m (tkp b n m s.p)))) (by omega) y3.2.1 hm
  have a4 := tka_r (b := b) (n := n) (m := m) (p := (tkp b n m (tkp b n m (tkp b n m (tkp b n m s.p))))) (by omega) y4.2.1 hm
  have a5 := tka_r (b := b) (n := n) (m := m) (p := tkp b n m (tkp b n m (tkp b n m (tkp b n m (tkp b n m s.p))))) (by omega) y5.2.1 hm
  clear y1 y2 y3 y4 y5
  unfold evl at h
  rcases ite_inl h with e | h
  · rw [← e]; exact a0
  rcases ite_inl h with e | h
  · rw [← e]; exact a0
  rcases ite_inl h with e | h
  · rw [← e]; exact a0
  rcases ite_inl h with e | h
  · rw [← e]; exact a1
  rcases ite_inl h with e | h
  · rw [← e]; exact a2
  rcases ite_inl h with e | h
  · rw [← e]; exact a2
  rcases ite_inl h with e | h
  · rw [← e]; exact a3
  rcases ite_inl h with e | h
  · rw [← e]; exact a3
  cases e : eva b n m (tkp b n m (tkp b n m (tkp b n m (tkp b n m s.p)))) with
  | inl x =>
    rw [e] at h
    have z := Sum.inl.inj h
    subst z
    unfold eva at e
    by_cases c8 : tkc b n m (tkp b n m (tkp b n m (tkp b n m (tkp b n m s.p)))) = 8
    · rw [if_pos c8] at e; cases e
    · rw [if_neg c8] at e
      rcases ite_inl e with e | e
      · rw [← e]; exact a4
      rcases ite_inl e with e | e
      · rw [← e]; exact a5
      rcases ite_inl e with e | e
      · rw [← e]; exact a5
      · cases e
  | inr y => rw [e] at h; cases h
theorem evl_p {nm : Nat → Int} {ps kd : Int} {b : Nat → Int} {n m : Int} {s t : EVx} (h0 : 0 ≤ s.p) (hn : s.p ≤ n) (h : evl nm ps kd b n m s = .inr t) : 0 ≤ t.p ∧ t.p ≤ n := by
  have y1 := tkp_r (b := b) (n := n) (m := m) h0 hn
  have y2 := tkp_r (b := b) (n := n) (m := m) (p := (tkp b n m s.p)) (by omega) y1.2.1
  have y3 := tkp_r (b := b) (n := n) (m := m) (p := (tkp b n m (tkp b n m s.p))) (by omega) y2.2.1
  have y4 := tkp_r (b := b) (n := n) (m := m) (p := (tkp b n m (tkp b n m (tkp b n m s.p)))) (by omega) y3.2.1
  have y5 := tkp_r (b := b) (n := n) (m := m) (p := (tkp b n m (tkp b n m (tkp b n m (tkp b n m s.p))))) (by omega) y4.2.1
  have y6 := tkp_r (b := b) (n := n) (m := m) (p := tkp b n m (tkp b n m (tkp b n m (tkp b n m (tkp b n m s.p))))) (by omega) y5.2.1
  have z5 : 0 ≤ tkp b n m (tkp b n m (tkp b n m (tkp b n m (tkp b n m s.p)))) := by omega
  have z6 : 0 ≤ tkp b n m (tkp b n m (tkp b n m (tkp b n m (tkp b n m (tkp b n m s.p))))) := by omega
  unfold evl at h
  replace h := (ite_inr h).2
  replace h := (ite_inr h).2
  replace h := (ite_inr h).2
  replace h := (ite_inr h).2
  replace h := (ite_inr h).2
  replace h := (ite_inr h).2
  replace h := (ite_inr h).2
  replace h := (ite_inr h).2
  cases e : eva b n m (tkp b n m (tkp b n m (tkp b n m (tkp b n m s.p)))) with
  | inl x => rw [e] at h; cases h
  | inr y =>
    rw [e] at h
    have z := Sum.inr.inj h
    subst z
    show 0 ≤ y.1 ∧ y.1 ≤ n
    unfold eva at e
    by_cases c8 : tkc b n m (tkp b n m (tkp b n m (tkp b n m (tkp b n m s.p)))) = 8
    · rw [if_pos c8] at e
      have w := Sum.inr.inj e
      rw [← w]; exact ⟨z5, y5.2.1⟩
    · rw [if_neg c8] at e
      replace e := (ite_inr e).2
      replace e := (ite_inr e).2
      replace e := (ite_inr e).2
      have w := Sum.inr.inj e
      rw [← w]; exact ⟨z6, y6.2.1⟩
theorem est_p {nm : Nat → Int} {ps kd : Int} {b : Nat → Int} {n m : Int} {s t : EVx} (h0 : 0 ≤ s.p) (hn : s.p ≤ n) (h : est nm ps kd b n m s = .inr t) : 0 ≤ t.p ∧ t.p ≤ n := by
  cases e : evl nm ps kd b n m s with
  | inl x => rw [est_l e] at h; cases h
  | inr u =>
    have y := evl_p h0 hn e
    by_cases c : tkc b n m u.p = 59
    · rw [est_1 e c] at h
      have z := Sum.inr.inj h
      subst z
      have w := tkp_r (b := b) (n := n) (m := m) y.1 y.2
      exact ⟨(show 0 ≤ tkp b n m u.p by omega), w.2.1⟩
    · rw [est_0 e c] at h; cases h
theorem EVN.p {nm : Nat → Int} {ps kd : Int} {b : Nat → Int} {n m : Int}  (h0 : 0 ≤ n) : ∀ (i : Nat) (t : EVx), EVN nm ps kd b n m i es0 t → 0 ≤ t.p ∧ t.p ≤ n
  | 0, t, h => by
    have h : t = es0 := h
    rw [h]; exact ⟨Int.le_refl 0, h0⟩
  | i + 1, t, ⟨u, h, _, e⟩ => by
    have y := EVN.p h0 i u h
    exact est_p y.1 y.2 e
theorem est_pl {nm : Nat → Int} {ps kd : Int} {b : Nat → Int} {n m : Int} {s : EVx} {y : Int × Int} (h0 : 0 ≤ s.p) (hn : s.p ≤ n) (hm : 0 ≤ m) (h : est nm ps kd b n m s = .inl y) : 0 ≤ y.2 ∧ y.2 ≤ n := by
  cases e : evl nm ps kd b n m s with
  | inl x => rw [est_l e] at h; have z := Sum.inl.inj h; rw [← z]; exact evl_pl h0 hn hm e
  | inr u =>
    have y := evl_p h0 hn e
    by_cases c : tkc b n m u.p = 59
    · rw [est_1 e c] at h; cases h
    · rw [est_0 e c] at h; have z := Sum.inl.inj h; rw [← z]; exact tka_r y.1 y.2 hm
theorem EEND.pl {nm : Nat → Int} {ps kd : Int} {b : Nat → Int} {n m : Int} {y : Int × Int} (h0 : 0 ≤ n) (hm : 0 ≤ m) (h : EEND nm ps kd b n m es0 (.inl y)) : 0 ≤ y.2 ∧ y.2 ≤ n := by
  obtain ⟨i, t, hN, hx⟩ := h
  have z := EVN.p h0 i t hN
  rcases hx with ⟨_, q⟩ | ⟨_, y', q, e⟩
  · cases q
  · have w := Sum.inl.inj e
    rw [w]; exact est_pl z.1 z.2 hm q

