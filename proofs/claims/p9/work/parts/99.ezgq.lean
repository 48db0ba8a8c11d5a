/-- i lines were read well -/
def TRN (b : Nat → Int) (n m : Int) : Nat → TSx → TSx → Prop
  | 0, s, t => t = s
  | i + 1, s, t => ∃ u, TRN b n m i s u ∧ ¬ tkc b n m u.p = 302 ∧ tst b n m u = .inr t
theorem TRN.u {b : Nat → Int} {n m : Int} {s : TSx} : ∀ (i : Nat) {t t' : TSx}, TRN b n m i s t → TRN b n m i s t' → t = t'
  | 0, t, t', h, h' => Eq.trans (show t = s from h) (Eq.symm (show t' = s from h'))
  | i + 1, t, t', ⟨u, h, _, e⟩, ⟨u', h', _, e'⟩ => by
    have z := TRN.u i h h'
    subst z
    exact Sum.inr.inj (e.symm.trans e')
/-- where a table ends: well, behind i lines, or with a fault -/
def TEND (b : Nat → Int) (n m : Int) (s : TSx) (x : Sum (Int × Int) (Nat × TSx)) : Prop := ∃ (i : Nat) (t : TSx), TRN b n m i s t ∧ ((tkc b n m t.p = 302 ∧ x = .inr (i, t)) ∨ (¬ tkc b n m t.p = 302 ∧ ∃ y, tst b n m t = .inl y ∧ x = .inl y))
theorem TRN.stop {b : Nat → Int} {n m : Int} {s t : TSx} {i : Nat} (h : TRN b n m i s t) (hs : tkc b n m t.p = 302 ∨ ∃ y, tst b n m t = .inl y) : ∀ (d : Nat) {t' : TSx}, ¬ TRN b n m (i + 1 + d) s t'
  | 0, t', ⟨u, h', e1, e2⟩ => by
    have z := TRN.u i h h'
    subst z
    rcases hs with q | ⟨y, q⟩
    · exact e1 q
    · rw [q] at e2; cases e2
  | d + 1, t', ⟨u, h', _, _⟩ => TRN.stop h hs d h'
theorem TEND.u {b : Nat → Int} {n m : Int} {s : TSx} {x x' : Sum (Int × Int) (Nat × TSx)} (h : TEND b n m s x) (h' : TEND b n m s x') : x = x' := by
  obtain ⟨i, t, hT, hx⟩ := h
  obtain ⟨i', t', hT', hx'⟩ := h'
  have st : tkc b n m t.p = 302 ∨ ∃ y, tst b n m t = .inl y := by
    rcases hx with ⟨q, _⟩ | ⟨_, y, q, _⟩
    · exact Or.inl q
    · exact Or.inr ⟨y, q⟩
  have st' : tkc b n m t'.p = 302 ∨ ∃ y, tst b n m t' = .inl y := by
    rcases hx' with ⟨q, _⟩ | ⟨_, y, q, _⟩
    · exact Or.inl q
    · exact Or.inr ⟨y, q⟩
  have e : i = i' := by
    by_cases c : i < i'
    · refine absurd ?_ (TRN.stop hT st (i' - (i + 1)) (t' := t'))
      rw [show i + 1 + (i' - (i + 1)) = i' from by omega]; exact hT'
    · by_cases c' : i' < i
      · refine absurd ?_ (TRN.stop hT' st' (i - (i' + 1)) (t' := t))
        rw [show i' + 1 + (i - (i' + 1)) = i from by omega]; exact hT
      · omega
  subst e
  have z := TRN.u i hT hT'
  subst z
  rcases hx with ⟨q, e⟩ | ⟨q, y, q2, e⟩
  · rcases hx' with ⟨q', e'⟩ | ⟨q', y', q2', e'⟩
    · rw [e, e']
    · exact absurd q q'
  · rcases hx' with ⟨q', e'⟩ | ⟨q', y', q2', e'⟩
    · exact absurd q' q
    · rw [e, e', Sum.inl.inj (q2.symm.trans q2')]
theorem hps_m {b : Nat → Int} {n m p : Int} (h0 : 0 ≤ p) (hn : p ≤ n) : ∀ k : Nat, tkp b n m p ≤ hps b n m p k
  | 0 => Int.le_refl _
  | k + 1 => by
    have y := hps_r (b := b) (m := m) h0 hn k
    have z := tkp_r (b := b) (m := m) y.1 y.2
    have w := hps_m (b := b) (m := m) h0 hn k
    exact Int.le_trans w z.1
theorem ite_inr {A B : Type} {c : Prop} [Decidable c] {a : A} {x : Sum A B} {t : B} (h : (if c then Sum.inl a else x) = Sum.inr t) : ¬ c ∧ x = Sum.inr t := by
  by_cases k : c
  · rw [if_pos k] at h; cases h
  · rw [if_neg k] at h; exact ⟨k, h⟩
theorem tlK_q {b : Nat → Int} {n m : Int} {s t : TSx} (h : tlK b n m s = .inr t) : t.p = tkp b n m (tkp b n m s.p) := by
  unfold tlK at h
  replace h := (ite_inr h).2
  replace h := (ite_inr h).2
  replace h := (ite_inr h).2
  exact ((congrArg (fun u : TSx => u.p) (Sum.inr.inj h)).symm.trans (show tkp b n m (tkp b n m s.p) = tkp b n m (tkp b n m s.p) from rfl))
theorem tlP_q {b : Nat → Int} {n m : Int} {s t : TSx} (h : tlP b n m s = .inr t) : t.p = tkp b n m (tkp b n m s.p) := by
  unfold tlP at h
  replace h := (ite_inr h).2
  replace h := (ite_inr h).2
  replace h := (ite_inr h).2
  exact ((congrArg (fun u : TSx => u.p) (Sum.inr.inj h)).symm.trans (show tkp b n m (tkp b n m s.p) = tkp b n m (tkp b n m s.p) from rfl))
theorem tlH_q {b : Nat → Int} {n m : Int} {s t : TSx} (h : tlH b n m s = .inr t) : t.p = tkp b n m (tkp b n m (tkp b n m (tkp b n m s.p))) := by
  unfold tlH at h
  replace h := (ite_inr h).2
  replace h := (ite_inr h).2
  replace h := (ite_inr h).2
  replace h := (ite_inr h).2
  replace h := (ite_inr h).2
  replace h := (ite_inr h).2
  replace h := (ite_inr h).2
  replace h := (ite_inr h).2
  exact ((congrArg (fun u : TSx => u.p) (Sum.inr.inj h)).symm.trans (show tkp b n m (tkp b n m (tkp b n m (tkp b n m s.p))) = tkp b n m (tkp b n m (tkp b n m (tkp b n m s.p))) from rfl))
theorem tlE_q {b : Nat → Int} {n m : Int} {s t : TSx} (h : tlE b n m s = .inr t) : t.p = hps b n m s.p (hcn b n m s.p s.kd s.pl) := by
  unfold tlE at h
  replace h := (ite_inr h).2
  replace h := (ite_inr h).2
  replace h := (ite_inr h).2
  exact ((congrArg (fun u : TSx => u.p) (Sum.inr.inj h)).symm.trans (show hps b n m s.p (hcn b n m s.p s.kd s.pl) = hps b n m s.p (hcn b n m s.p s.kd s.pl) from rfl))
theorem tlA_q {b : Nat → Int} {n m : Int} {s t : TSx} (h : tlA b n m s = .inr t) : t.p = tkp b n m s.p := by
  unfold tlA at h
  replace h := (ite_inr h).2
  exact ((congrArg (fun u : TSx => u.p) (Sum.inr.inj h)).symm.trans (show tkp b n m s.p = tkp b n m s.p from rfl))
theorem tlR_q {b : Nat → Int} {n m : Int} {s t : TSx} (h : tlR b n m s = .inr t) : t.p = tkp b n m (tkp b n m s.p) := by
  unfold tlR at h
  replace h := (ite_inr h).2
  replace h := (ite_inr h).2
  replace h := (ite_inr h).2
  exact ((congrArg (fun u : TSx => u.p) (Sum.inr.inj h)).symm.trans (show tkp b n m (tkp b n m s.p) = tkp b n m (tkp b n m s.p) from rfl))
/-- a line takes at least a byte -/
theorem tln_p {b : Nat → Int} {n m : Int} {s t : TSx} (h0 : 0 ≤ s.p) (hn : s.p ≤ n) (h : tln b n m s = .inr t) : s.p < t.p ∧ t.p ≤ n := by
  have y1 := tkp_r (b := b) (n := n) (m := m) h0 hn
  have y2 := tkp_r (b := b) (n := n) (m := m) (p := tkp b n m s.p) (by omega) y1.2.1
  have y3 := tkp_r (b := b) (n := n) (m := m) (p := tkp b n m (tkp b n m s.p)) (by omega) y2.2.1
  have y4 := tkp_r (b := b) (n := n) (m := m) (p := tkp b n m (tkp b n m (tkp b n m s.p))) (by omega) y3.2.1
  have yh := hps_r (b := b) (m := m) h0 hn (hcn b n m s.p s.kd s.pl)
  have yg := hps_m (b := b) (m := m) h0 hn (hcn b n m s.p s.kd s.pl)
  by_cases c : tkc b n m s.p < 0 ∨ 5 < tkc b n m s.p
  · rw [tln_x c] at h; cases h
  have y0 := y1.2.2 (by omega) (by omega)
  replace y1 := y1.2.1
  replace y2 := And.intro y2.1 y2.2.1
  replace y3 := And.intro y3.1 y3.2.1
  replace y4 := And.intro y4.1 y4.2.1
  have c6 : tkc b n m s.p = 0 ∨ tkc b n m s.p = 1 ∨ tkc b n m s.p = 2 ∨ tkc b n m s.p = 3 ∨ tkc b n m s.p = 4 ∨ tkc b n m s.p = 5 := by omega
  clear c
  rcases c6 with c | c | c | c | c | c
  · rw [tln_K c] at h; rw [tlK_q h]; omega
  · rw [tln_P c] at h; rw [tlP_q h]; omega
  · rw [tln_H c] at h; rw [tlH_q h]; omega
  · rw [tln_E c] at h; rw [tlE_q h]; omega
  · rw [tln_A c] at h; rw [tlA_q h]; omega
  · rw [tln_R c] at h; rw [tlR_q h]; omega
theorem tst_p {b : Nat → Int} {n m : Int} {s t : TSx} (h0 : 0 ≤ s.p) (hn : s.p ≤ n) (h : tst b n m s = .inr t) : s.p + 2 ≤ t.p ∧ t.p ≤ n := by
  cases e : tln b n m s with
  | inl x => rw [tst_l e] at h; cases h
  | inr u =>
    have y := tln_p h0 hn e
    by_cases c : tkc b n m u.p = 59
    · rw [tst_1 e c] at h
      have z := Sum.inr.inj h
      subst z
      have w := tkp_r (b := b) (n := n) (m := m) (p := u.p) (by omega) y.2
      have w2 := w.2.2 (by omega) (by omega)
      exact ⟨show s.p + 2 ≤ tkp b n m u.p from by omega, show tkp b n m u.p ≤ n from w.2.1⟩
    · rw [tst_0 e c] at h; cases h
theorem RTC.ps {σ σ' : xS} {b : Nat → Int} {n m p' : Int} {u : TSx} (h : RTC σ b n m u) (f : Fr [2] [] σ σ') (hD : RDt σ' b n m p') : RTC σ' b n m (u.wp p') := by
  obtain ⟨_, h2, h3, h4, h5, h6⟩ := h
  have e1 := f.1 1 (by decide) (by decide); have e5 := f.1 5 (by decide) (by decide); have e6 := f.1 6 (by decide) (by decide)
  have e7 := f.1 7 (by decide) (by decide); have e9 := f.1 9 (by decide) (by decide); have e0 : σ' 0 2 = σ 0 2 := f.2 2 (by decide)
  refine ⟨hD, ?_, by rw [e6]; exact h3, e7.trans h4, e9.trans h5, e1.trans h6⟩
  show σ' 5 0 = u.kd ∧ σ' 5 1 = u.ps ∧ σ' 5 2 = u.ag ∧ σ' 5 3 = u.rf ∧ σ' 0 2 = u.rt ∧ σ' 5 8 = 0 ∧ σ' 5 9 = u.hpn
  rw [e5, e0]; exact h2
