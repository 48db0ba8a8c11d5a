/-! An EVENING, as a function of its text. -/
noncomputable def evl (nm : Nat → Int) (ps kd : Int) (b : Nat → Int) (n m : Int) (s : EVx) : Sum (Int × Int) EVx := if ¬ tkc b n m s.p = 300 then .inl (1, tka b n m s.p) else if fnd nm ps.toNat (tkw b n m s.p) = -1 then .inl (3, tka b n m s.p) else if s.l = 30 then .inl (4, tka b n m s.p) else if ¬ tkc b n m (tkp b n m s.p) = 6 then .inl (1, tka b n m (tkp b n m s.p)) else if ¬ tkc b n m (tkp b n m (tkp b n m s.p)) = 300 then .inl (1, tka b n m (tkp b n m (tkp b n m s.p))) else if fnd nm ps.toNat (tkw b n m (tkp b n m (tkp b n m s.p))) = -1 then .inl (3, tka b n m (tkp b n m (tkp b n m s.p))) else if ¬ tkc b n m (tkp b n m (tkp b n m (tkp b n m s.p))) = 301 then .inl (1, tka b n m (tkp b n m (tkp b n m (tkp b n m s.p)))) else if ¬ (0 ≤ tkv b n m (tkp b n m (tkp b n m (tkp b n m s.p))) ∧ tkv b n m (tkp b n m (tkp b n m (tkp b n m s.p))) ≤ kd - 1) then .inl (2, tka b n m (tkp b n m (tkp b n m (tkp b n m s.p)))) else match eva b n m (tkp b n m (tkp b n m (tkp b n m (tkp b n m s.p)))) with
  | .inl x => .inl x
  | .inr y => .inr (evx y.1 s.l (ev4 s.rd s.l (fnd nm ps.toNat (tkw b n m s.p)) (fnd nm ps.toNat (tkw b n m (tkp b n m (tkp b n m s.p)))) (tkv b n m (tkp b n m (tkp b n m (tkp b n m s.p)))) y.2))
theorem evl_0 {nm : Nat → Int} {ps kd : Int} {b : Nat → Int} {n m : Int} {s : EVx}  (h0 : ¬ tkc b n m s.p = 300) : evl nm ps kd b n m s = .inl (1, tka b n m s.p) := by
  unfold evl
  rw [if_pos h0]
theorem evl_1 {nm : Nat → Int} {ps kd : Int} {b : Nat → Int} {n m : Int} {s : EVx} (h0 : ¬ (¬ tkc b n m s.p = 300)) (h1 : fnd nm ps.toNat (tkw b n m s.p) = -1) : evl nm ps kd b n m s = .inl (3, tka b n m s.p) := by
  unfold evl
  rw [if_neg h0, if_pos h1]
theorem evl_2 {nm : Nat → Int} {ps kd : Int} {b : Nat → Int} {n m : Int} {s : EVx} (h0 : ¬ (¬ tkc b n m s.p = 300)) (h1 : ¬ (fnd nm ps.toNat (tkw b n m s.p) = -1)) (h2 : s.l = 30) : evl nm ps kd b n m s = .inl (4, tka b n m s.p) := by
  unfold evl
  rw [if_neg h0, if_neg h1, if_pos h2]
theorem evl_3 {nm : Nat → Int} {ps kd : Int} {b : Nat → Int} {n m : Int} {s : EVx} (h0 : ¬ (¬ tkc b n m s.p = 300)) (h1 : ¬ (fnd nm ps.toNat (tkw b n m s.p) = -1)) (h2 : ¬ (s.l = 30)) (h3 : ¬ tkc b n m (tkp b n m s.p) = 6) : evl nm ps kd b n m s = .inl (1, tka b n m (tkp b n m s.p)) := by
  unfold evl
  rw [if_neg h0, if_neg h1, if_neg h2, if_pos h3]
theorem evl_4 {nm : Nat → Int} {ps kd : Int} {b : Nat → Int} {n m : Int} {s : EVx} (h0 : ¬ (¬ tkc b n m s.p = 300)) (h1 : ¬ (fnd nm ps.toNat (tkw b n m s.p) = -1)) (h2 : ¬ (s.l = 30)) (h3 : ¬ (¬ tkc b n m (tkp b n m s.p) = 6)) (h4 : ¬ tkc b n m (tkp b n m (tkp b n m s.p)) = 300) : evl nm ps kd b n m s = .inl (1, tka b n m (tkp b n m (tkp b n m s.p))) := by
  unfold evl
  rw [if_neg h0, if_neg h1, if_neg h2, if_neg h3, if_pos h4]
theorem evl_5 {nm : Nat → Int} {ps kd : Int} {b : Nat → Int} {n m : Int} {s : EVx} (h0 : ¬ (¬ tkc b n m s.p = 300)) (h1 : ¬ (fnd nm ps.toNat (tkw b n m s.p) = -1)) (h2 : ¬ (s.l = 30)) (h3 : ¬ (¬ tkc b n m (tkp b n m s.p) = 6)) (h4 : ¬ (¬ tkc b n m (tkp b n m (tkp b n m s.p)) = 300)) (h5 : fnd nm ps.toNat (tkw b n m (tkp b n m (tkp b n m s.p))) = -1) : evl nm ps kd b n m s = .inl (3, tka b n m (tkp b n m (tkp b n m s.p))) := by
  unfold evl
  rw [if_neg h0, if_neg h1, if_neg h2, if_neg h3, if_neg h4, if_pos h5]
theorem evl_6 {nm : Nat → Int} {ps kd : Int} {b : Nat → Int} {n m : Int} {s : EVx} (h0 : ¬ (¬ tkc b n m s.p = 300)) (h1 : ¬ (fnd nm ps.toNat (tkw b n m s.p) = -1)) (h2 : ¬ (s.l = 30)) (h3 : ¬ (¬ tkc b n m (tkp b n m s.p) = 6)) (h4 : ¬ (¬ tkc b n m (tkp b n m (tkp b n m s.p)) = 300)) (h5 : ¬ (fnd nm ps.toNat (tkw b n m (tkp b n m (tkp b n m s.p))) = -1)) (h6 : ¬ tkc b n m (tkp b n m (tkp b n m (tkp b n m s.p))) = 301) : evl nm ps kd b n m s = .inl (1, tka b n m (tkp b n m (tkp b n m (tkp b n m s.p)))) := by
  unfold evl
  rw [if_neg h0, if_neg h1, if_neg h2, if_neg h3, if_neg h4, if_neg h5, if_pos h6]
theorem evl_7 {nm : Nat → Int} {ps kd : Int} {b : Nat → Int} {n m : Int} {s : EVx} (h0 : ¬ (¬ tkc b n m s.p = 300)) (h1 : ¬ (fnd nm ps.toNat (tkw b n m s.p) = -1)) (h2 : ¬ (s.l = 30)) (h3 : ¬ (¬ tkc b n m (tkp b n m s.p) = 6)) (h4 : ¬ (¬ tkc b n m (tkp b n m (tkp b n m s.p)) = 300)) (h5 : ¬ (fnd nm ps.toNat (tkw b n m (tkp b n m (tkp b n m s.p))) = -1)) (h6 : ¬ (¬ tkc b n m (tkp b n m (tkp b n m (tkp b n m s.p))) = 301)) (h7 : ¬ (0 ≤ tkv b n m (tkp b n m (tkp b n m (tkp b n m s.p))) ∧ tkv b n m (tkp b n m (tkp b n m (tkp b n m s.p))) ≤ kd - 1)) : evl nm ps kd b n m s = .inl (2, tka b n m (tkp b n m (tkp b n m (tkp b n m s.p)))) := by
  unfold evl
  rw [if_neg h0, if_neg h1, if_neg h2, if_neg h3, if_neg h4, if_neg h5, if_neg h6, if_pos h7]
theorem evl_x {nm : Nat → Int} {ps kd : Int} {b : Nat → Int} {n m : Int} {s : EVx} {x : Int × Int} (h0 : ¬ (¬ tkc b n m s.p = 300)) (h1 : ¬ (fnd nm ps.toNat (tkw b n m s.p) = -1)) (h2 : ¬ (s.l = 30)) (h3 : ¬ (¬ tkc b n m (tkp b n m s.p) = 6)) (h4 : ¬ (¬ tkc b n m (tkp b n m (tkp b n m s.p)) = 300)) (h5 : ¬ (fnd nm ps.toNat (tkw b n m (tkp b n m (tkp b n m s.p))) = -1)) (h6 : ¬ (¬ tkc b n m (tkp b n m (tkp b n m (tkp b n m s.p))) = 301)) (h7 : ¬ (¬ (0 ≤ tkv b n m (tkp b n m (tkp b n m (tkp b n m s.p))) ∧ tkv b n m (tkp b n m (tkp b n m (tkp b n m s.p))) ≤ kd - 1))) (e : eva b n m (tkp b n m (tkp b n m (tkp b n m (tkp b n m s.p)))) = .inl x) : evl nm ps kd b n m s = .inl x := by
  unfold evl
  rw [if_neg h0, if_neg h1, if_neg h2, if_neg h3, if_neg h4, if_neg h5, if_neg h6, if_neg h7, e]
theorem evl_y {nm : Nat → Int} {ps kd : Int} {b : Nat → Int} {n m : Int} {s : EVx} {y : Int × Int} (h0 : ¬ (¬ tkc b n m s.p = 300)) (h1 : ¬ (fnd nm ps.toNat (tkw b n m s.p) = -1)) (h2 : ¬ (s.l = 30)) (h3 : ¬ (¬ tkc b n m (tkp b n m s.p) = 6)) (h4 : ¬ (¬ tkc b n m (tkp b n m (tkp b n m s.p)) = 300)) (h5 : ¬ (fnd nm ps.toNat (tkw b n m (tkp b n m (tkp b n m s.p))) = -1)) (h6 : ¬ (¬ tkc b n m (tkp b n m (tkp b n m (tkp b n m s.p))) = 301)) (h7 : ¬ (¬ (0 ≤ tkv b n m (tkp b n m (tkp b n m (tkp b n m s.p))) ∧ tkv b n m (tkp b n m (tkp b n m (tkp b n m s.p))) ≤ kd - 1))) (e : eva b n m (tkp b n m (tkp b n m (tkp b n m (tkp b n m s.p)))) = .inr y) : evl nm ps kd b n m s = .inr (evx y.1 s.l (ev4 s.rd s.l (fnd nm ps.toNat (tkw b n m s.p)) (fnd nm ps.toNat (tkw b n m (tkp b n m (tkp b n m s.p)))) (tkv b n m (tkp b n m (tkp b n m (tkp b n m s.p)))) y.2)) := by
  unfold evl
  rw [if_neg h0, if_neg h1, if_neg h2, if_neg h3, if_neg h4, if_neg h5, if_neg h6, if_neg h7, e]
/-- what a well read line says of itself -/
theorem evl_r {nm : Nat → Int} {ps kd : Int} {b : Nat → Int} {n m : Int} {s t : EVx} (h : evl nm ps kd b n m s = .inr t) : ¬ s.l = 30 ∧ t.l = s.l ∧ ∃ a b' k g : Int, t.rd = ev4 s.rd s.l a b' k g ∧ (¬ a = -1 ∧ a = fnd nm ps.toNat (tkw b n m s.p)) ∧ (¬ b' = -1 ∧ b' = fnd nm ps.toNat (tkw b n m (tkp b n m (tkp b n m s.p)))) ∧ (0 ≤ k ∧ k ≤ kd - 1) ∧ (g = 0 ∨ (1 ≤ g ∧ g ≤ 4)) := by
  unfold evl at h
  obtain ⟨h0, h⟩ := ite_inr h
  obtain ⟨h1, h⟩ := ite_inr h
  obtain ⟨h2, h⟩ := ite_inr h
  obtain ⟨h3, h⟩ := ite_inr h
  obtain ⟨h4, h⟩ := ite_inr h
  obtain ⟨h5, h⟩ := ite_inr h
  obtain ⟨h6, h⟩ := ite_inr h
  obtain ⟨h7, h⟩ := ite_inr h
  cases e : eva b n m (tkp b n m (tkp b n m (tkp b n m (tkp b n m s.p)))) with
  | inl x => rw [e] at h; cases h
  | inr y =>
    rw [e] at h
    have z := Sum.inr.inj h
    subst z
    refine ⟨h2, rfl, _, _, _, y.2, rfl, ⟨h1, rfl⟩, ⟨h5, rfl⟩, Classical.not_not.mp h7, ?_⟩
    unfold eva at e
    by_cases c8 : tkc b n m (tkp b n m (tkp b n m (tkp b n m (tkp b n m s.p)))) = 8
    · rw [if_pos c8] at e
      have w := Sum.inr.inj e
      exact Or.inl (congrArg (fun u : Int × Int => u.2) w).symm
    · rw [if_neg c8] at e
      obtain ⟨g1, e⟩ := ite_inr e
      obtain ⟨g2, e⟩ := ite_inr e
      obtain ⟨g3, e⟩ := ite_inr e
      have w := (congrArg (fun u : Int × Int => u.2) (Sum.inr.inj e)).symm
      have w : y.2 = tkv b n m (tkp b n m (tkp b n m (tkp b n m (tkp b n m (tkp b n m s.p))))) := w
      rw [w]
      exact Or.inr (Classical.not_not.mp g3)
/-- a line and its sign -/
noncomputable def est (nm : Nat → Int) (ps kd : Int) (b : Nat → Int) (n m : Int) (s : EVx) : Sum (Int × Int) EVx := match evl nm ps kd b n m s with
  | .inl x => .inl x
  | .inr t => if tkc b n m t.p = 59 then .inr (evx (tkp b n m t.p) (t.l + 1) t.rd) else .inl (1, tka b n m t.p)
theorem est_l {nm : Nat → Int} {ps kd : Int} {b : Nat → Int} {n m : Int} {s : EVx} {x : Int × Int} (h : evl nm ps kd b n m s = .inl x) : est nm ps kd b n m s = .inl x := by unfold est; rw [h]
theorem est_1 {nm : Nat → Int} {ps kd : Int} {b : Nat → Int} {n m : Int} {s t : EVx} (h : evl nm ps kd b n m s = .inr t) (c : tkc b n m t.p = 59) : est nm ps kd b n m s = .inr (evx (tkp b n m t.p) (t.l + 1) t.rd) := by
  unfold est
  rw [h]
  show (if tkc b n m t.p = 59 then _ else _) = _
  rw [if_pos c]
theorem est_0 {nm : Nat → Int} {ps kd : Int} {b : Nat → Int} {n m : Int} {s t : EVx} (h : evl nm ps kd b n m s = .inr t) (c : ¬ tkc b n m t.p = 59) : est nm ps kd b n m s = .inl (1, tka b n m t.p) := by
  unfold est
  rw [h]
  show (if tkc b n m t.p = 59 then _ else _) = _
  rw [if_neg c]
/-- i lines were read well -/
def EVN (nm : Nat → Int) (ps kd : Int) (b : Nat → Int) (n m : Int) : Nat → EVx → EVx → Prop
  | 0, s, t => t = s
  | i + 1, s, t => ∃ u, EVN nm ps kd b n m i s u ∧ ¬ tkc b n m u.p = 302 ∧ est nm ps kd b n m u = .inr t
theorem EVN.u {nm : Nat → Int} {ps kd : Int} {b : Nat → Int} {n m : Int} {s : EVx} : ∀ (i : Nat) {t t' : EVx}, EVN nm ps kd b n m i s t → EVN nm ps kd b n m i s t' → t = t'
  | 0, t, t', h, h' => Eq.trans (show t = s from h) (Eq.symm (show t' = s from h'))
  | i + 1, t, t', ⟨u, h, _, e⟩, ⟨u', h', _, e'⟩ => by
    have z := EVN.u i h h'
    subst z
    exact Sum.inr.inj (e.symm.trans e')
/-- where an EVENING ends: well, or with a fault -/
def EEND (nm : Nat → Int) (ps kd : Int) (b : Nat → Int) (n m : Int) (s : EVx) (x : Sum (Int × Int) EVx) : Prop := ∃ (i : Nat) (t : EVx), EVN nm ps kd b n m i s t ∧ ((tkc b n m t.p = 302 ∧ x = .inr t) ∨ (¬ tkc b n m t.p = 302 ∧ ∃ y, est nm ps kd b n m t = .inl y ∧ x = .inl y))
theorem EVN.stop {nm : Nat → Int} {ps kd : Int} {b : Nat → Int} {n m : Int} {s t : EVx} {i : Nat} (h : EVN nm ps kd b n m i s t) (hs : tkc b n m t.p = 302 ∨ ∃ y, est nm ps kd b n m t = .inl y) : ∀ (d : Nat) {t' : EVx}, ¬ EVN nm ps kd b n m (i + 1 + d) s t'
  | 0, t', ⟨u, h', e1, e2⟩ => by
    have z := EVN.u i h h'
    subst z
    rcases hs with q | ⟨y, q⟩
    · exact e1 q
    · rw [q] at e2; cases e2
  | d + 1, t', ⟨u, h', _, _⟩ => EVN.stop h hs d h'
theorem EEND.u {nm : Nat → Int} {ps kd : Int} {b : Nat → Int} {n m : Int} {s : EVx} {x x' : Sum (Int × Int) EVx} (h : EEND nm ps kd b n m s x) (h' : EEND nm ps kd b n m s x') : x = x' := by
  obtain ⟨i, t, hT, hx⟩ := h
  obtain ⟨i', t', hT', hx'⟩ := h'
  have st : tkc b n m t.p = 302 ∨ ∃ y, est nm ps kd b n m t = .inl y := by
    rcases hx with ⟨q, _⟩ | ⟨_, y, q, _⟩
    · exact Or.inl q
    · exact Or.inr ⟨y, q⟩
  have st' : tkc b n m t'.p = 302 ∨ ∃ y, est nm ps kd b n m t' = .inl y := by
    rcases hx' with ⟨q, _⟩ | ⟨_, y, q, _⟩
    · exact Or.inl q
    · exact Or.inr ⟨y, q⟩
  have e : i = i' := by
    by_cases c : i < i'
    · refine absurd ?_ (EVN.stop hT st (i' - (i + 1)) (t' := t'))
      rw [show i + 1 + (i' - (i + 1)) = i' from by omega]; exact hT'
    · by_cases c' : i' < i
      · refine absurd ?_ (EVN.stop hT' st' (i - (i' + 1)) (t' := t))
        rw [show i' + 1 + (i - (i' + 1)) = i from by omega]; exact hT
      · omega
  subst e
  have z := EVN.u i hT hT'
  subst z
  rcases hx with ⟨q, e⟩ | ⟨q, y, q2, e⟩
  · rcases hx' with ⟨q', e'⟩ | ⟨q', y', q2', e'⟩
    · rw [e, e']
    · exact absurd q q'
  · rcases hx' with ⟨q', e'⟩ | ⟨q', y', q2', e'⟩
    · exact absurd q' q
    · rw [e, e', Sum.inl.inj (q2.symm.trans q2')]
/-- two texts that are alike for n bytes, names that are alike for ps -/
theorem fnd_nm {nm nm' : Nat → Int} {k : Nat} (w : Int) (h : ∀ q : Nat, q < k → nm q = nm' q) : fnd nm k w = fnd nm' k w := fnd_c k (fun q hq => by rw [h q hq])
theorem evl_cg {nm nm' : Nat → Int} {ps kd : Int} {b b' : Nat → Int} {n : Int} (h : ALx b b' n) (hn : ∀ q : Nat, q < ps.toNat → nm q = nm' q) (m : Int) (s : EVx) : evl nm ps kd b n m s = evl nm' ps kd b' n m s := by
  have ec : ∀ p, tkc b n m p = tkc b' n m p := fun p => (tkc_cg h m p).1
  have ev : ∀ p, tkv b n m p = tkv b' n m p := fun p => (tkc_cg h m p).2.1
  have ew : ∀ p, tkw b n m p = tkw b' n m p := fun p => (tkc_cg h m p).2.2.1
  have ea : ∀ p, tka b n m p = tka b' n m p := fun p => (tkc_cg h m p).2.2.2.1
  have ep : ∀ p, tkp b n m p = tkp b' n m p := fun p => (tkc_cg h m p).2.2.2.2
  have ef : ∀ w, fnd nm ps.toNat w = fnd nm' ps.toNat w := fun w => fnd_nm w hn
  unfold evl eva
  simp only [ec, ev, ew, ea, ep, ef]
theorem est_cg {nm nm' : Nat → Int} {ps kd : Int} {b b' : Nat → Int} {n : Int} (h : ALx b b' n) (hn : ∀ q : Nat, q < ps.toNat → nm q = nm' q) (m : Int) (s : EVx) : est nm ps kd b n m s = est nm' ps kd b' n m s := by
  have ec : ∀ p, tkc b n m p = tkc b' n m p := fun p => (tkc_cg h m p).1
  have ea : ∀ p, tka b n m p = tka b' n m p := fun p => (tkc_cg h m p).2.2.2.1
  have ep : ∀ p, tkp b n m p = tkp b' n m p := fun p => (tkc_cg h m p).2.2.2.2
  unfold est
  rw [evl_cg h hn]
  cases evl nm' ps kd b' n m s with
  | inl x => rfl
  | inr t =>
    dsimp only
    rw [ec, ea, ep]
theorem EVN_cg {nm nm' : Nat → Int} {ps kd : Int} {b b' : Nat → Int} {n : Int} (h : ALx b b' n) (hn : ∀ q : Nat, q < ps.toNat → nm q = nm' q) (m : Int) (s : EVx) : ∀ (i : Nat) (t : EVx), EVN nm ps kd b n m i s t → EVN nm' ps kd b' n m i s t
  | 0, t, a => a
  | i + 1, t, ⟨u, a1, a2, a3⟩ => ⟨u, EVN_cg h hn m s i u a1, by rw [← (tkc_cg h m u.p).1]; exact a2, by rw [← est_cg h hn]; exact a3⟩
