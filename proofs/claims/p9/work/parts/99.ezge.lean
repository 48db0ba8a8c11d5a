/-! Names: the first place of a word in a row of names. -/
def fnd (nm : Nat → Int) (n : Nat) (w : Int) : Int := match n with
  | 0 => -1
  | n + 1 => if fnd nm n w = -1 then (if nm n = w then n else -1) else fnd nm n w
theorem fnd_r (nm : Nat → Int) (w : Int) : ∀ n : Nat, fnd nm n w = -1 ∨ (0 ≤ fnd nm n w ∧ fnd nm n w < n) := by
  intro n
  induction n with
  | zero => exact Or.inl rfl
  | succ n ih =>
    unfold fnd
    by_cases e : fnd nm n w = -1
    · rw [if_pos e]
      by_cases e2 : nm n = w
      · rw [if_pos e2]; omega
      · rw [if_neg e2]; exact Or.inl rfl
    · rw [if_neg e]; omega
theorem fnd_no {nm : Nat → Int} {w : Int} : ∀ n : Nat, (∀ q : Nat, q < n → ¬ nm q = w) → fnd nm n w = -1 := by
  intro n
  induction n with
  | zero => intro _; rfl
  | succ n ih =>
    intro h
    unfold fnd
    rw [if_pos (ih (fun q hq => h q (by omega))), if_neg (h n (by omega))]
theorem fnd_at {nm : Nat → Int} {w : Int} {k : Nat} (hk : nm k = w) (hf : ∀ q : Nat, q < k → ¬ nm q = w) : ∀ n : Nat, k < n → fnd nm n w = k := by
  intro n
  induction n with
  | zero => intro h; omega
  | succ n ih =>
    intro h
    unfold fnd
    by_cases e : k = n
    · subst e
      rw [if_pos (fnd_no k hf), if_pos hk]
    · rw [ih (by omega), if_neg (by omega)]
theorem fnd_c {nm nm' : Nat → Int} {w w' : Int} : ∀ n : Nat, (∀ q : Nat, q < n → (nm q = w ↔ nm' q = w')) → fnd nm n w = fnd nm' n w' := by
  intro n
  induction n with
  | zero => intro _; rfl
  | succ n ih =>
    intro h
    unfold fnd
    rw [ih (fun q hq => h q (by omega))]
    by_cases e : nm n = w
    · rw [if_pos e, if_pos ((h n (by omega)).mp e)]
    · rw [if_neg e, if_neg (fun e2 => e ((h n (by omega)).mpr e2))]
/-- both sides' names: one row of words -/
def NMR (nm nm' : Nat → Int) (n : Int) : Prop := ∀ q : Nat, (q : Int) < n → WP (nm q) (nm' q)
theorem NMR.f {nm nm' : Nat → Int} {n : Nat} {w w' : Int} (h : NMR nm nm' n) (hw : WP w w') : fnd nm n w = fnd nm' n w' := fnd_c n (fun q hq => (h q (by omega)).i hw)
theorem NMR.a {nm nm' : Nat → Int} {n w w' : Int} (h : NMR nm nm' n) (h0 : 0 ≤ n) (hw : WP w w') : NMR (up nm n.toNat w) (up nm' n.toNat w') (n + 1) := fun q hq => by
  unfold up
  by_cases e : q = n.toNat
  · rw [if_pos e, if_pos e]; exact hw
  · rw [if_neg e, if_neg e]; exact h q (by omega)
/-- advance: the next TOKEN of the text -/
theorem sX6_adv {σ : xS} {b : Nat → Int} {n m p : Int} {Q : Option xV → xS → Prop} (hp0 : 0 ≤ σ 0 4 ∧ σ 0 4 ≤ σ 0 2 ∧ σ 0 2 ≤ 940) (hb : σ 2 = b) (hn : σ 0 2 = n) (hm : σ 0 3 = m) (hp : σ 0 4 = p) (hws : WDS (σ 1)) (hQ : ∀ σ' : xS, Fr [] [4, 5, 6, 7, 8] σ σ' → (0 ≤ σ' 0 4 ∧ σ' 0 4 ≤ n) ∧ RCs σ' b n m p → Q none σ') : xT kX6_advance [xvr 0] σ Q := by
  subst hb; subst hn; subst hm; subst hp
  exact sX6_advanceF hp0 (fun σ' f h => hQ σ' f ⟨h.1, h.2.rc hws⟩)
set_option maxHeartbeats 4000000 in
set_option maxRecDepth 100000 in
theorem sX6_failF {σ : xS} {kind : Int} {Q : Option xV → xS → Prop} (hp0 : σ 0 9 = 0) (hQ : ∀ r : Int, ∀ σ' : xS, Fr [] [9, 10] σ σ' → (r = 0 ∧ σ' 0 9 = kind ∧ σ' 0 10 = σ 0 6) → Q (some (xvi r)) σ') : xT kX6_fail [xvr 0, xvi kind] σ Q := by
  refine ⟨Nat.le_of_ble_eq_true rfl, fun X hX => ?_⟩
  show X 0 [xvr 0, xvi kind] σ
  have hF : Fr [] [9, 10] σ σ := Fr.rf
  refine hX 400 0 _ _ ?_
  intro v1 e1 l1 h1
  have e1 : v1 = σ 0 9 := e1
  refine And.intro (fun c2 => ?_) (fun c2 => ?_)
  · refine hX 400 20 _ _ ?_
    refine And.intro rfl ?_
    refine And.intro (by omega) ?_
    exfalso; omega
  · have hF := hF.p (j := 9) (v := kind) (by decide)
    intro v4 e4 l4 h4
    have e4 : v4 = σ 0 6 := e4
    have hF := hF.p (j := 10) (v := v4) (by decide)
    refine hX 400 20 _ _ ?_
    refine And.intro rfl ?_
    refine And.intro (by omega) ?_
    exact hQ _ _ hF (show 0 = 0 ∧ kind = kind ∧ v4 = σ 0 6 from by omega)
set_option maxHeartbeats 4000000 in
set_option maxRecDepth 100000 in
theorem sX6_isNumberF {σ : xS} {least greatest : Int} {Q : Option xV → xS → Prop} (hp0 : σ 0 9 = 0) (hQ : ∀ r : Int, ∀ σ' : xS, Fr [] [9, 10] σ σ' → ((r = 1 ∧ σ 0 5 = 301 ∧ least ≤ σ 0 7 ∧ σ 0 7 ≤ greatest ∧ σ' 0 9 = 0) ∨ (r = 0 ∧ ¬ σ 0 5 = 301 ∧ σ' 0 9 = 1 ∧ σ' 0 10 = σ 0 6) ∨ (r = 0 ∧ σ 0 5 = 301 ∧ ¬ (least ≤ σ 0 7 ∧ σ 0 7 ≤ greatest) ∧ σ' 0 9 = 2 ∧ σ' 0 10 = σ 0 6)) → Q (some (xvi r)) σ') : xT kX6_isNumber [xvr 0, xvi least, xvi greatest] σ Q := by
  refine ⟨Nat.le_of_ble_eq_true rfl, fun X hX => ?_⟩
  show X 0 [xvr 0, xvi least, xvi greatest] σ
  have hF : Fr [] [9, 10] σ σ := Fr.rf
  refine hX 400 0 _ _ ?_
  refine sX6_isAt (σ := σ) (wanted := 301)  (fun r1 p1 => ?_)
  have p1 : (r1 = 1 ∧ (σ 0 5) = 301) ∨ (r1 = 0 ∧ ¬ (σ 0 5) = 301) := p1
  refine And.intro (fun c2 => ?_) (fun c2 => ?_)
  · replace p1 : (σ 0 5) = 301 := by
      rcases p1 with q | q
      · exact q.2
      · exact absurd q.1 (by omega)
    have lp_32 : ∀ (_ : Unit), (σ 0 5 = 301 ∧ ¬ (least ≤ σ 0 7 ∧ σ 0 7 ≤ greatest)) → X 32 [xvr 0, xvi least, xvi greatest] σ := by
      intro _ hv_32
      refine hX 400 32 _ _ ?_
      refine sX6_failF (σ := σ) (kind := 2) (show σ 0 9 = 0 from by omega) (fun r4 σ4 f4 p4 => ?_)
      have p4 : r4 = 0 ∧ σ4 0 9 = 2 ∧ σ4 0 10 = σ 0 6 := p4
      have hF := hF.tr f4 (by decide) (by decide)
      refine And.intro (fun c5 => ?_) (fun c5 => ?_)
      · refine And.intro rfl ?_
        refine And.intro (by omega) ?_
        exact hQ _ _ hF (show (0 = 1 ∧ σ 0 5 = 301 ∧ least ≤ σ 0 7 ∧ σ 0 7 ≤ greatest ∧ (σ4 0 9) = 0) ∨ (0 = 0 ∧ ¬ σ 0 5 = 301 ∧ (σ4 0 9) = 1 ∧ (σ4 0 10) = σ 0 6) ∨ (0 = 0 ∧ σ 0 5 = 301 ∧ ¬ (least ≤ σ 0 7 ∧ σ 0 7 ≤ greatest) ∧ (σ4 0 9) = 2 ∧ (σ4 0 10) = σ 0 6) from by omega)
      · refine hX 400 40 _ _ ?_
        refine And.intro rfl ?_
        refine And.intro (by omega) ?_
        exact hQ _ _ hF (show (1 = 1 ∧ σ 0 5 = 301 ∧ least ≤ σ 0 7 ∧ σ 0 7 ≤ greatest ∧ (σ4 0 9) = 0) ∨ (1 = 0 ∧ ¬ σ 0 5 = 301 ∧ (σ4 0 9) = 1 ∧ (σ4 0 10) = σ 0 6) ∨ (1 = 0 ∧ σ 0 5 = 301 ∧ ¬ (least ≤ σ 0 7 ∧ σ 0 7 ≤ greatest) ∧ (σ4 0 9) = 2 ∧ (σ4 0 10) = σ 0 6) from by omega)
    intro v6 e6 l6 h6
    have e6 : v6 = σ 0 7 := e6
    refine And.intro (fun c7 => ?_) (fun c7 => ?_)
    · exact lp_32 () (show σ 0 5 = 301 ∧ ¬ (least ≤ σ 0 7 ∧ σ 0 7 ≤ greatest) from by first | trivial | omega | (refine ⟨by assumption, ?_⟩; omega) | (refine ⟨?_, ?_⟩ <;> omega))
    · intro v8 e8 l8 h8
      have e8 : v8 = σ 0 7 := e8
      refine And.intro (fun c9 => ?_) (fun c9 => ?_)
      · refine hX 400 40 _ _ ?_
        refine And.intro rfl ?_
        refine And.intro (by omega) ?_
        exact hQ _ _ hF (show (1 = 1 ∧ σ 0 5 = 301 ∧ least ≤ σ 0 7 ∧ σ 0 7 ≤ greatest ∧ (σ 0 9) = 0) ∨ (1 = 0 ∧ ¬ σ 0 5 = 301 ∧ (σ 0 9) = 1 ∧ (σ 0 10) = σ 0 6) ∨ (1 = 0 ∧ σ 0 5 = 301 ∧ ¬ (least ≤ σ 0 7 ∧ σ 0 7 ≤ greatest) ∧ (σ 0 9) = 2 ∧ (σ 0 10) = σ 0 6) from by omega)
      · exact lp_32 () (show σ 0 5 = 301 ∧ ¬ (least ≤ σ 0 7 ∧ σ 0 7 ≤ greatest) from by first | trivial | omega | (refine ⟨by assumption, ?_⟩; omega) | (refine ⟨?_, ?_⟩ <;> omega))
  · replace p1 : ¬ (σ 0 5) = 301 := by
      rcases p1 with q | q
      · exact absurd q.1 (by omega)
      · exact q.2
    refine sX6_failF (σ := σ) (kind := 1) (show σ 0 9 = 0 from by omega) (fun r10 σ10 f10 p10 => ?_)
    have p10 : r10 = 0 ∧ σ10 0 9 = 1 ∧ σ10 0 10 = σ 0 6 := p10
    have hF := hF.tr f10 (by decide) (by decide)
    refine And.intro rfl ?_
    refine And.intro (by omega) ?_
    exact hQ _ _ hF (show (r10 = 1 ∧ σ 0 5 = 301 ∧ least ≤ σ 0 7 ∧ σ 0 7 ≤ greatest ∧ (σ10 0 9) = 0) ∨ (r10 = 0 ∧ ¬ σ 0 5 = 301 ∧ (σ10 0 9) = 1 ∧ (σ10 0 10) = σ 0 6) ∨ (r10 = 0 ∧ σ 0 5 = 301 ∧ ¬ (least ≤ σ 0 7 ∧ σ 0 7 ≤ greatest) ∧ (σ10 0 9) = 2 ∧ (σ10 0 10) = σ 0 6) from by omega)
set_option maxHeartbeats 4000000 in
set_option maxRecDepth 100000 in
theorem sX2_findF {σ : xS} {name : Int} {Q : Option xV → xS → Prop} (hp0 : 0 ≤ σ 0 1 ∧ σ 0 1 ≤ 6) (hQ : ∀ r : Int, (r = fnd (σ 1) (σ 0 1).toNat name) → Q (some (xvi r)) σ) : xT kX2_find [xvr 0, xvl name] σ Q := by
  refine ⟨Nat.le_of_ble_eq_true rfl, fun X hX => ?_⟩
  show X 0 [xvr 0, xvl name, xvu, xvu] σ
  refine hX 400 0 _ _ ?_
  refine And.intro (Nat.le_of_ble_eq_true rfl) ?_
  show xw _ _ _ _ _ _ _ _ _ _ [xvr 0, xvl name, xvu, xvi 0] _ _
  have lp_2 : ∀ (m2 : Nat) (p : Int), ((6 - p).toNat) = m2 → (0 ≤ p ∧ (∀ q : Nat, (q : Int) < p → ¬ σ 1 q = name)) → X 2 [xvr 0, xvl name, xvu, xvi p] σ := by
    intro m2
    induction m2 using Nat.strongRecOn with
    | _ m2 ih_2 =>
    intro p hm_2 hv_2
    obtain ⟨hv_2, hnq⟩ := hv_2
    refine hX 400 2 _ _ ?_
    intro v2 e2 l2 h2
    have e2 : v2 = σ 0 1 := e2
    refine And.intro (fun c3 => ?_) (fun c3 => ?_)
    · refine And.intro rfl ?_
      exact hQ _ (by rw [fnd_no _ (fun q hq => hnq q (by omega))])
    · refine And.intro (rfl) (And.intro (⟨by omega, by omega⟩) ?_)
      intro v4 e4 l4 h4
      have e4 : v4 = σ 1 p.toNat := e4
      intro z5 a5 b5 c5 l5 h5
      refine And.intro (fun c6 => ?_) (fun c6 => ?_)
      · intro z7 t7 e7 l7 h7
        try have w7 : t7 = 0 := by omega
        show xw _ _ _ _ _ _ _ _ _ _ [xvr 0, xvl name, xvu, xvi z7] _ _
        exact ih_2 _ (show (6 - z7).toNat < m2 from by omega) z7 rfl ⟨by omega, (fun q hq => by
                      by_cases e : (q : Int) = p
                      · rw [show q = p.toNat from by omega]; omega
                      · exact hnq q (by omega))⟩
      · refine And.intro rfl ?_
        exact hQ _ (by rw [fnd_at (k := p.toNat) (by omega) (fun q hq => hnq q (by omega)) _ (by omega)]; omega)
  exact lp_2 _ 0 rfl ⟨by omega, fun q hq => by omega⟩

