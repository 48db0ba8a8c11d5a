/-! The reference's text methods, a call a row. -/
def RRv (σ : xS) (b : Nat → Int) (n m p : Int) : Prop := RRs σ b n m p ∧ (σ 1 = b ∧ σ 0 3 = n ∧ σ 0 5 = m) ∧ (0 ≤ σ 0 4 ∧ σ 0 4 ≤ n ∧ n ≤ 940) ∧ BYx b n ∧ ∀ j : Nat, j < 19 → σ 6 j = R8.getD j 0
def FLr (σ : xS) (kd pl : Int) : Prop := σ 0 15 = kd ∧ σ 0 16 = pl
theorem RRv.fr {σ σ' : xS} {b : Nat → Int} {n m p : Int} {ts js : List Nat} (h : RRv σ b n m p) (f : Fr ts js σ σ') (t1 : 1 ∉ ts := by decide) (t6 : 6 ∉ ts := by decide) (j3 : 3 ∉ js := by decide) (j5 : 5 ∉ js := by decide) (j4 : 4 ∉ js := by decide) (j11 : 11 ∉ js := by decide) (j12 : 12 ∉ js := by decide) (j14 : 14 ∉ js := by decide) (j17 : 17 ∉ js := by decide) : RRv σ' b n m p := by
  obtain ⟨hR, ⟨h1, h3, h5⟩, hp, hy, hw⟩ := h
  refine ⟨?_, ⟨(f.1 1 (by decide) t1).trans h1, (f.2 3 j3).trans h3, (f.2 5 j5).trans h5⟩, by rw [f.2 4 j4]; exact hp, hy, by rw [f.1 6 (by decide) t6]; exact hw⟩
  unfold RRs at hR ⊢
  rw [f.2 11 j11, f.2 14 j14, f.2 17 j17, f.2 12 j12, f.2 4 j4]
  exact hR
theorem rNext {σ : xS} {b : Nat → Int} {n m p : Int} {Q : Option xV → xS → Prop} (h : RRv σ b n m p) (k : ∀ σ', Fr [] [4, 11, 12, 13, 14, 17] σ σ' → RRv σ' b n m (tkp b n m p) → Q none σ') : xT kX11_next [xvr 0] σ Q := by
  obtain ⟨hR, ⟨h1, h3, h5⟩, hp, hy, hw⟩ := h
  refine s_nxG (σ := σ) (b := b) (n := n) (m := m) (p := tkp b n m p) hp hy h1 h3 h5 hR.2.2.2.2.2.2 (fun σ' f q => k σ' f ⟨q.2, ⟨(f.1 1 (by decide) (by decide)).trans h1, (f.2 3 (by decide)).trans h3, (f.2 5 (by decide)).trans h5⟩, ⟨q.1.1, q.1.2, hp.2.2⟩, hy, by rw [f.1 6 (by decide) (by decide)]; exact hw⟩)
theorem rName {σ : xS} {b : Nat → Int} {n m p : Int} {Q : Option xV → xS → Prop} (h : RRv σ b n m p) (k1 : tkc b n m p = 300 → Q (some (xvi 1)) σ) (k0 : ¬ tkc b n m p = 300 → Q (some (xvi 0)) σ) : xT kX11_isName [xvr 0] σ Q := by
  refine s_isNameT (σ := σ) h.1 h.2.2.2.2 (fun r q => ?_)
  rcases q with ⟨q1, q2⟩ | ⟨q1, q2⟩
  · subst q1; exact k1 q2
  · subst q1; exact k0 q2
theorem rWord {σ : xS} {b : Nat → Int} {n m p w : Int} (j : Nat) {Q : Option xV → xS → Prop} (h : RRv σ b n m p) (hj : j < 19) (hw : w = R8.getD j 0) (k1 : tkc b n m p = j → Q (some (xvi 1)) σ) (k0 : ¬ tkc b n m p = j → Q (some (xvi 0)) σ) : xT kX11_isWord [xvr 0, xvl w] σ Q := by
  refine s_isWordT (σ := σ) (j := j) h.1 hj hw (fun r q => ?_)
  rcases q with ⟨q1, q2⟩ | ⟨q1, q2⟩
  · subst q1; exact k1 q2
  · subst q1; exact k0 q2
theorem rTakes {σ : xS} {b : Nat → Int} {n m p lo hi : Int} {Q : Option xV → xS → Prop} (h : RRv σ b n m p) (k1 : tkc b n m p = 301 → lo ≤ tkv b n m p ∧ tkv b n m p ≤ hi → ∀ σ', Fr [] [4, 11, 12, 13, 14, 15, 16, 17, 18] σ σ' → RRv σ' b n m (tkp b n m p) ∧ σ' 0 18 = tkv b n m p → Q (some (xvi 1)) σ') (k2 : ¬ tkc b n m p = 301 → ∀ σ', Fr [] [4, 11, 12, 13, 14, 15, 16, 17, 18] σ σ' → FLr σ' 1 (tka b n m p) → Q (some (xvi 0)) σ') (k3 : tkc b n m p = 301 → ¬ (lo ≤ tkv b n m p ∧ tkv b n m p ≤ hi) → ∀ σ', Fr [] [4, 11, 12, 13, 14, 15, 16, 17, 18] σ σ' → FLr σ' 2 (tka b n m p) → Q (some (xvi 0)) σ') : xT kX11_takes [xvr 0, xvi lo, xvi hi] σ Q := by
  obtain ⟨hR, ⟨h1, h3, h5⟩, hp, hy, hw⟩ := h
  refine s_takesG (σ := σ) (b := b) (n := n) (m := m) (p := p) (low := lo) (high := hi) hp hy h1 h3 h5 hR (fun r σ' f q => ?_)
  rcases q with ⟨q1, q2, q3, q4, q5, q6⟩ | ⟨q1, q2, q3⟩ | ⟨q1, q2, q3, q4⟩
  · subst q1
    exact k1 q2 q3 σ' f ⟨⟨q6, ⟨(f.1 1 (by decide) (by decide)).trans h1, (f.2 3 (by decide)).trans h3, (f.2 5 (by decide)).trans h5⟩, ⟨q5.1, q5.2, hp.2.2⟩, hy, by rw [f.1 6 (by decide) (by decide)]; exact hw⟩, q4⟩
  · subst q1; exact k2 q2 σ' f q3
  · subst q1; exact k3 q2 q3 σ' f q4
theorem rBad {σ : xS} {b : Nat → Int} {n m p kd : Int} {Q : Option xV → xS → Prop} (h : RRv σ b n m p) (k : ∀ σ', Fr [] [15, 16] σ σ' → FLr σ' kd (tka b n m p) → Q (some (xvi 0)) σ') : xT kX11_bad [xvr 0, xvi kd] σ Q := by
  refine s_badE (σ := σ) (kind := kd) (fun r σ' f q => ?_)
  obtain ⟨q1, q2, q3⟩ := q
  subst q1
  exact k σ' f ⟨q2, q3.trans h.1.2.2.2.2.2.1⟩
theorem rSign {σ : xS} {b : Nat → Int} {n m p c : Int} {Q : Option xV → xS → Prop} (h : RRv σ b n m p) (hc : 19 ≤ c ∧ c < 300) (k1 : tkc b n m p = c → ∀ σ', Fr [] [4, 11, 12, 13, 14, 15, 16, 17] σ σ' → RRv σ' b n m (tkp b n m p) → Q (some (xvi 1)) σ') (k0 : ¬ tkc b n m p = c → ∀ σ', Fr [] [4, 11, 12, 13, 14, 15, 16, 17] σ σ' → FLr σ' 1 (tka b n m p) → Q (some (xvi 0)) σ') : xT kX11_sign [xvr 0, xvi c] σ Q := by
  obtain ⟨hR, ⟨h1, h3, h5⟩, hp, hy, hw⟩ := h
  refine s_signG (σ := σ) (b := b) (n := n) (m := m) (p := p) (c := c) hp hy h1 h3 h5 hR hc (fun r σ' f q => ?_)
  rcases q with ⟨q1, q2, q3, q4⟩ | ⟨q1, q2, q3, q4⟩
  · subst q1
    exact k1 q2 σ' f ⟨q4, ⟨(f.1 1 (by decide) (by decide)).trans h1, (f.2 3 (by decide)).trans h3, (f.2 5 (by decide)).trans h5⟩, ⟨q3.1, q3.2, hp.2.2⟩, hy, by rw [f.1 6 (by decide) (by decide)]; exact hw⟩
  · subst q1
    exact k0 q2 σ' f ⟨q3, q4⟩
theorem rFind {σ : xS} {b nm : Nat → Int} {n m p ps many : Int} {Q : Option xV → xS → Prop} (h : RRv σ b n m p) (hc : tkc b n m p = 300) (hm : many = ps) (hps : 0 ≤ ps ∧ ps ≤ 6) (hN : ∀ q : Nat, q < 6 → σ 5 q = nm q) (k : Q (some (xvi (fnd nm ps.toNat (tkw b n m p)))) σ) : xT kX11_find [xvr 0, xvi 0, xvi many] σ Q := by
  subst hm
  refine s_findR (σ := σ) (from_ := 0) (many := many) ⟨Or.inl rfl, hps⟩ (fun r q => ?_)
  have e17 : σ 0 17 = tkw b n m p := h.1.2.2.2.2.1 hc
  rw [e17] at q
  have z : fnd (fun q => σ 5 ((0 : Int).toNat + q)) many.toNat (tkw b n m p) = fnd nm many.toNat (tkw b n m p) := fnd_nm _ (fun q hq => by
    show σ 5 (0 + q) = nm q
    rw [Nat.zero_add]
    exact hN q (by omega))
  rw [q, z]
  exact k
