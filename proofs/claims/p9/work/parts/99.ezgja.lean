/-! The reference's next: how a run goes on. -/
def OPQ (p : Prop) : Prop := p
theorem RQ.al0 {small pk c r : Int} (hs : small = 0 ∨ small = 1) (p : (r = 1 ∧ 97 ≤ pk ∧ pk ≤ 122) ∨ (r = 0 ∧ (pk < 97 ∨ 122 < pk))) (hpk : pk = c) (hc : 97 ≤ c ∧ c ≤ 122 ∨ 48 ≤ c ∧ c ≤ 57) (h : ¬ small = r) : (small = 1 ∧ dgC c) ∨ (small = 0 ∧ smC c) := by
  unfold dgC smC; omega
theorem RQ.al1 {small pk c r : Int} (hs : small = 0 ∨ small = 1) (p : (r = 1 ∧ 97 ≤ pk ∧ pk ≤ 122) ∨ (r = 0 ∧ (pk < 97 ∨ 122 < pk))) (hpk : pk = c) (hc : 97 ≤ c ∧ c ≤ 122 ∨ 48 ≤ c ∧ c ≤ 57) (h : small = r) : (small = 1 ∧ smC c) ∨ (small = 0 ∧ dgC c) := by
  unfold dgC smC; omega
/-- what isSmall answers -/
def SMr (r c : Int) : Prop := (r = 1 ∧ 97 ≤ c ∧ c ≤ 122) ∨ (r = 0 ∧ (c < 97 ∨ 122 < c))
def ALN (al b c al' : Int) : Prop := (al' = 0 ∧ (al = 0 ∨ ∃ r, SMr r c ∧ ¬ r = b)) ∨ (al' = 1 ∧ ¬ al = 0 ∧ SMr b c)
theorem nx275 {Q : Option xV → xS → Prop} {X : Nat → List xV → xS → Prop} (hX : ∀ n c L σ, xwC kX11_next X Q n c L σ → X c L σ) {s : xS} {a b al : Int} (h : 0 ≤ s 0 13 ∧ s 0 13 ≤ 940 ∧ 0 ≤ s 0 4 ∧ s 0 4 ≤ 940) (K : X 181 [xvr 0, xvi a, xvi b, xvi al] (xput (xput s 0 13 (s 0 13 + 1)) 0 4 (s 0 4 + 1))) : X 275 [xvr 0, xvi a, xvi b, xvi al] s := by
  refine hX 400 275 _ _ ?_
  intro v25 e25 l25 h25
  have e25 : v25 = s 0 13 := e25
  intro z26 t26 e26 l26 h26
  have w26 : t26 = 0 := by omega
  have y26 : z26 = s 0 13 + 1 := by omega
  clear e26 l26 h26
  subst y26
  intro v28 e28 l28 h28
  have e28 : v28 = s 0 4 := e28
  intro z29 t29 e29 l29 h29
  have w29 : t29 = 0 := by omega
  have y29 : z29 = s 0 4 + 1 := by omega
  clear e29 l29 h29
  subst y29
  exact K
theorem nx248 {Q : Option xV → xS → Prop} {X : Nat → List xV → xS → Prop} (hX : ∀ n c L σ, xwC kX11_next X Q n c L σ → X c L σ) {s : xS} {a b al c : Int} (h : 0 ≤ s 0 13 ∧ s 0 13 ≤ 940 ∧ 0 ≤ s 0 4 ∧ s 0 4 ≤ 940) (h3 : s 0 3 ≤ 940) (hc : pkf s = c) (hc2 : 48 ≤ c ∧ c ≤ 122) (K : ∀ s' : xS, Fr [] [4, 13, 14] s s' → (s' 0 4 = s 0 4 + 1 ∧ s' 0 13 = s 0 13 + 1) → NY (s 0 13) (s 0 14) (s' 0 14) c → X 181 [xvr 0, xvi a, xvi b, xvi al] s') : X 248 [xvr 0, xvi a, xvi b, xvi al] s := by
  refine hX 400 248 _ _ ?_
  intro v31 e31 l31 h31
  have e31 : v31 = s 0 13 := e31
  refine And.intro (fun c32 => ?_) (fun c32 => ?_)
  · exact nx275 hX h (K _ ((Fr.rf.p (by decide)).p (by decide)) ⟨rfl, rfl⟩ (fun h1 => absurd h1 (by omega)))
  · intro v33 e33 l33 h33
    have e33 : v33 = s 0 14 := e33
    intro z34 t34 e34 l34 h34
    refine s_peek (σ := s) ⟨h.2.2.1, h3⟩ (fun r35 p35 => ?_)
    replace p35 : r35 = c := p35.1.trans ((pkf_eq rfl rfl rfl).trans hc)
    clear hc
    intro z36 t36 e36 l36 h36
    intro z37 t37 e37 l37 h37
    have hNY : NY (s 0 13) (s 0 14) z37 c := fun h1 h2 h3 => by
      have w34 : t34 = 0 := by omega
      have w36 : t36 = 0 := by omega
      have w37 : t37 = 0 := by omega
      omega
    exact nx275 hX (s := xput s 0 14 z37) h (K _ (((Fr.rf.p (by decide)).p (by decide)).p (by decide)) ⟨rfl, rfl⟩ hNY)
theorem nx201 {Q : Option xV → xS → Prop} {X : Nat → List xV → xS → Prop} (hX : ∀ n c L σ, xwC kX11_next X Q n c L σ → X c L σ) {s : xS} {a b al c : Int} (h : 0 ≤ s 0 13 ∧ s 0 13 ≤ 940 ∧ 0 ≤ s 0 4 ∧ s 0 4 ≤ 940) (h3 : s 0 3 ≤ 940) (hc : pkf s = c) (hc2 : 48 ≤ c ∧ c ≤ 122) (K : ∀ (s' : xS) (al' : Int), Fr [] [4, 13, 14, 17] s s' → (s' 0 4 = s 0 4 + 1 ∧ s' 0 13 = s 0 13 + 1) → WY (s 0 13) (s 0 17) (s' 0 17) c → NY (s 0 13) (s 0 14) (s' 0 14) c → ALN al b c al' → X 181 [xvr 0, xvi a, xvi b, xvi al'] s') : X 201 [xvr 0, xvi a, xvi b, xvi al] s := by
  have K0 : ∀ al' : Int, ALN al b c al' → 7 ≤ s 0 13 → X 248 [xvr 0, xvi a, xvi b, xvi al'] s := fun al' hal h7 =>
    nx248 hX h h3 hc hc2 (fun s' hF h1 hNY => K s' al' ((Fr.rf (ts := []) (js := [4, 13, 14, 17])).tr hF (by decide) (by decide)) h1 (fun h1 => absurd h1 (by omega)) hNY hal)
  have K1 : ∀ al' z42 z44 : Int, ALN al b c al' → z42 = (Int64.ofInt (s 0 17) <<< ((Int32.ofInt 8).toInt64 &&& 63)).toInt → z44 = (Int64.ofInt z42 ||| Int64.ofInt c).toInt → X 248 [xvr 0, xvi a, xvi b, xvi al'] (xput s 0 17 z44) := fun al' z42 z44 hal e42 e44 =>
    nx248 hX (s := xput s 0 17 z44) h h3 ((pkf_eq rfl rfl rfl).trans hc) hc2 (fun s' hF h1 hNY => K s' al' ((Fr.rf.p (ts := []) (js := [4, 13, 14, 17]) (by decide)).tr hF (by decide) (by decide)) h1 (fun h1 h2 h3 => (show s' 0 17 = z44 from hF.2 17 (by decide)).trans (xlor8 (w := s 0 17) (c := c) h2 h3 (by omega) (by omega) e42 e44)) hNY hal)
  clear K
  refine hX 400 201 _ _ ?_
  refine And.intro (fun c22 => ?_) (fun c22 => ?_)
  · refine hX 400 220 _ _ ?_
    refine And.intro (Nat.le_of_ble_eq_true rfl) ?_
    show xw _ _ _ _ _ _ _ _ _ _ [xvr 0, xvi a, xvi b, xvi 0] _ _
    have hal : ALN al b c 0 := Or.inl ⟨rfl, Or.inl (by omega)⟩
    intro v39 e39 l39 h39
    have e39 : v39 = s 0 13 := e39
    refine And.intro (fun c40 => ?_) (fun c40 => ?_)
    · exact K0 0 hal (by omega)
    · intro v41 e41 l41 h41
      have e41 : v41 = s 0 17 := e41
      intro z42 e42 l42 h42
      refine s_peek (σ := s) ⟨h.2.2.1, h3⟩ (fun r43 p43 => ?_)
      replace p43 : r43 = c := p43.1.trans ((pkf_eq rfl rfl rfl).trans hc)
      subst p43
      intro z44 e44 l44 h44
      exact K1 0 z42 z44 hal (e41 ▸ e42) e44
  · refine s_peek (σ := s) ⟨h.2.2.1, h3⟩ (fun r46 p46 => ?_)
    replace p46 : r46 = c := p46.1.trans ((pkf_eq rfl rfl rfl).trans hc)
    subst p46
    refine s_isSmall (σ := s) (c := r46) (fun r47 p47 => ?_)
    have p47 : SMr r47 r46 := p47
    refine And.intro (fun c48 => ?_) (fun c48 => ?_)
    · refine hX 400 220 _ _ ?_
      refine And.intro (Nat.le_of_ble_eq_true rfl) ?_
      show xw _ _ _ _ _ _ _ _ _ _ [xvr 0, xvi a, xvi b, xvi 0] _ _
      have hal : ALN al b r46 0 := Or.inl ⟨rfl, Or.inr ⟨r47, p47, (by first | assumption | omega)⟩⟩
      intro v39 e39 l39 h39
      have e39 : v39 = s 0 13 := e39
      refine And.intro (fun c40 => ?_) (fun c40 => ?_)
      · exact K0 0 hal (by omega)
      · intro v41 e41 l41 h41
        have e41 : v41 = s 0 17 := e41
        intro z42 e42 l42 h42
        refine s_peek (σ := s) ⟨h.2.2.1, h3⟩ (fun r43 p43 => ?_)
        replace p43 : r43 = r46 := p43.1.trans ((pkf_eq rfl rfl rfl).trans hc)
        subst p43
        intro z44 e44 l44 h44
        exact K1 0 z42 z44 hal (e41 ▸ e42) e44
    · refine And.intro (Nat.le_of_ble_eq_true rfl) ?_
      show xw _ _ _ _ _ _ _ _ _ _ [xvr 0, xvi a, xvi b, xvi 1] _ _
      have e48 : r47 = b := by omega
      subst e48
      have hal : ALN al r47 r46 1 := Or.inr ⟨rfl, (by omega), p47⟩
      intro v39 e39 l39 h39
      have e39 : v39 = s 0 13 := e39
      refine And.intro (fun c40 => ?_) (fun c40 => ?_)
      · exact K0 1 hal (by omega)
      · intro v41 e41 l41 h41
        have e41 : v41 = s 0 17 := e41
        intro z42 e42 l42 h42
        refine s_peek (σ := s) ⟨h.2.2.1, h3⟩ (fun r43 p43 => ?_)
        replace p43 : r43 = r46 := p43.1.trans ((pkf_eq rfl rfl rfl).trans hc)
        subst p43
        intro z44 e44 l44 h44
        exact K1 1 z42 z44 hal (e41 ▸ e42) e44
/-- one more byte of a run -/
theorem RQ.go {b : Nat → Int} {q : Nat} {all small w n al' sp sp' w' n' p : Int} (h : RQ b q sp.toNat all small w n) (hsm : SM b q small) (hsb : small = 0 ∨ small = 1) (hall : all = 0 ∨ all = 1) (h0 : 0 ≤ sp) (hs : sp' = sp + 1) (hp : p = (q : Int) + sp) (hc : 97 ≤ b p.toNat ∧ b p.toNat ≤ 122 ∨ 48 ≤ b p.toNat ∧ b p.toNat ≤ 57) (hw : WY sp w w' (b p.toNat)) (hn : NY sp n n' (b p.toNat)) (hal : ALN all small (b p.toNat) al') : RQ b q sp'.toNat al' small w' n' ∧ (al' = 0 ∨ al' = 1) := by
  have e9 : sp'.toNat = sp.toNat + 1 := by omega
  have e8 : q + sp.toNat = p.toNat := by omega
  rw [e9]
  have e7 : sp = (sp.toNat : Int) := by omega
  clear hs hp
  generalize hcc : b p.toNat = c at *
  have hD : alC c := by unfold alC smC dgC; omega
  rcases hal with ⟨a1, a2⟩ | ⟨a1, a2, a3⟩
  · refine ⟨RQ.step (c := c) (sp := sp) h hsm (by rw [e8]; exact hcc.symm) e7 (Or.inr ⟨a1, ?_⟩) hD hw hn, Or.inl a1⟩
    rcases a2 with a2 | ⟨r, a2, a3⟩
    · exact Or.inl a2
    · exact Or.inr (RQ.al0 (pk := c) (r := r) hsb a2 rfl hc (fun e => a3 e.symm))
  · exact ⟨RQ.step (c := c) (sp := sp) h hsm (by rw [e8]; exact hcc.symm) e7 (Or.inl ⟨a1, (by omega), RQ.al1 (pk := c) (r := small) hsb a3 rfl hc rfl⟩) hD hw hn, Or.inr a1⟩
