/-! An EVENING's text, line by line; the class's Reader in the world E, a call a row. -/
abbrev EVx : Type := Int × Int × (Nat → Int)
abbrev evx (p l : Int) (rd : Nat → Int) : EVx := (p, l, rd)
abbrev EVx.p (s : EVx) : Int := s.1
abbrev EVx.l (s : EVx) : Int := s.2.1
abbrev EVx.rd (s : EVx) : Nat → Int := s.2.2
def ev4 (rd : Nat → Int) (l a b k g : Int) : Nat → Int := up (up (up (up rd (4 * l).toNat a) (4 * l + 1).toNat b) (4 * l + 2).toNat k) (4 * l + 3).toNat g
theorem ev4_lo {rd : Nat → Int} {l a b k g : Int} (h : 0 ≤ l) {j : Nat} (hj : (j : Int) < 4 * l) : ev4 rd l a b k g j = rd j := by
  unfold ev4
  rw [up_n (by omega), up_n (by omega), up_n (by omega), up_n (by omega)]
theorem ev4_at {rd : Nat → Int} {l a b k g : Int} (h : 0 ≤ l) : ev4 rd l a b k g (4 * l).toNat = a ∧ ev4 rd l a b k g (4 * l + 1).toNat = b ∧ ev4 rd l a b k g (4 * l + 2).toNat = k ∧ ev4 rd l a b k g (4 * l + 3).toNat = g := by
  unfold ev4
  refine ⟨?_, ?_, ?_, ?_⟩
  · rw [up_n (by omega), up_n (by omega), up_n (by omega), up_s]
  · rw [up_n (by omega), up_n (by omega), up_s]
  · rw [up_n (by omega), up_s]
  · rw [up_s]
/-- rows as they stand behind a line -/
theorem ev4_rows {rd f : Nat → Int} {l a b k g : Int} (h : 0 ≤ l) (h0 : ∀ j : Nat, (j : Int) < 4 * l → f j = rd j) (ha : f (4 * l).toNat = a) (hb : f (4 * l + 1).toNat = b) (hk : f (4 * l + 2).toNat = k) (hg : f (4 * l + 3).toNat = g) : ∀ j : Nat, (j : Int) < 4 * l + 4 → f j = ev4 rd l a b k g j := fun j hj => by
  obtain ⟨e1, e2, e3, e4⟩ := ev4_at (rd := rd) (a := a) (b := b) (k := k) (g := g) h
  by_cases c : (j : Int) < 4 * l
  · rw [ev4_lo h c]; exact h0 j c
  · have z : j = (4 * l).toNat ∨ j = (4 * l + 1).toNat ∨ j = (4 * l + 2).toNat ∨ j = (4 * l + 3).toNat := by omega
    rcases z with rfl | rfl | rfl | rfl
    · rw [ha, e1]
    · rw [hb, e2]
    · rw [hk, e3]
    · rw [hg, e4]
/-- the answer of a line -/
noncomputable def eva (b : Nat → Int) (n m p : Int) : Sum (Int × Int) (Int × Int) := if tkc b n m p = 8 then .inr (tkp b n m p, 0) else if ¬ tkc b n m p = 7 then .inl (1, tka b n m p) else if ¬ tkc b n m (tkp b n m p) = 301 then .inl (1, tka b n m (tkp b n m p)) else if ¬ (1 ≤ tkv b n m (tkp b n m p) ∧ tkv b n m (tkp b n m p) ≤ 4) then .inl (2, tka b n m (tkp b n m p)) else .inr (tkp b n m (tkp b n m p), tkv b n m (tkp b n m p))
theorem eva_0 {b : Nat → Int} {n m p : Int} (h0 : tkc b n m p = 8) : eva b n m p = .inr (tkp b n m p, 0) := by
  unfold eva
  rw [if_pos h0]
theorem eva_1 {b : Nat → Int} {n m p : Int} (h0 : ¬ tkc b n m p = 8) (h1 : ¬ tkc b n m p = 7) : eva b n m p = .inl (1, tka b n m p) := by
  unfold eva
  rw [if_neg h0, if_pos h1]
theorem eva_2 {b : Nat → Int} {n m p : Int} (h1 : tkc b n m p = 7) (h2 : ¬ tkc b n m (tkp b n m p) = 301) : eva b n m p = .inl (1, tka b n m (tkp b n m p)) := by
  unfold eva
  rw [if_neg (show ¬ tkc b n m p = 8 by omega), if_neg (fun h => h h1), if_pos h2]
theorem eva_3 {b : Nat → Int} {n m p : Int} (h1 : tkc b n m p = 7) (h2 : tkc b n m (tkp b n m p) = 301) (h3 : ¬ (1 ≤ tkv b n m (tkp b n m p) ∧ tkv b n m (tkp b n m p) ≤ 4)) : eva b n m p = .inl (2, tka b n m (tkp b n m p)) := by
  unfold eva
  rw [if_neg (show ¬ tkc b n m p = 8 by omega), if_neg (fun h => h h1), if_neg (fun h => h h2), if_pos h3]
theorem eva_4 {b : Nat → Int} {n m p : Int} (h1 : tkc b n m p = 7) (h2 : tkc b n m (tkp b n m p) = 301) (h3 : 1 ≤ tkv b n m (tkp b n m p) ∧ tkv b n m (tkp b n m p) ≤ 4) : eva b n m p = .inr (tkp b n m (tkp b n m p), tkv b n m (tkp b n m p)) := by
  unfold eva
  rw [if_neg (show ¬ tkc b n m p = 8 by omega), if_neg (fun h => h h1), if_neg (fun h => h h2), if_neg (fun h => h h3)]
/-- the class's Reader in the world E stands at the TOKEN at p -/
def RDv (σ : xS) (b : Nat → Int) (n m p : Int) : Prop := RDt σ b n m p ∧ (0 ≤ σ 2 4 ∧ σ 2 4 ≤ n ∧ n ≤ 940)
def FLx (σ : xS) (kd pl : Int) : Prop := σ 2 9 = kd ∧ σ 2 10 = pl
theorem RDv.eq {σ σ' : xS} {b : Nat → Int} {n m p : Int} (h : RDv σ b n m p) (e2 : σ' 2 = σ 2) (e3 : σ' 3 = σ 3) (e4 : σ' 4 = σ 4) : RDv σ' b n m p := by
  obtain ⟨⟨⟨hb, hs, hm, hw⟩, hrc, h9⟩, hp⟩ := h
  refine ⟨⟨⟨e4.trans hb, (congrFun e2 2).trans hs, (congrFun e2 3).trans hm, by rw [e3]; exact hw⟩, ?_, (congrFun e2 9).trans h9⟩, by rw [e2]; exact hp⟩
  obtain ⟨c1, c2, c3, c4, c5⟩ := hrc
  exact ⟨(congrFun e2 5).trans c1, fun z => by show σ' 2 7 = _ ∧ _; rw [e2]; exact c2 z, fun z => by show WP (σ' 2 8) _; rw [e2]; exact c3 z, (congrFun e2 6).trans c4, (congrFun e2 4).trans c5⟩
theorem RDv.tk {σ : xS} {b : Nat → Int} {n m p : Int} (h : RDv σ b n m p) : σ 2 5 = tkc b n m p ∧ (tkc b n m p = 301 → σ 2 7 = tkv b n m p ∧ 0 ≤ tkv b n m p ∧ tkv b n m p < 1000) ∧ (tkc b n m p = 300 → WP (σ 2 8) (tkw b n m p)) ∧ σ 2 6 = tka b n m p ∧ σ 2 4 = tkp b n m p := h.1.2.1
theorem eAdv {σ : xS} {b : Nat → Int} {n m p : Int} {K : Option xV → xS → Prop} (h : RDv σ b n m p) (k : ∀ σ', Fr [2] [] σ σ' → RDv σ' b n m (tkp b n m p) → K none σ') : xMV shE 6 [2, 3, 4] (xT kX6_advance) [xvr 2] σ K := by
  obtain ⟨⟨⟨hb, hs, hm, hw⟩, hrc, h9⟩, hp⟩ := h
  refine xMVf (sh := shE) (ci := 6) (τ := [2, 3, 4]) (E := xT kX6_advance) (t := 2) (r := []) (σ := σ) rfl rfl (fun Q hQ => sX6_adv (σ := xsel [2, 3, 4] σ) (b := b) (n := n) (m := m) (p := tkp b n m p) (show 0 ≤ σ 2 4 ∧ σ 2 4 ≤ σ 2 2 ∧ σ 2 2 ≤ 940 from by omega) hb hs hm hrc.2.2.2.2 hw (fun ς f q => hQ _ _ ?_))
  refine k _ (f.bk (by decide) (by decide)) ⟨⟨⟨(f.1 2 (by decide) (by decide)).trans hb, (f.2 2 (by decide)).trans hs, (f.2 3 (by decide)).trans hm, ?_⟩, q.2, (f.2 9 (by decide)).trans h9⟩, q.1.1, q.1.2, hp.2.2⟩
  have e9 : (xbk [2, 3, 4] σ ς) 3 = σ 3 := f.1 1 (by decide) (by decide)
  rw [e9]; exact hw
theorem eFail {σ : xS} {b : Nat → Int} {n m p kd : Int} {K : Option xV → xS → Prop} (h : RDv σ b n m p) (k : ∀ σ', Fr [2] [] σ σ' → FLx σ' kd (tka b n m p) → K (some (xvi 0)) σ') : xMV shE 6 [2, 3, 4] (xT kX6_fail) [xvr 2, xvi kd] σ K := by
  obtain ⟨⟨⟨hb, hs, hm, hw⟩, hrc, h9⟩, hp⟩ := h
  refine xMVf (sh := shE) (ci := 6) (τ := [2, 3, 4]) (E := xT kX6_fail) (t := 2) (r := [xvi kd]) (σ := σ) rfl rfl (fun Q hQ => sX6_failF (σ := xsel [2, 3, 4] σ) (kind := kd) h9 (fun r ς f q => hQ _ _ ?_))
  obtain ⟨q1, q2, q3⟩ := q
  subst q1
  exact k _ (f.bk (by decide) (by decide)) ⟨q2, q3.trans hrc.2.2.2.1⟩
theorem eIsAt {σ : xS} {b : Nat → Int} {n m p w : Int} {K : Option xV → xS → Prop} (h : RDv σ b n m p) (k1 : tkc b n m p = w → K (some (xvi 1)) σ) (k0 : ¬ tkc b n m p = w → K (some (xvi 0)) σ) : xMV shE 6 [2, 3, 4] (xT kX6_isAt) [xvr 2, xvi w] σ K := by
  have e5 : σ 2 5 = tkc b n m p := h.1.2.1.1
  refine xMVp (sh := shE) (ci := 6) (τ := [2, 3, 4]) (E := xT kX6_isAt) (t := 2) (r := [xvi w]) (σ := σ) rfl rfl xbk_sel (fun Q hQ => sX6_isAt (σ := xsel [2, 3, 4] σ) (wanted := w) (fun r q => hQ _ ?_))
  rcases q with ⟨q1, q2⟩ | ⟨q1, q2⟩
  · subst q1; exact k1 (e5.symm.trans q2)
  · subst q1; exact k0 (fun z => q2 (e5.trans z))
theorem ePass {σ : xS} {b : Nat → Int} {n m p w : Int} {K : Option xV → xS → Prop} (h : RDv σ b n m p) (k1 : tkc b n m p = w → ∀ σ', Fr [2] [] σ σ' → RDv σ' b n m (tkp b n m p) → K (some (xvi 1)) σ') (k0 : ¬ tkc b n m p = w → ∀ σ', Fr [2] [] σ σ' → FLx σ' 1 (tka b n m p) → K (some (xvi 0)) σ') : xMV shE 6 [2, 3, 4] (xT kX6_pass) [xvr 2, xvi w] σ K := by
  obtain ⟨⟨⟨hb, hs, hm, hw⟩, hrc, h9⟩, hp⟩ := h
  refine xMVf (sh := shE) (ci := 6) (τ := [2, 3, 4]) (E := xT kX6_pass) (t := 2) (r := [xvi w]) (σ := σ) rfl rfl (fun Q hQ => sX6_passF (b := b) (n := n) (m := m) (p := p) (σ := xsel [2, 3, 4] σ) (wanted := w) (show 0 ≤ σ 2 4 ∧ σ 2 4 ≤ σ 2 2 ∧ σ 2 2 ≤ 940 from by omega) ⟨hb, hs, hm⟩ hw hrc h9 (fun r ς f q => hQ _ _ ?_))
  rcases q with ⟨q1, q2, q3, q4, q5⟩ | ⟨q1, q2, q3, q4, q5⟩
  · subst q1
    refine k1 q2 _ (f.bk (by decide) (by decide)) ⟨⟨⟨(f.1 2 (by decide) (by decide)).trans hb, (f.2 2 (by decide)).trans hs, (f.2 3 (by decide)).trans hm, ?_⟩, q5, q4⟩, q3.1, q3.2, hp.2.2⟩
    have e9 : (xbk [2, 3, 4] σ ς) 3 = σ 3 := f.1 1 (by decide) (by decide)
    rw [e9]; exact hw
  · subst q1
    exact k0 q2 _ (f.bk (by decide) (by decide)) ⟨q4, q5⟩
theorem eNum {σ : xS} {b : Nat → Int} {n m p lo hi : Int} {K : Option xV → xS → Prop} (h : RDv σ b n m p) (k1 : tkc b n m p = 301 → lo ≤ tkv b n m p ∧ tkv b n m p ≤ hi → ∀ σ', Fr [2] [] σ σ' → RDv σ' b n m p → K (some (xvi 1)) σ') (k2 : ¬ tkc b n m p = 301 → ∀ σ', Fr [2] [] σ σ' → FLx σ' 1 (tka b n m p) → K (some (xvi 0)) σ') (k3 : tkc b n m p = 301 → ¬ (lo ≤ tkv b n m p ∧ tkv b n m p ≤ hi) → ∀ σ', Fr [2] [] σ σ' → FLx σ' 2 (tka b n m p) → K (some (xvi 0)) σ') : xMV shE 6 [2, 3, 4] (xT kX6_isNumber) [xvr 2, xvi lo, xvi hi] σ K := by
  obtain ⟨⟨⟨hb, hs, hm, hw⟩, hrc, h9⟩, hp⟩ := id h
  obtain ⟨c5, c7, c8, c6, c4⟩ := id hrc
  refine xMVf (sh := shE) (ci := 6) (τ := [2, 3, 4]) (E := xT kX6_isNumber) (t := 2) (r := [xvi lo, xvi hi]) (σ := σ) rfl rfl (fun Q hQ => sX6_isNumberF (σ := xsel [2, 3, 4] σ) (least := lo) (greatest := hi) h9 (fun r ς f q => hQ _ _ ?_))
  have f2 : Fr [2] [] σ (xbk [2, 3, 4] σ ς) := f.bk (by decide) (by decide)
  rcases q with ⟨q1, q2, q3, q4, q5⟩ | ⟨q1, q2, q3, q4⟩ | ⟨q1, q2, q3, q4, q5⟩
  · subst q1
    have z := c5.symm.trans q2
    have z7 := (c7 z).1
    rw [z7] at q3 q4
    refine k1 z ⟨q3, q4⟩ _ f2 ⟨⟨⟨(f.1 2 (by decide) (by decide)).trans hb, (f.2 2 (by decide)).trans hs, (f.2 3 (by decide)).trans hm, ?_⟩, ⟨(f.2 5 (by decide)).trans c5, fun z => ?_, fun z => ?_, (f.2 6 (by decide)).trans c6, (f.2 4 (by decide)).trans c4⟩, q5⟩, ?_⟩
    · have e9 : (xbk [2, 3, 4] σ ς) 3 = σ 3 := f.1 1 (by decide) (by decide)
      rw [e9]; exact hw
    · have e7 : xsel [2, 3, 4] (xbk [2, 3, 4] σ ς) 0 7 = xsel [2, 3, 4] σ 0 7 := f.2 7 (by decide)
      rw [e7]; exact c7 z
    · have e8 : xsel [2, 3, 4] (xbk [2, 3, 4] σ ς) 0 8 = xsel [2, 3, 4] σ 0 8 := f.2 8 (by decide)
      rw [e8]; exact c8 z
    · have e4 : (xbk [2, 3, 4] σ ς) 2 4 = σ 2 4 := f.2 4 (by decide)
      rw [e4]; exact hp
  · subst q1
    exact k2 (fun z => q2 (c5.trans z)) _ f2 ⟨q3, q4.trans c6⟩
  · subst q1
    have z := c5.symm.trans q2
    have z7 := (c7 z).1
    rw [z7] at q3
    exact k3 z q3 _ f2 ⟨q4, q5.trans c6⟩
theorem ePer {σ : xS} {b nm : Nat → Int} {n m p ps : Int} {K : Option xV → xS → Prop} (h : RDv σ b n m p) (hg : 0 ≤ σ 5 1 ∧ σ 5 1 ≤ 6) (hps : σ 5 1 = ps) (hN : NMR (σ 6) nm ps) (k1 : tkc b n m p = 300 → ¬ fnd nm ps.toNat (tkw b n m p) = -1 → ∀ σ', Fr [2] [] σ σ' → RDv σ' b n m p → K (some (xvi 1)) σ') (k2 : ¬ tkc b n m p = 300 → ∀ σ', Fr [2] [] σ σ' → FLx σ' 1 (tka b n m p) → K (some (xvi 0)) σ') (k3 : tkc b n m p = 300 → fnd nm ps.toNat (tkw b n m p) = -1 → ∀ σ', Fr [2] [] σ σ' → FLx σ' 3 (tka b n m p) → K (some (xvi 0)) σ') : xMV shE 6 [2, 3, 4, 5, 6, 7, 8, 9, 10, 11, 12, 13, 14, 15, 16, 17] (xT kX6_isPerson) [xvr 2, xvr 5] σ K := by
  subst hps
  obtain ⟨⟨⟨hb, hs, hm, hw⟩, hrc, h9⟩, hp⟩ := id h
  obtain ⟨c5, c7, c8, c6, c4⟩ := id hrc
  refine xMVf (sh := shE) (ci := 6) (τ := [2, 3, 4, 5, 6, 7, 8, 9, 10, 11, 12, 13, 14, 15, 16, 17]) (E := xT kX6_isPerson) (t := 2) (r := [xvr 5]) (σ := σ) rfl rfl (fun Q hQ => sX6_isPersonF (σ := xsel [2, 3, 4, 5, 6, 7, 8, 9, 10, 11, 12, 13, 14, 15, 16, 17] σ) hg h9 (fun r ς f q => hQ _ _ ?_))
  have f2 : Fr [2] [] σ (xbk [2, 3, 4, 5, 6, 7, 8, 9, 10, 11, 12, 13, 14, 15, 16, 17] σ ς) := f.bk (by decide) (by decide)
  have hfn : tkc b n m p = 300 → fnd (σ 6) (σ 5 1).toNat (σ 2 8) = fnd nm (σ 5 1).toNat (tkw b n m p) := fun z => FNM hN rfl rfl hg.1 (c8 z)
  rcases q with ⟨q1, q2, q3, q4⟩ | ⟨q1, q2, q3, q4⟩ | ⟨q1, q2, q3, q4, q5⟩
  · subst q1
    have z := c5.symm.trans q2
    have q3 : ¬ fnd (σ 6) (σ 5 1).toNat (σ 2 8) = -1 := q3
    rw [hfn z] at q3
    refine k1 z q3 _ f2 ⟨⟨⟨(f.1 2 (by decide) (by decide)).trans hb, (f.2 2 (by decide)).trans hs, (f.2 3 (by decide)).trans hm, ?_⟩, ⟨(f.2 5 (by decide)).trans c5, fun z => ?_, fun z => ?_, (f.2 6 (by decide)).trans c6, (f.2 4 (by decide)).trans c4⟩, q4⟩, ?_⟩
    · have e9 : (xbk [2, 3, 4, 5, 6, 7, 8, 9, 10, 11, 12, 13, 14, 15, 16, 17] σ ς) 3 = σ 3 := f.1 1 (by decide) (by decide)
      rw [e9]; exact hw
    · have e7 : xsel [2, 3, 4] (xbk [2, 3, 4, 5, 6, 7, 8, 9, 10, 11, 12, 13, 14, 15, 16, 17] σ ς) 0 7 = xsel [2, 3, 4] σ 0 7 := f.2 7 (by decide)
      rw [e7]; exact c7 z
    · have e8 : xsel [2, 3, 4] (xbk [2, 3, 4, 5, 6, 7, 8, 9, 10, 11, 12, 13, 14, 15, 16, 17] σ ς) 0 8 = xsel [2, 3, 4] σ 0 8 := f.2 8 (by decide)
      rw [e8]; exact c8 z
    · have e4 : (xbk [2, 3, 4, 5, 6, 7, 8, 9, 10, 11, 12, 13, 14, 15, 16, 17] σ ς) 2 4 = σ 2 4 := f.2 4 (by decide)
      rw [e4]; exact hp
  · subst q1
    exact k2 (fun z => q2 (c5.trans z)) _ f2 ⟨q3, q4.trans c6⟩
  · subst q1
    have z := c5.symm.trans q2
    have q3 : fnd (σ 6) (σ 5 1).toNat (σ 2 8) = -1 := q3
    rw [hfn z] at q3
    exact k3 z q3 _ f2 ⟨q4, q5.trans c6⟩
theorem eFind {σ : xS} {b nm : Nat → Int} {n m p ps wv : Int} {K : Option xV → xS → Prop} (h : RDv σ b n m p) (hc : tkc b n m p = 300) (hg : 0 ≤ σ 5 1 ∧ σ 5 1 ≤ 6) (hps : σ 5 1 = ps) (hN : NMR (σ 6) nm ps) (hw : wv = σ 2 8) (k : K (some (xvi (fnd nm ps.toNat (tkw b n m p)))) σ) : xMV shE 2 [5, 6, 7, 8, 9, 10, 11, 12, 13, 14, 15, 16, 17] (xT kX2_find) [xvr 5, xvl wv] σ K := by
  subst hps; subst hw
  have hfn : fnd (σ 6) (σ 5 1).toNat (σ 2 8) = fnd nm (σ 5 1).toNat (tkw b n m p) := FNM hN rfl rfl hg.1 (h.tk.2.2.1 hc)
  refine xMVp (sh := shE) (ci := 2) (τ := [5, 6, 7, 8, 9, 10, 11, 12, 13, 14, 15, 16, 17]) (E := xT kX2_find) (t := 5) (r := [xvl (σ 2 8)]) (σ := σ) rfl rfl xbk_sel (fun Q hQ => sX2_findF (σ := xsel [5, 6, 7, 8, 9, 10, 11, 12, 13, 14, 15, 16, 17] σ) (name := σ 2 8) hg (fun r q => hQ _ ?_))
  have q : r = fnd (σ 6) (σ 5 1).toNat (σ 2 8) := q
  rw [q, hfn]
  exact k

