/-! whom, odds, next: what they use is said by what they are asked. -/
set_option maxHeartbeats 4000000 in
set_option maxRecDepth 100000 in
theorem pX10_whom_a2 {w : Nat → Bool} {σ : xS} {o : Int} {Q : Option xV → xS → Prop} {Z : Nat → List xV → xS → Prop} (hp0 : JG (xsel [2, 3, 4, 5, 6, 7, 8, 9, 10, 11, 12, 13, 14] σ)) (hQ : ∀ r : Int, ∀ σ' : xS, Fr [] [] σ σ' → ((o < 0 ∨ σ 2 1 ≤ o) ∨ σ 5 o.toNat = 0 ∨ σ 2 1 < 2) → Q (some (xvi r)) σ')(hZ : (0 ≤ o ∧ o ≤ 5) → ((0 ≤ o ∧ o < σ 2 1) ∧ ¬ σ 5 o.toNat = 0 ∧ 2 ≤ σ 2 1) → Z 36 [xvr 0, xvi o, xvu] σ) : xTE (kX10_whom_a w) Q Z 0 [xvr 0, xvi o, xvu] σ := by
  intro X hX hZZ
  have hF : Fr [] [] σ σ := Fr.rf
  refine hX 400 0 _ _ ?_
  have hb0 : 0 ≤ σ 2 0 ∧ σ 2 0 ≤ 13 := hp0.1.1.1
  have hb1 : 0 ≤ σ 2 1 ∧ σ 2 1 ≤ 6 := hp0.1.1.2.1
  have hb8 : 0 ≤ σ 2 8 ∧ σ 2 8 ≤ σ 2 9 ∧ σ 2 9 ≤ 52 := hp0.1.1.2.2.1
  have hb9 : 0 ≤ σ 11 2 ∧ σ 11 2 ≤ 52 := hp0.1.2.2.2
  have lp_34 : ∀ (_ : Unit), ((o < 0 ∨ σ 2 1 ≤ o) ∨ σ 5 o.toNat = 0 ∨ σ 2 1 < 2) → X 34 [xvr 0, xvi o, xvu] σ := by
    intro _ hv_34
    refine hX 400 34 _ _ ?_
    refine And.intro rfl ?_
    exact hQ _ _ hF hv_34
  refine xMVp (sh := (shW wlVF0 w)) (ci := 2) (τ := [2, 3, 4, 5, 6, 7, 8, 9, 10, 11, 12, 13, 14]) (E := xT kX2_hasPerson) (t := 2) (r := [xvi o]) (σ := σ) rfl rfl xbk_sel (fun Q2 hQ2 => sX2_hasPerson (σ := xsel [2, 3, 4, 5, 6, 7, 8, 9, 10, 11, 12, 13, 14] σ) (p := o)  (fun r2 p2 => hQ2 _ ?_))
  have p2 : (r2 = 1 ∧ 0 ≤ o ∧ o < (σ 2 1)) ∨ (r2 = 0 ∧ (o < 0 ∨ (σ 2 1) ≤ o)) := p2
  refine And.intro (fun c3 => ?_) (fun c3 => ?_)
  · replace p2 : (o < 0 ∨ (σ 2 1) ≤ o) := by
      rcases p2 with q | q
      · exact absurd q.1 (by omega)
      · exact q.2
    exact lp_34 () (show ((o < 0 ∨ σ 2 1 ≤ o) ∨ σ 5 o.toNat = 0 ∨ σ 2 1 < 2) from by first | trivial | omega | (refine ⟨by assumption, ?_⟩; omega) | (refine ⟨?_, ?_⟩ <;> omega))
  · replace p2 : 0 ≤ o ∧ o < (σ 2 1) := by
      rcases p2 with q | q
      · exact q.2
      · exact absurd q.1 (by omega)
    refine And.intro (rfl) (And.intro (⟨by omega, by omega⟩) ?_)
    intro v4 e4 l4 h4
    have e4 : v4 = σ 5 o.toNat := e4
    refine And.intro (fun c5 => ?_) (fun c5 => ?_)
    · exact lp_34 () (show ((o < 0 ∨ σ 2 1 ≤ o) ∨ σ 5 o.toNat = 0 ∨ σ 2 1 < 2) from by first | trivial | omega | (refine ⟨by assumption, ?_⟩; omega) | (refine ⟨?_, ?_⟩ <;> omega))
    · intro v6 e6 l6 h6
      have e6 : v6 = σ 2 1 := e6
      refine And.intro (fun c7 => ?_) (fun c7 => ?_)
      · exact hZZ _ _ _ (hZ (by omega) (by omega))
      · exact lp_34 () (show ((o < 0 ∨ σ 2 1 ≤ o) ∨ σ 5 o.toNat = 0 ∨ σ 2 1 < 2) from by first | trivial | omega | (refine ⟨by assumption, ?_⟩; omega) | (refine ⟨?_, ?_⟩ <;> omega))
set_option maxHeartbeats 4000000 in
set_option maxRecDepth 100000 in
theorem pX10_odds_a2 {w : Nat → Bool} {σ : xS} {o q kind what : Int} {Q : Option xV → xS → Prop} {Z : Nat → List xV → xS → Prop} (hp0 : JG (xsel [2, 3, 4, 5, 6, 7, 8, 9, 10, 11, 12, 13, 14] σ)) (hT : ¬ ((0 ≤ o ∧ o < σ 2 1) ∧ (0 ≤ q ∧ q < σ 2 1) ∧ (0 ≤ kind ∧ kind < σ 2 0) ∧ ¬ o = q ∧ (0 ≤ what ∧ what ≤ 1)) → Z 26 [xvr 0, xvi o, xvi q, xvi kind, xvi what, xvu] σ) (hZ : (0 ≤ o ∧ o ≤ 5) → (0 ≤ q ∧ q ≤ 5) → (0 ≤ kind ∧ kind ≤ 12) → ((0 ≤ o ∧ o < σ 2 1) ∧ (0 ≤ q ∧ q < σ 2 1) ∧ (0 ≤ kind ∧ kind < σ 2 0) ∧ ¬ o = q ∧ (0 ≤ what ∧ what ≤ 1)) → Z 36 [xvr 0, xvi o, xvi q, xvi kind, xvi what, xvu] σ) : xTE (kX10_odds_a w) Q Z 0 [xvr 0, xvi o, xvi q, xvi kind, xvi what, xvu] σ := by
  intro X hX hZZ
  have hF : Fr [] [] σ σ := Fr.rf
  refine hX 400 0 _ _ ?_
  have hb0 : 0 ≤ σ 2 0 ∧ σ 2 0 ≤ 13 := hp0.1.1.1
  have hb1 : 0 ≤ σ 2 1 ∧ σ 2 1 ≤ 6 := hp0.1.1.2.1
  have hb8 : 0 ≤ σ 2 8 ∧ σ 2 8 ≤ σ 2 9 ∧ σ 2 9 ≤ 52 := hp0.1.1.2.2.1
  have hb9 : 0 ≤ σ 11 2 ∧ σ 11 2 ≤ 52 := hp0.1.2.2.2
  refine xMVp (sh := (shW wlVF0 w)) (ci := 10) (τ := [0, 1, 2, 3, 4, 5, 6, 7, 8, 9, 10, 11, 12, 13, 14, 15, 16, 17, 18, 19, 20, 21, 22, 23, 24, 25, 26, 27, 28, 29, 30, 31, 32, 33, 34, 35, 36, 37, 38, 39, 40, 41, 42, 43, 44, 45, 46]) (E := xT kX10_areSuch) (t := 0) (r := [xvi o, xvi q, xvi kind]) (σ := σ) rfl rfl xbk_sel (fun Q1 hQ1 => sX10_areSuch2 (σ := xsel [0, 1, 2, 3, 4, 5, 6, 7, 8, 9, 10, 11, 12, 13, 14, 15, 16, 17, 18, 19, 20, 21, 22, 23, 24, 25, 26, 27, 28, 29, 30, 31, 32, 33, 34, 35, 36, 37, 38, 39, 40, 41, 42, 43, 44, 45, 46] σ) (p := o) (q := q) (kind := kind) (show JG (xsel [2, 3, 4, 5, 6, 7, 8, 9, 10, 11, 12, 13, 14] (xsel [0, 1, 2, 3, 4, 5, 6, 7, 8, 9, 10, 11, 12, 13, 14, 15, 16, 17, 18, 19, 20, 21, 22, 23, 24, 25, 26, 27, 28, 29, 30, 31, 32, 33, 34, 35, 36, 37, 38, 39, 40, 41, 42, 43, 44, 45, 46] σ)) from by exact hp0) (fun r1 p1 => hQ1 _ ?_))
  have p1 : (r1 = 1 ∧ (0 ≤ o ∧ o < (σ 2 1)) ∧ (0 ≤ q ∧ q < (σ 2 1)) ∧ (0 ≤ kind ∧ kind < (σ 2 0))) ∨ (r1 = 0 ∧ ((o < 0 ∨ σ 2 1 ≤ o) ∨ (q < 0 ∨ σ 2 1 ≤ q) ∨ (kind < 0 ∨ σ 2 0 ≤ kind))) := p1
  refine And.intro (fun c2 => ?_) (fun c2 => ?_)
  · replace p1 : ((o < 0 ∨ σ 2 1 ≤ o) ∨ (q < 0 ∨ σ 2 1 ≤ q) ∨ (kind < 0 ∨ σ 2 0 ≤ kind)) := by
      rcases p1 with q | q
      · exact absurd q.1 (by omega)
      · exact q.2
    exact hZZ _ _ _ (hT (by omega))
  · replace p1 : (0 ≤ o ∧ o < (σ 2 1)) ∧ (0 ≤ q ∧ q < (σ 2 1)) ∧ (0 ≤ kind ∧ kind < (σ 2 0)) := by
      rcases p1 with q | q
      · exact q.2
      · exact absurd q.1 (by omega)
    refine And.intro (fun c3 => ?_) (fun c3 => ?_)
    · exact hZZ _ _ _ (hT (by omega))
    · refine And.intro (fun c4 => ?_) (fun c4 => ?_)
      · exact hZZ _ _ _ (hT (by omega))
      · refine And.intro (fun c5 => ?_) (fun c5 => ?_)
        · exact hZZ _ _ _ (hZ (by omega) (by omega) (by omega) (by omega))
        · exact hZZ _ _ _ (hT (by omega))
set_option maxHeartbeats 4000000 in
set_option maxRecDepth 100000 in
theorem pX10_next_a2 {w : Nat → Bool} {σ : xS} {o kind what : Int} {Q : Option xV → xS → Prop} {Z : Nat → List xV → xS → Prop} (hp0 : JG (xsel [2, 3, 4, 5, 6, 7, 8, 9, 10, 11, 12, 13, 14] σ)) (hT : ¬ ((0 ≤ o ∧ o < σ 2 1) ∧ (0 ≤ kind ∧ kind < σ 2 0) ∧ (0 ≤ what ∧ what ≤ 1) ∧ ¬ σ 2 9 = σ 2 8) → Z 31 [xvr 0, xvi o, xvi kind, xvi what, xvu, xvu] σ) (hT2 : ∀ left : Int, ¬ ((0 ≤ o ∧ o < σ 2 1) ∧ (0 ≤ kind ∧ kind < σ 2 0) ∧ (0 ≤ what ∧ what ≤ 1) ∧ ¬ σ 2 9 = σ 2 8) → Z 56 [xvr 0, xvi o, xvi kind, xvi what, xvi left, xvu] σ) (hZ : ∀ left : Int, (0 ≤ o ∧ o ≤ 5) → (0 ≤ kind ∧ kind ≤ 12) → (0 ≤ left ∧ left ≤ 52) → ((0 ≤ o ∧ o < σ 2 1) ∧ (0 ≤ kind ∧ kind < σ 2 0) ∧ (0 ≤ what ∧ what ≤ 1) ∧ ¬ σ 2 9 = σ 2 8) → Z 67 [xvr 0, xvi o, xvi kind, xvi what, xvi left, xvu] σ) : xTE (kX10_next_a w) Q Z 0 [xvr 0, xvi o, xvi kind, xvi what, xvu, xvu] σ := by
  intro X hX hZZ
  have hF : Fr [] [] σ σ := Fr.rf
  refine hX 400 0 _ _ ?_
  have hb0 : 0 ≤ σ 2 0 ∧ σ 2 0 ≤ 13 := hp0.1.1.1
  have hb1 : 0 ≤ σ 2 1 ∧ σ 2 1 ≤ 6 := hp0.1.1.2.1
  have hb8 : 0 ≤ σ 2 8 ∧ σ 2 8 ≤ σ 2 9 ∧ σ 2 9 ≤ 52 := hp0.1.1.2.2.1
  have hb9 : 0 ≤ σ 11 2 ∧ σ 11 2 ≤ 52 := hp0.1.2.2.2
  refine xMVp (sh := (shW wlVF0 w)) (ci := 2) (τ := [2, 3, 4, 5, 6, 7, 8, 9, 10, 11, 12, 13, 14]) (E := xT kX2_hasPerson) (t := 2) (r := [xvi o]) (σ := σ) rfl rfl xbk_sel (fun Q1 hQ1 => sX2_hasPerson (σ := xsel [2, 3, 4, 5, 6, 7, 8, 9, 10, 11, 12, 13, 14] σ) (p := o)  (fun r1 p1 => hQ1 _ ?_))
  have p1 : (r1 = 1 ∧ 0 ≤ o ∧ o < (σ 2 1)) ∨ (r1 = 0 ∧ (o < 0 ∨ (σ 2 1) ≤ o)) := p1
  refine And.intro (fun c2 => ?_) (fun c2 => ?_)
  · replace p1 : (o < 0 ∨ (σ 2 1) ≤ o) := by
      rcases p1 with q | q
      · exact absurd q.1 (by omega)
      · exact q.2
    exact hZZ _ _ _ (hT (by omega))
  · replace p1 : 0 ≤ o ∧ o < (σ 2 1) := by
      rcases p1 with q | q
      · exact q.2
      · exact absurd q.1 (by omega)
    refine xMVp (sh := (shW wlVF0 w)) (ci := 2) (τ := [2, 3, 4, 5, 6, 7, 8, 9, 10, 11, 12, 13, 14]) (E := xT kX2_hasKind) (t := 2) (r := [xvi kind]) (σ := σ) rfl rfl xbk_sel (fun Q3 hQ3 => sX2_hasKind (σ := xsel [2, 3, 4, 5, 6, 7, 8, 9, 10, 11, 12, 13, 14] σ) (kind := kind)  (fun r3 p3 => hQ3 _ ?_))
    have p3 : (r3 = 1 ∧ 0 ≤ kind ∧ kind < (σ 2 0)) ∨ (r3 = 0 ∧ (kind < 0 ∨ (σ 2 0) ≤ kind)) := p3
    refine And.intro (fun c4 => ?_) (fun c4 => ?_)
    · replace p3 : (kind < 0 ∨ (σ 2 0) ≤ kind) := by
        rcases p3 with q | q
        · exact absurd q.1 (by omega)
        · exact q.2
      exact hZZ _ _ _ (hT (by omega))
    · replace p3 : 0 ≤ kind ∧ kind < (σ 2 0) := by
        rcases p3 with q | q
        · exact q.2
        · exact absurd q.1 (by omega)
      refine And.intro (fun c5 => ?_) (fun c5 => ?_)
      · exact hZZ _ _ _ (hT (by omega))
      · refine And.intro (fun c6 => ?_) (fun c6 => ?_)
        · refine xMVp (sh := (shW wlVF0 w)) (ci := 2) (τ := [2, 3, 4, 5, 6, 7, 8, 9, 10, 11, 12, 13, 14]) (E := xT kX2_heapSize) (t := 2) (r := []) (σ := σ) rfl rfl xbk_sel (fun Q7 hQ7 => sX2_heapSize (σ := xsel [2, 3, 4, 5, 6, 7, 8, 9, 10, 11, 12, 13, 14] σ)  (show 0 ≤ (σ 2 8) ∧ (σ 2 8) ≤ (σ 2 9) ∧ (σ 2 9) ≤ 52 from by omega) (fun r7 p7 => hQ7 _ ?_))
          have p7 : r7 = (σ 2 9) - (σ 2 8) := p7
          refine And.intro (Nat.le_of_ble_eq_true rfl) ?_
          show xw _ _ _ _ _ _ _ _ _ _ [xvr 0, xvi o, xvi kind, xvi what, xvi r7, xvu] _ _
          refine And.intro (fun c8 => ?_) (fun c8 => ?_)
          · exact hZZ _ _ _ (hZ _ (by omega) (by omega) (by omega) (by omega))
          · exact hZZ _ _ _ (hT2 _ (by omega))
        · exact hZZ _ _ _ (hT (by omega))
def tW (σ : xS) (o : Int) : Prop := ((0 ≤ o ∧ o < σ 2 1) ∧ ¬ σ 5 o.toNat = 0 ∧ 2 ≤ σ 2 1)
def tO (σ : xS) (o q kind what : Int) : Prop := ((0 ≤ o ∧ o < σ 2 1) ∧ (0 ≤ q ∧ q < σ 2 1) ∧ (0 ≤ kind ∧ kind < σ 2 0) ∧ ¬ o = q ∧ (0 ≤ what ∧ what ≤ 1))
def tN (σ : xS) (o kind what : Int) : Prop := ((0 ≤ o ∧ o < σ 2 1) ∧ (0 ≤ kind ∧ kind < σ 2 0) ∧ (0 ≤ what ∧ what ≤ 1) ∧ ¬ σ 2 9 = σ 2 8)
/-- what a call of the three may use: b says whether the onlooker is called for -/
def mcO (b : Bool) (k : Nat) (mc ms : (Nat → Bool) → Nat) : Prop := (∀ w, k ≤ mc w ∧ 6 * k ≤ ms w) ∧ (b = true → ∀ w, (if w 13 = true then 0 else 8) + k ≤ mc w ∧ (if w 13 = true then 0 else 15684) + 6 * k ≤ ms w)
def whomB (b : Bool) : vE := fun w as σ Q => JW w σ ∧ (∃ o : Int, as = [xvr 0, xvi o] ∧ (tW σ o ↔ b = true)) ∧ ∀ r w' σ', JW w' σ' → Rs as σ w r w' σ' → (b = true → w' 13 = true) → Q r w' σ'
def pubXb (b : Bool) (ar : List xV → xS → Prop) : vEx := fun w as σ Q Qx => JW w σ ∧ ar as σ ∧ (∀ r w' σ', JW w' σ' → Rl as σ w r w' σ' → (b = true → w' 13 = true) → Q r w' σ') ∧ ∀ w' σ', JW w' σ' → Rx σ w w' σ' → (b = true → w' 13 = true) → Qx w' σ'
def pubOb (b : Bool) (ar : List xV → xS → Prop) : vE := fun w as σ Q => JW w σ ∧ ar as σ ∧ ∀ r w' σ', JW w' σ' → Rlaw σ w r w' σ' → (b = true → w' 13 = true) → Q r w' σ'
set_option maxHeartbeats 4000000 in
set_option maxRecDepth 100000 in
theorem mvX10_whom2 (b : Bool) {mc ms : (Nat → Bool) → Nat} (hmc : mcO b 0 mc ms) (l : Launch) (D : va_G) (yv : Nat → ClassId) : vMt l D yv yX10_whom cX10_whom 3 (some .int) 5 mc ms (whomB b) := by
  intro a ρ w sz as σ Q hE hLK hσ has
  obtain ⟨hJ, ⟨o0, rfl, hb⟩, hQ⟩ := hE
  refine vEnter (N := 194) (sh := vsh w) (by decide +kernel) (Nat.le_of_ble_eq_true rfl) hσ has (fun p e s m below meth c hsz hXX hC => ?_)
  generalize va_A (xws a yv ρ 194 (vsh w) σ) sz = A at hC ⊢
  show XA (0, 0) p l e (vroom 5 (mc w) (ms w)) s m _ below meth c D yv a ρ 194 (vsh w) A 3 _ 0 [xvr 0, xvi o0, xvu] [] σ
  refine vTE (C := kX10_whom_a w) (w := w) (w0 := w) (a0 := a) (mc := mc w) (ms := ms w) (kz := (0, 0)) (Z := fun c L σ1 => (0 ≤ o0 ∧ o0 ≤ 5) ∧ tW σ o0 ∧ c = 36 ∧ L = [xvr 0, xvi o0, xvu] ∧ σ = σ1) ⟨Nat.zero_le _, Nat.zero_le _⟩ hC (zX10_whom_a w) (fun v i n E he => (hX10_whom_a w l D yv v i n E he).up (Nat.le_of_ble_eq_true rfl)) (Nat.zero_le _) (Nat.zero_le _) rfl hLK (fun _ _ => rfl) (pX10_whom_a2 hJ.g (fun r σ1 f hn => ⟨(fun _ h => by cases h), hQ _ w σ1 (frJW hJ f) ⟨⟨_, rfl⟩, f.2 1 (by simp), rfl, kw_fr f⟩ (fun h => by have h3 := hb.mpr h; unfold tW at h3; omega)⟩) (fun h1 h2 => ⟨h1, h2, rfl, rfl, rfl⟩)) ?_
  rintro _ _ _ ⟨h1, h2, rfl, rfl, rfl⟩
  have hbt := hb.mp h2
  have hm1 : 0 + (if w 13 = true then 0 else 8) ≤ mc w := Nat.le_trans (Nat.le_of_eq (Nat.zero_add _)) (hmc.2 hbt w).1
  have hm2 : 0 + (if w 13 = true then 0 else 15684) ≤ ms w := Nat.le_trans (Nat.le_of_eq (Nat.zero_add _)) (hmc.2 hbt w).2
  refine xs_aload hC (i := 0) (x := 0) dX10_whom_36 rfl ?_
  refine vs_callV (kz := (0, 0)) (rest := []) (as' := []) (t := 0) (ci := 10) (n := 0) (K := fun r w' σ' => r = some (xvr 181) ∧ w' = wOn w 13 ∧ ∀ t, blkV t ≠ 13 → σ' t = σ t) hC hXX (mvX10_takeOnlooker l D yv) (Nat.le_of_ble_eq_true rfl) q_3_238 q_4_0 q_p_18 q_1_1 q_4_1 rfl rfl (by decide +kernel) (by decide) hm1 hm2 dX10_whom_37 (sh0 _) rfl (by decide) hLK (vLp (by rfl)) (fun u hu => by cases hu) ⟨rfl, fun σ' h => ⟨rfl, rfl, h⟩⟩ (fun r w1 a1 ρ1 σ1 hk hLK1 hag1 => ?_)
  obtain ⟨rfl, rfl, h0⟩ := hk
  have hJ1 : JW (wOn w 13) σ1 := (hJ.hi (fun t ht => h0 t (by unfold blkV; split <;> (try split) <;> (try split) <;> (try split) <;> omega))).w (fun c hc => if_neg (by omega))
  refine xs_astore hC (i := 2) (x := 181) dX10_whom_40 (Nat.le_of_ble_eq_true rfl) ?_
  show XA _ p l e _ s m _ below meth c D yv a1 ρ1 194 (vsh (wOn w 13)) A 3 _ 41 [xvr 0, xvi o0, xvr 181] [] σ1
  refine vTE (C := kX10_whom_b (wOn w 13)) (w := (wOn w 13)) (w0 := w) (a0 := a) (mc := mc w) (ms := ms w) (kz := (0 + (fun w => if w 13 = true then 0 else 8) w, 0 + (fun w => if w 13 = true then 0 else 15684) w)) (Z := fun _ _ _ => False) ⟨hm1, hm2⟩ hC (zX10_whom_b (wOn w 13)) (fun v i n E he => (hX10_whom_b (wOn w 13) (if_pos rfl) l D yv v i n E he).up (Nat.le_of_ble_eq_true rfl)) hm1 hm2 rfl hLK1 hag1 (pX10_whom_b hJ1.g h1 (fun r σ2 f => ⟨(fun _ h => by cases h), hQ _ (wOn w 13) σ2 (hJ1.hi (fun t ht => fr0 f (fun hm => by simp only [List.mem_cons, List.not_mem_nil, or_false] at hm; omega))) ⟨⟨_, rfl⟩, (f.2 1 (by simp)).trans (congrFun (h0 0 (by decide)) 1), rfl, kw_on (by decide) (KT.tr ⟨h0 1 (by decide), h0 31 (by decide)⟩ (kt_fr f))⟩ (fun _ => if_pos rfl)⟩)) (fun _ _ _ h => h.elim)
set_option maxHeartbeats 4000000 in
set_option maxRecDepth 100000 in
theorem mvX10_odds2 (b : Bool) {mc ms : (Nat → Bool) → Nat} (hmc : mcO b 1 mc ms) (l : Launch) (D : va_G) (yv : Nat → ClassId) (ad : Nat → Nat) (hst : l.stackTraces = false) : vxMt l D yv ad yX10_odds cX10_odds 6 (some .long) 6 mc ms (pubXb b (fun as σ => ∃ o0 q0 k0 t0 : Int, as = [xvr 0, xvi o0, xvi q0, xvi k0, xvi t0] ∧ (tO σ o0 q0 k0 t0 ↔ b = true))) := by
  intro a ρ w sz as σ Q Qx hE hLK hσ has
  obtain ⟨hJ, ⟨o0, q0, k0, t0, rfl, hb⟩, hQ, hX⟩ := hE
  have hn1 : 0 + 1 ≤ mc w := (hmc.1 w).1
  have hn2 : 0 + 6 ≤ ms w := (hmc.1 w).2
  refine vEnterX (N := 194) (sh := vsh w) (by decide +kernel) (Nat.le_of_ble_eq_true rfl) hσ has (fun p e s m below meth c hsz hYY htab hC => ?_)
  generalize va_A (xws a yv ρ 194 (vsh w) σ) sz = A at hC hYY ⊢
  obtain ⟨hXX, hR, hEE⟩ := hYY
  show XA (0, 0) p l e (vroom 6 (mc w) (ms w)) s m _ below meth c D yv a ρ 194 (vsh w) A 6 _ 0 [xvr 0, xvi o0, xvi q0, xvi k0, xvi t0, xvu] [] σ
  refine vTX (C := kX10_odds_a w) (w := w) (w0 := w) (a0 := a) (mc := mc w) (ms := ms w) (kz := (0, 0)) (Z := fun c L σ1 => (¬ tO σ o0 q0 k0 t0 ∧ c = 26 ∧ L = [xvr 0, xvi o0, xvi q0, xvi k0, xvi t0, xvu] ∧ σ = σ1) ∨ ((0 ≤ o0 ∧ o0 ≤ 5) ∧ (0 ≤ q0 ∧ q0 ≤ 5) ∧ (0 ≤ k0 ∧ k0 ≤ 12) ∧ tO σ o0 q0 k0 t0 ∧ c = 36 ∧ L = [xvr 0, xvi o0, xvi q0, xvi k0, xvi t0, xvu] ∧ σ = σ1)) ⟨Nat.zero_le _, Nat.zero_le _⟩ hC (zX10_odds_a w) (fun v i n E he => (hX10_odds_a w l D yv v i n E he).up (Nat.le_of_ble_eq_true rfl)) (Nat.zero_le _) (Nat.zero_le _) rfl hLK (fun _ _ => rfl) (pX10_odds_a2 hJ.g (fun hn => Or.inl ⟨hn, rfl, rfl, rfl⟩) (fun h1 h2 h3 ht => Or.inr ⟨h1, h2, h3, ht, rfl, rfl, rfl⟩)) ?_
  rintro _ _ _ (⟨hn, rfl, rfl, rfl⟩ | ⟨h1, h2, h3, ht, rfl, rfl, rfl⟩)
  · exact vs_throw (w := w) (kz := (0, 0)) hC hst hEE htab hR.2.1 dX10_odds_26 dX10_odds_29 dX10_odds_30 dX10_odds_32 dX10_odds_35 (Nat.le_of_ble_eq_true rfl) hn1 hn2 hn1 hn2 hLK (fun _ _ => rfl) (hX w σ hJ ⟨rfl, rfl, kw_rfl⟩ (fun h => absurd (hb.mpr h) hn))
  have hbt := hb.mp ht
  have hm3 : 0 + (if w 13 = true then 0 else 8) + 1 ≤ mc w := by have := (hmc.2 hbt w).1; omega
  have hm4 : 0 + (if w 13 = true then 0 else 15684) + 6 ≤ ms w := by have := (hmc.2 hbt w).2; omega
  have hm1 : 0 + (if w 13 = true then 0 else 8) ≤ mc w := by omega
  have hm2 : 0 + (if w 13 = true then 0 else 15684) ≤ ms w := by omega
  refine xs_aload hC (i := 0) (x := 0) dX10_odds_36 rfl ?_
  refine vs_callV (kz := (0, 0)) (rest := []) (as' := []) (t := 0) (ci := 10) (n := 0) (K := fun r w' σ' => r = some (xvr 181) ∧ w' = wOn w 13 ∧ ∀ t, blkV t ≠ 13 → σ' t = σ t) hC hXX (mvX10_takeOnlooker l D yv) (Nat.le_of_ble_eq_true rfl) q_3_238 q_4_0 q_p_18 q_1_1 q_4_1 rfl rfl (by decide +kernel) (by decide) hm1 hm2 dX10_odds_37 (sh0 _) rfl (by decide) hLK (vLp (by rfl)) (fun u hu => by cases hu) ⟨rfl, fun σ' h => ⟨rfl, rfl, h⟩⟩ (fun r w1 a1 ρ1 σ1 hk hLK1 hag1 => ?_)
  obtain ⟨rfl, rfl, h0⟩ := hk
  have hJ1 : JW (wOn w 13) σ1 := (hJ.hi (fun t ht => h0 t (by unfold blkV; split <;> (try split) <;> (try split) <;> (try split) <;> omega))).w (fun c hc => if_neg (by omega))
  refine xs_astoreL hC (i := 5) (x := 181) dX10_odds_40 (Nat.le_of_ble_eq_true rfl) ?_
  show XA _ p l e _ s m _ below meth c D yv a1 ρ1 194 (vsh (wOn w 13)) A 6 _ 42 [xvr 0, xvi o0, xvi q0, xvi k0, xvi t0, xvr 181] [] σ1
  refine vTX (C := kX10_odds_b (wOn w 13)) (w := (wOn w 13)) (w0 := w) (a0 := a) (mc := mc w) (ms := ms w) (kz := (0 + (if w 13 = true then 0 else 8), 0 + (if w 13 = true then 0 else 15684))) (Z := fun c L σ2 => Fr [181, 182, 183, 184, 185, 186, 187, 188] [] σ1 σ2 ∧ c = 55 ∧ L = [xvr 0, xvi o0, xvi q0, xvi k0, xvi t0, xvr 181]) ⟨hm1, hm2⟩ hC (zX10_odds_b (wOn w 13)) (fun v i n E he => (hX10_odds_b (wOn w 13) (if_pos rfl) l D yv v i n E he).up (Nat.le_of_ble_eq_true rfl)) hm1 hm2 rfl hLK1 hag1 (pX10_odds_b hJ1.g h1 h2 h3 (fun r σ2 f => ⟨(fun _ h => by cases h), hQ _ (wOn w 13) σ2 (hJ1.hi (fun t ht => fr0 f (fun hm => by simp only [List.mem_cons, List.not_mem_nil, or_false] at hm; omega))) ⟨⟨_, rfl⟩, (f.2 1 (by simp)).trans (congrFun (h0 0 (by decide)) 1), rfl, kw_on (by decide) (KT.tr ⟨h0 1 (by decide), h0 31 (by decide)⟩ (kt_fr f))⟩ (fun _ => if_pos rfl)⟩) (fun σ2 f => ⟨f, rfl, rfl⟩)) ?_
  rintro _ _ σ2 ⟨f, rfl, rfl⟩
  exact vs_throw (w := (wOn w 13)) (kz := (0 + (if w 13 = true then 0 else 8), 0 + (if w 13 = true then 0 else 15684))) hC hst hEE htab hR.2.2.2.1 dX10_odds_55 dX10_odds_58 dX10_odds_59 dX10_odds_61 dX10_odds_64 (Nat.le_of_ble_eq_true rfl) hm3 hm4 hm3 hm4 hLK1 hag1 (hX _ σ2 (hJ1.hi (fun t ht => fr0 f (fun hm => by simp only [List.mem_cons, List.not_mem_nil, or_false] at hm; omega))) ⟨(f.2 1 (by simp)).trans (congrFun (h0 0 (by decide)) 1), rfl, kw_on (by decide) (KT.tr ⟨h0 1 (by decide), h0 31 (by decide)⟩ (kt_fr f))⟩ (fun _ => if_pos rfl))
set_option maxHeartbeats 4000000 in
set_option maxRecDepth 100000 in
theorem mvX10_next2 (b : Bool) {mc ms : (Nat → Bool) → Nat} (hmc : mcO b 1 mc ms) (l : Launch) (D : va_G) (yv : Nat → ClassId) (ad : Nat → Nat) (hst : l.stackTraces = false) : vxMt l D yv ad yX10_next cX10_next 6 (some .long) 6 mc ms (pubXb b (fun as σ => ∃ o0 k0 t0 : Int, as = [xvr 0, xvi o0, xvi k0, xvi t0] ∧ (tN σ o0 k0 t0 ↔ b = true))) := by
  intro a ρ w sz as σ Q Qx hE hLK hσ has
  obtain ⟨hJ, ⟨o0, k0, t0, rfl, hb⟩, hQ, hX⟩ := hE
  have hn1 : 0 + 1 ≤ mc w := (hmc.1 w).1
  have hn2 : 0 + 6 ≤ ms w := (hmc.1 w).2
  refine vEnterX (N := 194) (sh := vsh w) (by decide +kernel) (Nat.le_of_ble_eq_true rfl) hσ has (fun p e s m below meth c hsz hYY htab hC => ?_)
  generalize va_A (xws a yv ρ 194 (vsh w) σ) sz = A at hC hYY ⊢
  obtain ⟨hXX, hR, hEE⟩ := hYY
  show XA (0, 0) p l e (vroom 6 (mc w) (ms w)) s m _ below meth c D yv a ρ 194 (vsh w) A 6 _ 0 [xvr 0, xvi o0, xvi k0, xvi t0, xvu, xvu] [] σ
  refine vTX (C := kX10_next_a w) (w := w) (w0 := w) (a0 := a) (mc := mc w) (ms := ms w) (kz := (0, 0)) (Z := fun c L σ1 => (¬ tN σ o0 k0 t0 ∧ c = 31 ∧ L = [xvr 0, xvi o0, xvi k0, xvi t0, xvu, xvu] ∧ σ = σ1) ∨ (∃ lf : Int, ¬ tN σ o0 k0 t0 ∧ c = 56 ∧ L = [xvr 0, xvi o0, xvi k0, xvi t0, xvi lf, xvu] ∧ σ = σ1) ∨ ∃ lf : Int, (0 ≤ o0 ∧ o0 ≤ 5) ∧ (0 ≤ k0 ∧ k0 ≤ 12) ∧ (0 ≤ lf ∧ lf ≤ 52) ∧ tN σ o0 k0 t0 ∧ c = 67 ∧ L = [xvr 0, xvi o0, xvi k0, xvi t0, xvi lf, xvu] ∧ σ = σ1) ⟨Nat.zero_le _, Nat.zero_le _⟩ hC (zX10_next_a w) (fun v i n E he => (hX10_next_a w l D yv v i n E he).up (Nat.le_of_ble_eq_true rfl)) (Nat.zero_le _) (Nat.zero_le _) rfl hLK (fun _ _ => rfl) (pX10_next_a2 hJ.g (fun hn => Or.inl ⟨hn, rfl, rfl, rfl⟩) (fun lf hn => Or.inr (Or.inl ⟨lf, hn, rfl, rfl, rfl⟩)) (fun lf h1 h2 h3 ht => Or.inr (Or.inr ⟨lf, h1, h2, h3, ht, rfl, rfl, rfl⟩))) ?_
  rintro _ _ _ (⟨hn, rfl, rfl, rfl⟩ | ⟨lf, hn, rfl, rfl, rfl⟩ | ⟨lf, h1, h2, h3, ht, rfl, rfl, rfl⟩)
  · exact vs_throwW (w := w) (kz := (0, 0)) hC hst hEE htab hR.2.2.1 dX10_next_31 dX10_next_34 dX10_next_35 dX10_next_38 dX10_next_41 (Nat.le_of_ble_eq_true rfl) hn1 hn2 hn1 hn2 hLK (fun _ _ => rfl) (hX w σ hJ ⟨rfl, rfl, kw_rfl⟩ (fun h => absurd (hb.mpr h) hn))
  · exact vs_throwW (w := w) (kz := (0, 0)) hC hst hEE htab hR.2.2.2.2 dX10_next_56 dX10_next_59 dX10_next_60 dX10_next_63 dX10_next_66 (Nat.le_of_ble_eq_true rfl) hn1 hn2 hn1 hn2 hLK (fun _ _ => rfl) (hX w σ hJ ⟨rfl, rfl, kw_rfl⟩ (fun h => absurd (hb.mpr h) hn))
  have hbt := hb.mp ht
  have hm3 : 0 + (if w 13 = true then 0 else 8) + 1 ≤ mc w := by have := (hmc.2 hbt w).1; omega
  have hm4 : 0 + (if w 13 = true then 0 else 15684) + 6 ≤ ms w := by have := (hmc.2 hbt w).2; omega
  have hm1 : 0 + (if w 13 = true then 0 else 8) ≤ mc w := by omega
  have hm2 : 0 + (if w 13 = true then 0 else 15684) ≤ ms w := by omega
  refine xs_aload hC (i := 0) (x := 0) dX10_next_67 rfl ?_
  refine vs_callV (kz := (0, 0)) (rest := []) (as' := []) (t := 0) (ci := 10) (n := 0) (K := fun r w' σ' => r = some (xvr 181) ∧ w' = wOn w 13 ∧ ∀ t, blkV t ≠ 13 → σ' t = σ t) hC hXX (mvX10_takeOnlooker l D yv) (Nat.le_of_ble_eq_true rfl) q_3_238 q_4_0 q_p_18 q_1_1 q_4_1 rfl rfl (by decide +kernel) (by decide) hm1 hm2 dX10_next_68 (sh0 _) rfl (by decide) hLK (vLp (by rfl)) (fun u hu => by cases hu) ⟨rfl, fun σ' h => ⟨rfl, rfl, h⟩⟩ (fun r w1 a1 ρ1 σ1 hk hLK1 hag1 => ?_)
  obtain ⟨rfl, rfl, h0⟩ := hk
  have hJ1 : JW (wOn w 13) σ1 := (hJ.hi (fun t ht => h0 t (by unfold blkV; split <;> (try split) <;> (try split) <;> (try split) <;> omega))).w (fun c hc => if_neg (by omega))
  refine xs_astoreL hC (i := 5) (x := 181) dX10_next_71 (Nat.le_of_ble_eq_true rfl) ?_
  show XA _ p l e _ s m _ below meth c D yv a1 ρ1 194 (vsh (wOn w 13)) A 6 _ 73 [xvr 0, xvi o0, xvi k0, xvi t0, xvi lf, xvr 181] [] σ1
  refine vTX (C := kX10_next_b (wOn w 13)) (w := (wOn w 13)) (w0 := w) (a0 := a) (mc := mc w) (ms := ms w) (kz := (0 + (if w 13 = true then 0 else 8), 0 + (if w 13 = true then 0 else 15684))) (Z := fun c L σ2 => Fr [181, 182, 183, 184, 185, 186, 187, 188] [] σ1 σ2 ∧ c = 86 ∧ L = [xvr 0, xvi o0, xvi k0, xvi t0, xvi lf, xvr 181]) ⟨hm1, hm2⟩ hC (zX10_next_b (wOn w 13)) (fun v i n E he => (hX10_next_b (wOn w 13) (if_pos rfl) l D yv v i n E he).up (Nat.le_of_ble_eq_true rfl)) hm1 hm2 rfl hLK1 hag1 (pX10_next_b hJ1.g h1 h2 h3 (fun r σ2 f => ⟨(fun _ h => by cases h), hQ _ (wOn w 13) σ2 (hJ1.hi (fun t ht => fr0 f (fun hm => by simp only [List.mem_cons, List.not_mem_nil, or_false] at hm; omega))) ⟨⟨_, rfl⟩, (f.2 1 (by simp)).trans (congrFun (h0 0 (by decide)) 1), rfl, kw_on (by decide) (KT.tr ⟨h0 1 (by decide), h0 31 (by decide)⟩ (kt_fr f))⟩ (fun _ => if_pos rfl)⟩) (fun σ2 f => ⟨f, rfl, rfl⟩)) ?_
  rintro _ _ σ2 ⟨f, rfl, rfl⟩
  exact vs_throw (w := (wOn w 13)) (kz := (0 + (if w 13 = true then 0 else 8), 0 + (if w 13 = true then 0 else 15684))) hC hst hEE htab hR.2.2.2.1 dX10_next_86 dX10_next_89 dX10_next_90 dX10_next_92 dX10_next_95 (Nat.le_of_ble_eq_true rfl) hm3 hm4 hm3 hm4 hLK1 hag1 (hX _ σ2 (hJ1.hi (fun t ht => fr0 f (fun hm => by simp only [List.mem_cons, List.not_mem_nil, or_false] at hm; omega))) ⟨(f.2 1 (by simp)).trans (congrFun (h0 0 (by decide)) 1), rfl, kw_on (by decide) (KT.tr ⟨h0 1 (by decide), h0 31 (by decide)⟩ (kt_fr f))⟩ (fun _ => if_pos rfl))
set_option maxHeartbeats 4000000 in
set_option maxRecDepth 100000 in
theorem mL_odds2 (b : Bool) {mc ms : (Nat → Bool) → Nat} (hmc : mcO b 1 mc ms) (l : Launch) (D : va_G) (yv : Nat → ClassId) (ad : Nat → Nat) (hst : l.stackTraces = false) : lMt l D yv ad yL_odds cL_odds 7 (some .int) [(0, 13, 16, 13)] 7 mc ms (pubOb b (fun as σ => ∃ o0 q0 k0 t0 : Int, as = [xvr 0, xvi o0, xvi q0, xvi k0, xvi t0, xvr 194] ∧ (tO σ o0 q0 k0 t0 ↔ b = true))) := by
  intro a ρ w sz as σ Q hE hLK hσ has
  obtain ⟨hJ, ⟨o0, q0, k0, t0, rfl, hb⟩, hQ⟩ := hE
  refine lEnter (N := 195) (sh := shOu w) (by decide +kernel) (Nat.le_of_ble_eq_true rfl) hσ has (fun p e s m below meth c hsz hYY htab hC => ?_)
  generalize va_A (xws a yv ρ 195 (shOu w) σ) sz = A at hC hYY ⊢
  show XA (0, 0) p l e (vroom 7 (mc w) (ms w)) s m _ below meth c D yv a ρ 195 (shOu w) A 7 _ 0 [xvr 0, xvi o0, xvi q0, xvi k0, xvi t0, xvr 194, xvu] [] σ
  refine xs_aloadL hC (i := 5) (x := 194) dL_odds_0 rfl ?_
  refine xs_iconst hC (by decide) (by decide) dL_odds_2 ?_
  refine xs_aload hC (i := 0) (x := 0) dL_odds_3 rfl ?_
  refine xs_iload hC (i := 1) (x := o0) dL_odds_4 rfl ?_
  refine xs_iload hC (i := 2) (x := q0) dL_odds_5 rfl ?_
  refine xs_iload hC (i := 3) (x := k0) dL_odds_6 rfl ?_
  refine xs_iloadL hC (i := 4) (x := t0) dL_odds_7 rfl ?_
  refine vxs_call (hi := 6) (ht := 16) (ec := 13) (rest := [xvi 0, xvr 194]) (as' := [xvi o0, xvi q0, xvi k0, xvi t0]) (t := 0) (ci := 10) (n := 4) (K := fun r w' σ' => (∃ z : Int, r = some (xvl z)) ∧ JW w' σ' ∧ Rx σ w w' σ' ∧ (b = true → w' 13 = true)) (Kx := fun w' σ' => JW w' σ' ∧ Rx σ w w' σ' ∧ (b = true → w' 13 = true)) (mg_ok 194 195 σ a ρ) hC hYY (mvX10_odds2 b hmc l D yv ad hst) (Nat.le_of_ble_eq_true rfl) famO q_6_61 q_6_62 q_6_63 q_1_1 q_6_64 rfl rfl (by decide +kernel) (by decide) (Nat.le_of_eq (Nat.zero_add _)) (Nat.le_of_eq (Nat.zero_add _)) dL_odds_9 (sh0 _) rfl (by decide) hLK (oLp (by rfl)) (oLp (by rfl)) ⟨hJ, ⟨o0, q0, k0, t0, rfl, hb⟩, (fun r w' σ' h1 h2 h3 => ⟨h2.1, h1, h2.2, h3⟩), (fun w' σ' h1 h2 h3 => ⟨h1, h2, h3⟩)⟩ htab (by decide) q_5_228 dL_odds_16 (Nat.le_of_ble_eq_true rfl) (oNl (by rfl)) (fun r w1 a1 ρ1 σ1 hk hLK1 hag1 => ?_) (fun w1 a1 ρ1 σ1 hk hLK1 hag1 => ?_)
  · obtain ⟨⟨z, rfl⟩, hJ1, hR1, hB1⟩ := hk
    refine oTS (C := kL_odds_n w1) (w := w1) (w0 := w) (a0 := a) (kz := (0 + mc w, 0 + ms w)) (mc := mc w) (ms := ms w) ⟨Nat.le_of_eq (Nat.zero_add _), Nat.le_of_eq (Nat.zero_add _)⟩ hC (zL_odds_n w1) (fun v i n E he => by cases he) (Nat.le_of_eq (Nat.zero_add _)) (Nat.le_of_eq (Nat.zero_add _)) rfl (mg_LK (by decide) hLK1) (oAg hag1) (fun X hX hZ => ⟨400, ?_⟩)
    show xw _ _ _ _ _ _ _ _ _ _ [xvr 0, xvi o0, xvi q0, xvi k0, xvi t0, xvr 194, xvu] [xvl z, xvi 0, xvr 194] _
    exact ⟨rfl, ⟨by decide, by decide⟩, rfl, ⟨(fun _ h => by cases h), hQ _ w1 _ (jw_o (jw_mg (by decide) hJ1)) ⟨⟨_, rfl⟩, (by show σ1 0 1 = σ 0 1; exact hR1.1), hR1.2.1, hR1.2.2⟩ hB1⟩⟩
  · obtain ⟨hJ1, hR1, hB1⟩ := hk
    refine oTS (C := kL_odds_x w1) (w := w1) (w0 := w) (a0 := a) (kz := (0 + mc w, 0 + ms w)) (mc := mc w) (ms := ms w) ⟨Nat.le_of_eq (Nat.zero_add _), Nat.le_of_eq (Nat.zero_add _)⟩ hC (zL_odds_x w1) (fun v i n E he => by cases he) (Nat.le_of_eq (Nat.zero_add _)) (Nat.le_of_eq (Nat.zero_add _)) rfl (mg_LK (by decide) hLK1) (oAg hag1) (fun X hX hZ => ⟨400, ?_⟩)
    exact ⟨rfl, ⟨(fun _ h => by cases h), hQ _ w1 _ (jw_mg (by decide) hJ1) ⟨⟨_, rfl⟩, (by show σ1 0 1 = σ 0 1; exact hR1.1), hR1.2.1, hR1.2.2⟩ hB1⟩⟩
set_option maxHeartbeats 4000000 in
set_option maxRecDepth 100000 in
theorem mL_next2 (b : Bool) {mc ms : (Nat → Bool) → Nat} (hmc : mcO b 1 mc ms) (l : Launch) (D : va_G) (yv : Nat → ClassId) (ad : Nat → Nat) (hst : l.stackTraces = false) : lMt l D yv ad yL_next cL_next 6 (some .int) [(0, 11, 14, 13)] 7 mc ms (pubOb b (fun as σ => ∃ o0 k0 t0 : Int, as = [xvr 0, xvi o0, xvi k0, xvi t0, xvr 194] ∧ (tN σ o0 k0 t0 ↔ b = true))) := by
  intro a ρ w sz as σ Q hE hLK hσ has
  obtain ⟨hJ, ⟨o0, k0, t0, rfl, hb⟩, hQ⟩ := hE
  refine lEnter (N := 195) (sh := shOu w) (by decide +kernel) (Nat.le_of_ble_eq_true rfl) hσ has (fun p e s m below meth c hsz hYY htab hC => ?_)
  generalize va_A (xws a yv ρ 195 (shOu w) σ) sz = A at hC hYY ⊢
  show XA (0, 0) p l e (vroom 7 (mc w) (ms w)) s m _ below meth c D yv a ρ 195 (shOu w) A 6 _ 0 [xvr 0, xvi o0, xvi k0, xvi t0, xvr 194, xvu] [] σ
  refine xs_aloadL hC (i := 4) (x := 194) dL_next_0 rfl ?_
  refine xs_iconst hC (by decide) (by decide) dL_next_2 ?_
  refine xs_aload hC (i := 0) (x := 0) dL_next_3 rfl ?_
  refine xs_iload hC (i := 1) (x := o0) dL_next_4 rfl ?_
  refine xs_iload hC (i := 2) (x := k0) dL_next_5 rfl ?_
  refine xs_iload hC (i := 3) (x := t0) dL_next_6 rfl ?_
  refine vxs_call (hi := 5) (ht := 14) (ec := 11) (rest := [xvi 0, xvr 194]) (as' := [xvi o0, xvi k0, xvi t0]) (t := 0) (ci := 10) (n := 3) (K := fun r w' σ' => (∃ z : Int, r = some (xvl z)) ∧ JW w' σ' ∧ Rx σ w w' σ' ∧ (b = true → w' 13 = true)) (Kx := fun w' σ' => JW w' σ' ∧ Rx σ w w' σ' ∧ (b = true → w' 13 = true)) (mg_ok 194 195 σ a ρ) hC hYY (mvX10_next2 b hmc l D yv ad hst) (Nat.le_of_ble_eq_true rfl) famO q_6_74 q_6_75 q_6_76 q_1_1 q_6_77 rfl rfl (by decide +kernel) (by decide) (Nat.le_of_eq (Nat.zero_add _)) (Nat.le_of_eq (Nat.zero_add _)) dL_next_7 (sh0 _) rfl (by decide) hLK (oLp (by rfl)) (oLp (by rfl)) ⟨hJ, ⟨o0, k0, t0, rfl, hb⟩, (fun r w' σ' h1 h2 h3 => ⟨h2.1, h1, h2.2, h3⟩), (fun w' σ' h1 h2 h3 => ⟨h1, h2, h3⟩)⟩ htab (by decide) q_5_228 dL_next_14 (Nat.le_of_ble_eq_true rfl) (oNl (by rfl)) (fun r w1 a1 ρ1 σ1 hk hLK1 hag1 => ?_) (fun w1 a1 ρ1 σ1 hk hLK1 hag1 => ?_)
  · obtain ⟨⟨z, rfl⟩, hJ1, hR1, hB1⟩ := hk
    refine oTS (C := kL_next_n w1) (w := w1) (w0 := w) (a0 := a) (kz := (0 + mc w, 0 + ms w)) (mc := mc w) (ms := ms w) ⟨Nat.le_of_eq (Nat.zero_add _), Nat.le_of_eq (Nat.zero_add _)⟩ hC (zL_next_n w1) (fun v i n E he => by cases he) (Nat.le_of_eq (Nat.zero_add _)) (Nat.le_of_eq (Nat.zero_add _)) rfl (mg_LK (by decide) hLK1) (oAg hag1) (fun X hX hZ => ⟨400, ?_⟩)
    show xw _ _ _ _ _ _ _ _ _ _ [xvr 0, xvi o0, xvi k0, xvi t0, xvr 194, xvu] [xvl z, xvi 0, xvr 194] _
    exact ⟨rfl, ⟨by decide, by decide⟩, rfl, ⟨(fun _ h => by cases h), hQ _ w1 _ (jw_o (jw_mg (by decide) hJ1)) ⟨⟨_, rfl⟩, (by show σ1 0 1 = σ 0 1; exact hR1.1), hR1.2.1, hR1.2.2⟩ hB1⟩⟩
  · obtain ⟨hJ1, hR1, hB1⟩ := hk
    refine oTS (C := kL_next_x w1) (w := w1) (w0 := w) (a0 := a) (kz := (0 + mc w, 0 + ms w)) (mc := mc w) (ms := ms w) ⟨Nat.le_of_eq (Nat.zero_add _), Nat.le_of_eq (Nat.zero_add _)⟩ hC (zL_next_x w1) (fun v i n E he => by cases he) (Nat.le_of_eq (Nat.zero_add _)) (Nat.le_of_eq (Nat.zero_add _)) rfl (mg_LK (by decide) hLK1) (oAg hag1) (fun X hX hZ => ⟨400, ?_⟩)
    exact ⟨rfl, ⟨(fun _ h => by cases h), hQ _ w1 _ (jw_mg (by decide) hJ1) ⟨⟨_, rfl⟩, (by show σ1 0 1 = σ 0 1; exact hR1.1), hR1.2.1, hR1.2.2⟩ hB1⟩⟩
