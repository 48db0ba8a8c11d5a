theorem sX2_doAskingJ {σ : xS} {p q kind lies : Int} {f : Nat → Int} {Q : Option xV → xS → Prop} (hp0 : CG σ) (hp1 : 0 ≤ p ∧ p ≤ 5) (hp2 : 0 ≤ q ∧ q ≤ 5) (hp3 : 0 ≤ kind ∧ kind ≤ 12) (hp0_ : GR σ f) (hp1_ : VX f) (hp5_ : p < f 1) (hp6_ : ¬ p = q) (hp7_ : f 2 = 0 ∨ f 2 = 1) (hp8_ : 0 ≤ f 6 ∧ f 6 < f 1) (hp9_ : 1 ≤ f (60 + 13 * p.toNat + kind.toNat)) (hp10_ : lies = 0 ∨ lies = 1) (hQ : ∀ r : Int, ∀ σ' : xS, Fr [2, 3, 5, 6, 7, 8, 9, 10, 11, 12, 13] [8, 14, 15, 16] σ σ' → ((CG σ') ∧ ((GR σ' (askF f p.toNat q.toNat kind.toNat lies) ∧ σ' 0 14 = askF f p.toNat q.toNat kind.toNat lies 4) ∧ r = askR f p.toNat q.toNat kind.toNat lies 3 ∧ ∀ i : Nat, i < 8 → σ' 13 i = askR f p.toNat q.toNat kind.toNat lies i)) → Q (some (xvi r)) σ') : xT kX2_doAsking [xvr 0, xvi p, xvi q, xvi kind, xvi lies, xvr 13] σ Q := by
  refine jkX2_doAsking _ _ (fun o ς => ∃ r : Int, o = some (xvi r) ∧ Fr [2, 3, 5, 6, 7, 8, 9, 10, 11, 12, 13] [8, 14, 15, 16] σ ς ∧ ((CG ς))) (fun o ς => ∃ r : Int, o = some (xvi r) ∧ Fr [2, 3, 5, 6, 7, 8, 9, 10, 11, 12, 13] [8, 14, 15, 16] σ ς ∧ (((GR ς (askF f p.toNat q.toNat kind.toNat lies) ∧ ς 0 14 = askF f p.toNat q.toNat kind.toNat lies 4) ∧ r = askR f p.toNat q.toNat kind.toNat lies 3 ∧ ∀ i : Nat, i < 8 → ς 13 i = askR f p.toNat q.toNat kind.toNat lies i))) _ (sX2_doAsking hp0 hp1 hp2 hp3 (fun r ς f p => ⟨r, rfl, f, p⟩)) (sX2_doAskingG hp0_ hp1_ hp1 hp2 hp3 hp5_ hp6_ hp7_ hp8_ hp9_ hp10_ (fun r ς f p => ⟨r, rfl, f, p⟩)) (fun o ς h1 h2 => ?_)
  obtain ⟨r, rfl, f0, p0⟩ := h1
  obtain ⟨r2, e2, f1, p1⟩ := h2
  have e3 : r = r2 := by cases e2; rfl
  subst e3
  exact hQ r ς f0 ⟨p0, p1⟩
theorem sX2_dealOutJ {σ : xS} {n seed : Int} {f : Nat → Int} {Q : Option xV → xS → Prop} (hp0 : 0 ≤ σ 0 0 ∧ σ 0 0 ≤ 13) (hp1 : 0 ≤ σ 0 1 ∧ σ 0 1 ≤ 6) (hp0_ : ∀ i, i < 4 → σ 0 i = f i) (hp1_ : 1 ≤ f 0 ∧ f 0 ≤ 13) (hp2_ : 1 ≤ f 1 ∧ f 1 ≤ 6) (hp3_ : 0 ≤ f 3 ∧ f 3 ≤ 9) (hp4_ : 1 ≤ n ∧ n ≤ 9) (hp5_ : n * f 1 ≤ 4 * f 0) (hQ : ∀ σ' : xS, Fr [2, 3, 4] [8, 9] σ σ' → ((C0x σ' ∧ ∀ i : Nat, (i : Int) < σ' 0 9 → σ' 4 i < σ' 0 0) ∧ (G0 σ' (dlF f n seed))) → Q none σ') : xT kX2_dealOut [xvr 0, xvi n, xvi seed] σ Q := by
  refine jkX2_dealOut _ _ (fun o ς => o = none ∧ Fr [2, 3, 4] [8, 9] σ ς ∧ ((C0x ς ∧ ∀ i : Nat, (i : Int) < ς 0 9 → ς 4 i < ς 0 0))) (fun o ς => o = none ∧ Fr [2, 3, 4] [8, 9] σ ς ∧ ((G0 ς (dlF f n seed)))) _ (sX2_dealOutK hp0 hp1 (fun ς f p => ⟨rfl, f, p⟩)) (sX2_dealOutG hp0_ hp1_ hp2_ hp3_ hp4_ hp5_ (fun ς f p => ⟨rfl, f, p⟩)) (fun o ς h1 h2 => ?_)
  obtain ⟨rfl, f0, p0⟩ := h1
  obtain ⟨e2, f1, p1⟩ := h2
  exact hQ ς f0 ⟨p0, p1⟩
/-! ask, deal, undo of the class, exactly. -/
theorem gm_sel {τ : List Nat} {a : Nat} {σ : xS} {f : Nat → Int} (h : gmC a σ f) (hτ : ∀ t, t < 13 → τ.getD t 0 = a + t) : GR (xsel τ σ) f := h.1.loc (fun t ht => by
  rw [xsel13 ht]
  show σ (τ.getD t 0) = _
  rw [hτ t ht])
theorem gm_bk {τ : List Nat} {a : Nat} {σ ς : xS} {f : Nat → Int} (h : GR ς f) (ht : ς 0 14 = f 4) (hτ : ∀ t, t < 13 → xix τ (a + t) = some t) : gmC a (xbk τ σ ς) f := by
  have e : ∀ t, t < 13 → xbk τ σ ς (a + t) = ς t := fun t h9 => by unfold xbk; rw [hτ t h9]
  refine ⟨h.loc (fun t h9 => by rw [xsel13 h9]; exact e t h9), ?_⟩
  have z := congrFun (e 0 (by decide)) 14
  rw [show a + 0 = a from rfl] at z
  rw [z, ht]
/-- a game is kept, and some rows below 47 change -/
def kpG (w : Nat → Bool) (σ : xS) (w' : Nat → Bool) (σ' : xS) (f : Nat → Int) : Prop := ∃ i : Nat, i < 8 ∧ σ 39 1 = i ∧ w' (1 + i) = true ∧ (∀ c, c ≠ 1 + i → w' c = w c) ∧ (∀ t, 47 ≤ t → blkV t ≠ 1 + i → σ' t = σ t) ∧ (gmC (47 + 13 * i) σ' f ∧ ∀ j : Nat, j < 6 → σ' (47 + 13 * i + 1) j = σ 3 j) ∧ ((σ 39 1 = 7 ∧ σ' 39 1 = 0) ∨ (σ 39 1 < 7 ∧ σ' 39 1 = σ 39 1 + 1)) ∧ ((σ 39 2 = 8 ∧ σ' 39 2 = 8) ∨ (σ 39 2 < 8 ∧ σ' 39 2 = σ 39 2 + 1))
theorem kpF.g {w w' : Nat → Bool} {σ σ1 σ' : xS} {g : Nat} {f : Nat → Int} (h : kpF w σ w' σ1 g f) (hn : ∀ j : Nat, j < 6 → σ (g + 1) j = σ 3 j) (e : ∀ t, 47 ≤ t → σ' t = σ1 t) (e39 : σ' 39 = σ1 39) : kpG w σ w' σ' f := by
  obtain ⟨i, h1, h2, h3, h4, h5, ⟨h6, h7⟩, h8⟩ := h
  exact ⟨i, h1, h2, h3, h4, fun t ht hb => (e t ht).trans (h5 t (by omega) hb), ⟨h6.eq (fun t ht _ => e t (by omega)), fun j hj => (congrFun (e _ (by omega)) j).trans ((h7 j hj).trans (hn j hj))⟩, by rw [e39]; exact h8⟩
theorem kpF.lo {w w' : Nat → Bool} {σ σ1 : xS} {g : Nat} {f : Nat → Int} (h : kpF w σ w' σ1 g f) {t : Nat} (ht : t < 47) (h39 : t ≠ 39) : σ1 t = σ t := by
  obtain ⟨i, h1, h2, h3, h4, h5, _⟩ := h
  exact h5 t h39 (by have : blkV t = 0 := by unfold blkV; rw [if_pos ht]
                     omega)
/-- what the class's ask does -/
def askCR (f : Nat → Int) (p q kind lies : Int) (w : Nat → Bool) (σ : xS) (r : Int) (w' : Nat → Bool) (σ' : xS) : Prop := (¬ (ASK f p q kind ∧ (0 ≤ lies ∧ lies ≤ 1)) ∧ r = -1 ∧ w' = w ∧ ∀ t, σ' t = σ t) ∨ ((ASK f p q kind ∧ (0 ≤ lies ∧ lies ≤ 1)) ∧ 1 ≤ whyF f p q kind.toNat ∧ r = -2 - whyF f p q kind.toNat ∧ w' = w ∧ ∀ t, σ' t = σ t) ∨ ((ASK f p q kind ∧ (0 ≤ lies ∧ lies ≤ 1)) ∧ whyF f p q kind.toNat = 0 ∧ kpG w σ w' σ' f ∧ gmC 2 σ' (askF f p.toNat q.toNat kind.toNat lies) ∧ r = askR f p.toNat q.toNat kind.toNat lies 3 ∧ (∀ i : Nat, i < 8 → σ' 43 i = askR f p.toNat q.toNat kind.toNat lies i) ∧ ∀ t, t < 47 → t ≠ 39 → t ≠ 43 → (t < 2 ∨ t = 3 ∨ 14 < t) → σ' t = σ t)
def askEF : vE := fun w as σ Q => ∃ f : Nat → Int, ∃ p q kind lies : Int, as = [xvr 0, xvi p, xvi q, xvi kind, xvi lies] ∧ JW w σ ∧ gmC 2 σ f ∧ TV f ∧ ∀ (r : Int) w' σ', JW w' σ' → KT σ σ' → askCR f p q kind lies w σ r w' σ' → Q (some (xvi r)) w' σ'
def dealCR (f : Nat → Int) (n seed : Int) (w : Nat → Bool) (σ : xS) (r : Int) (w' : Nat → Bool) (σ' : xS) : Prop := (¬ DLc2 f n ∧ r = 0 ∧ w' = w ∧ ∀ t, σ' t = σ t) ∨ (DLc2 f n ∧ r = 1 ∧ kpG w σ w' σ' f ∧ gmC 2 σ' (dealF f n seed) ∧ ∀ t, t < 47 → t ≠ 39 → (t < 2 ∨ t = 3 ∨ 14 < t) → σ' t = σ t)
def dealEF : vE := fun w as σ Q => ∃ f : Nat → Int, ∃ n seed : Int, as = [xvr 0, xvi n, xvi seed] ∧ JW w σ ∧ gmC 2 σ f ∧ TV f ∧ ∀ (r : Int) w' σ', JW w' σ' → KT σ σ' → dealCR f n seed w σ r w' σ' → Q (some (xvi r)) w' σ'
/-- what the class's undo does, the kept game being g in block i -/
def undoCR (i : Nat) (g : Nat → Int) (σ : xS) (r : Int) (σ' : xS) : Prop := (σ 39 2 = 0 ∧ r = -1 ∧ ∀ t, σ' t = σ t) ∨ (1 ≤ σ 39 2 ∧ r = σ 39 2 - 1 ∧ gmC 2 σ' g ∧ (∀ j : Nat, j < 6 → σ' 3 j = σ (47 + 13 * i + 1) j) ∧ (σ' 39 1 = i ∧ σ' 39 2 = σ 39 2 - 1) ∧ ∀ t, t ≠ 39 → (t < 2 ∨ 14 < t) → σ' t = σ t)
def undoEF : vE := fun w as σ Q => ∃ i : Nat, ∃ g : Nat → Int, as = [xvr 0] ∧ JW w σ ∧ (i < 8 ∧ (i : Int) = lstF (σ 39 1)) ∧ (1 ≤ σ 39 2 → w (1 + i) = true ∧ gmC (47 + 13 * i) σ g) ∧ ∀ (r : Int) σ', JW w σ' → KT σ σ' → undoCR i g σ r σ' → Q (some (xvi r)) w σ'
set_option maxHeartbeats 4000000 in
set_option maxRecDepth 100000 in
theorem pX10_ask_aF {f : Nat → Int} {w : Nat → Bool} {σ : xS} {p q kind lies : Int} {Q : Option xV → xS → Prop} {Z : Nat → List xV → xS → Prop} (hp0 : JG (xsel [2, 3, 4, 5, 6, 7, 8, 9, 10, 11, 12, 13, 14] σ)) (hp1 : gmC 2 σ f) (hp2 : TV f) (hQ : ∀ r : Int, ∀ σ' : xS, Fr [] [] σ σ' → ((¬ (ASK f p q kind ∧ (0 ≤ lies ∧ lies ≤ 1)) ∧ r = -1) ∨ ((ASK f p q kind ∧ (0 ≤ lies ∧ lies ≤ 1)) ∧ 1 ≤ whyF f p q kind.toNat ∧ r = -2 - whyF f p q kind.toNat)) → Q (some (xvi r)) σ')(hZ : ∀ wn : Int, ((ASK f p q kind ∧ (0 ≤ lies ∧ lies ≤ 1)) ∧ whyF f p q kind.toNat = 0) → (0 ≤ p ∧ p ≤ 5) → (0 ≤ q ∧ q ≤ 5) → (0 ≤ kind ∧ kind ≤ 12) → (0 ≤ lies ∧ lies ≤ 1) → Z 46 [xvr 0, xvi p, xvi q, xvi kind, xvi lies, xvi wn] σ) : xTE (kX10_ask_a w) Q Z 0 [xvr 0, xvi p, xvi q, xvi kind, xvi lies, xvu] σ := by
  intro X hX hZZ
  have hF : Fr [] [] σ σ := Fr.rf
  refine hX 400 0 _ _ ?_
  have hb0 : 0 ≤ σ 2 0 ∧ σ 2 0 ≤ 13 := hp0.1.1.1
  have hb1 : 0 ≤ σ 2 1 ∧ σ 2 1 ≤ 6 := hp0.1.1.2.1
  have hb8 : 0 ≤ σ 2 8 ∧ σ 2 8 ≤ σ 2 9 ∧ σ 2 9 ≤ 52 := hp0.1.1.2.2.1
  have hb9 : 0 ≤ σ 11 2 ∧ σ 11 2 ≤ 52 := hp0.1.2.2.2
  have hf := hp1
  have hT := hp2
  have n0 : σ 2 0 = f 0 := hf.1.n0 (i := 0) (by decide)
  have n1 : σ 2 1 = f 1 := hf.1.n0 (i := 1) (by decide)
  have m0 := hT.1.1.1.1
  have m1 := hT.1.1.1.2.1
  have m3 := hT.1.1.1.2.2.1
  have hC := hp0.1
  have lp_21 : ∀ (_ : Unit), (¬ (ASK f p q kind ∧ (0 ≤ lies ∧ lies ≤ 1))) → X 21 [xvr 0, xvi p, xvi q, xvi kind, xvi lies, xvu] σ := by
    intro _ hv_21
    refine hX 400 21 _ _ ?_
    refine And.intro rfl ?_
    exact hQ _ _ hF (Or.inl ⟨hv_21, rfl⟩)
  refine xMVp (sh := (shW wlVF0 w)) (ci := 10) (τ := [0, 1, 2, 3, 4, 5, 6, 7, 8, 9, 10, 11, 12, 13, 14, 15, 16, 17, 18, 19, 20, 21, 22, 23, 24, 25, 26, 27, 28, 29, 30, 31, 32, 33, 34, 35, 36, 37, 38, 39, 40, 41, 42, 43, 44, 45, 46]) (E := xT kX10_areSuch) (t := 0) (r := [xvi p, xvi q, xvi kind]) (σ := σ) rfl rfl xbk_sel (fun Q2 hQ2 => sX10_areSuch2 (σ := xsel [0, 1, 2, 3, 4, 5, 6, 7, 8, 9, 10, 11, 12, 13, 14, 15, 16, 17, 18, 19, 20, 21, 22, 23, 24, 25, 26, 27, 28, 29, 30, 31, 32, 33, 34, 35, 36, 37, 38, 39, 40, 41, 42, 43, 44, 45, 46] σ) (p := p) (q := q) (kind := kind) (show JG (xsel [2, 3, 4, 5, 6, 7, 8, 9, 10, 11, 12, 13, 14] (xsel [0, 1, 2, 3, 4, 5, 6, 7, 8, 9, 10, 11, 12, 13, 14, 15, 16, 17, 18, 19, 20, 21, 22, 23, 24, 25, 26, 27, 28, 29, 30, 31, 32, 33, 34, 35, 36, 37, 38, 39, 40, 41, 42, 43, 44, 45, 46] σ)) from by exact hp0) (fun r2 p2 => hQ2 _ ?_))
  have p2 : (r2 = 1 ∧ (0 ≤ p ∧ p < (σ 2 1)) ∧ (0 ≤ q ∧ q < (σ 2 1)) ∧ (0 ≤ kind ∧ kind < (σ 2 0))) ∨ (r2 = 0 ∧ ((p < 0 ∨ (σ 2 1) ≤ p) ∨ (q < 0 ∨ (σ 2 1) ≤ q) ∨ (kind < 0 ∨ (σ 2 0) ≤ kind))) := p2
  refine And.intro (fun c3 => ?_) (fun c3 => ?_)
  · replace p2 : (p < 0 ∨ (σ 2 1) ≤ p) ∨ (q < 0 ∨ (σ 2 1) ≤ q) ∨ (kind < 0 ∨ (σ 2 0) ≤ kind) := by
      rcases p2 with q | q
      · exact absurd q.1 (by omega)
      · exact q.2
    exact lp_21 () (fun z => by obtain ⟨⟨z1, z2, z3⟩, z4⟩ := z; omega)
  · replace p2 : (0 ≤ p ∧ p < (σ 2 1)) ∧ (0 ≤ q ∧ q < (σ 2 1)) ∧ (0 ≤ kind ∧ kind < (σ 2 0)) := by
      rcases p2 with q | q
      · exact q.2
      · exact absurd q.1 (by omega)
    refine And.intro (fun c4 => ?_) (fun c4 => ?_)
    · exact lp_21 () (fun z => by obtain ⟨⟨z1, z2, z3⟩, z4⟩ := z; omega)
    · refine And.intro (fun c5 => ?_) (fun c5 => ?_)
      · refine xMVp (sh := (shW wlVF0 w)) (ci := 2) (τ := [2, 3, 4, 5, 6, 7, 8, 9, 10, 11, 12, 13, 14]) (E := xT kX2_whyNot) (t := 2) (r := [xvi p, xvi q, xvi kind]) (σ := σ) rfl rfl xbk_sel (fun Q6 hQ6 => sX2_whyNotG (σ := xsel [2, 3, 4, 5, 6, 7, 8, 9, 10, 11, 12, 13, 14] σ) (p := p) (q := q) (kind := kind) (show GR (xsel [2, 3, 4, 5, 6, 7, 8, 9, 10, 11, 12, 13, 14] σ) f from (gm_sel hf (by decide))) (show (σ 2 14) = f 4 from hf.2) (show 0 ≤ p ∧ p ≤ 5 from by omega) (show 0 ≤ kind ∧ kind ≤ 12 from by omega) (fun r6 p6 => hQ6 _ ?_))
        have p6 : r6 = whyF f p q kind.toNat := p6
        refine And.intro (Nat.le_of_ble_eq_true rfl) ?_
        show xw _ _ _ _ _ _ _ _ _ _ [xvr 0, xvi p, xvi q, xvi kind, xvi lies, xvi r6] _ _
        refine And.intro (fun c7 => ?_) (fun c7 => ?_)
        · exact hZZ _ _ _ (hZ _ ⟨⟨⟨by omega, by omega, by omega⟩, by omega⟩, by omega⟩ (by omega) (by omega) (by omega) (by omega))
        · intro z8 t8 e8 l8 h8
          try have w8 : t8 = 0 := by omega
          refine And.intro rfl ?_
          have hwr := whyF_r (f := f) (p := p) (q := q) (kind := kind.toNat)
          exact hQ _ _ hF (Or.inr ⟨⟨⟨by omega, by omega, by omega⟩, by omega⟩, by omega, by omega⟩)
      · exact lp_21 () (fun z => by obtain ⟨⟨z1, z2, z3⟩, z4⟩ := z; omega)
