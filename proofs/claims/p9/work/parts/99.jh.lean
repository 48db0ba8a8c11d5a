/-! The class's evening, exactly. -/
theorem sel47d : ∀ t, t < 47 → ([0, 1, 2, 3, 4, 5, 6, 7, 8, 9, 10, 11, 12, 13, 14, 15, 16, 17, 18, 19, 20, 21, 22, 23, 24, 25, 26, 27, 28, 29, 30, 31, 32, 33, 34, 35, 36, 37, 38, 39, 40, 41, 42, 43, 44, 45, 46] : List Nat).getD t 0 = t := by decide
theorem ix47d : ∀ t, t < 47 → xix [0, 1, 2, 3, 4, 5, 6, 7, 8, 9, 10, 11, 12, 13, 14, 15, 16, 17, 18, 19, 20, 21, 22, 23, 24, 25, 26, 27, 28, 29, 30, 31, 32, 33, 34, 35, 36, 37, 38, 39, 40, 41, 42, 43, 44, 45, 46] t = some t := by decide
theorem sel47 {σ : xS} {t : Nat} (h : t < 47) : xsel [0, 1, 2, 3, 4, 5, 6, 7, 8, 9, 10, 11, 12, 13, 14, 15, 16, 17, 18, 19, 20, 21, 22, 23, 24, 25, 26, 27, 28, 29, 30, 31, 32, 33, 34, 35, 36, 37, 38, 39, 40, 41, 42, 43, 44, 45, 46] σ t = σ t := by
  show σ (([0, 1, 2, 3, 4, 5, 6, 7, 8, 9, 10, 11, 12, 13, 14, 15, 16, 17, 18, 19, 20, 21, 22, 23, 24, 25, 26, 27, 28, 29, 30, 31, 32, 33, 34, 35, 36, 37, 38, 39, 40, 41, 42, 43, 44, 45, 46] : List Nat).getD t 0) = σ t
  rw [sel47d t h]
theorem bk47 {σ ς : xS} {t : Nat} (h : t < 47) : xbk [0, 1, 2, 3, 4, 5, 6, 7, 8, 9, 10, 11, 12, 13, 14, 15, 16, 17, 18, 19, 20, 21, 22, 23, 24, 25, 26, 27, 28, 29, 30, 31, 32, 33, 34, 35, 36, 37, 38, 39, 40, 41, 42, 43, 44, 45, 46] σ ς t = ς t := by
  unfold xbk
  rw [ix47d t h]
theorem rwx_of {f rd g : Nat → Int} {l : Int} (h : EVO f rd l) (e : ∀ j : Nat, (j : Int) < 4 * l → g j = rd j) (h1 : f 1 ≤ 6) (h0 : f 0 ≤ 13) : RWx g l := fun k hk => by
  obtain ⟨a, b, c, _⟩ := h k hk
  rw [e _ (by omega), e _ (by omega), e _ (by omega)]
  exact ⟨by omega, by omega, by omega⟩
/-- what the class's other calls leave alone -/
def STC (σ σ' : xS) : Prop := ∀ u : Nat, ((2 ≤ u ∧ u ≤ 14) ∨ u = 39 ∨ u = 40 ∨ u = 43 ∨ (47 ≤ u ∧ u < 181)) → σ' u = σ u
theorem STC.rf {σ : xS} : STC σ σ := fun _ _ => rfl
theorem STC.tr {σ σ1 σ2 : xS} (h : STC σ σ1) (k : STC σ1 σ2) : STC σ σ2 := fun u hu => (k u hu).trans (h u hu)
theorem stc_fr {ts js : List Nat} {σ σ' : xS} (f : Fr ts js σ σ') (h : ts.all (fun u => decide (u = 0 ∨ u = 1 ∨ (15 ≤ u ∧ u ≤ 38) ∨ u = 41 ∨ u = 42 ∨ u = 44 ∨ u = 45 ∨ u = 46 ∨ 181 ≤ u)) = true) : STC σ σ' := fun u hu => f.1 u (by omega) (fun hm => by
  have z := List.all_eq_true.mp h u hm
  simp only [decide_eq_true_eq] at z
  omega)
/-- the class's evening -/
def EVC (nm f : Nat → Int) (lives : Int) (w : Nat → Bool) (σ : xS) (r : Int) (w' : Nat → Bool) (σ' : xS) : Prop := (¬ (0 ≤ lives ∧ lives ≤ 1) ∧ r = -1000 ∧ w' = w ∧ ∀ t, σ' t = σ t) ∨ ((0 ≤ lives ∧ lives ≤ 1) ∧ σ' 0 1 = 0 ∧ ∃ x, EEND nm (f 1) (f 0) (σ 1) (σ 0 1) 500 es0 x ∧ ((∃ y : Int × Int, x = .inl y ∧ r = -2 - y.2 ∧ σ' 0 2 = y.1 ∧ w' = w ∧ STC σ σ' ∧ σ' 45 = σ 45) ∨ (∃ (t : EVx) (n : Nat) (wr : Int), x = .inr t ∧ JDG f t.rd t.l n wr ∧ r = (if (n : Int) < t.l then (n : Int) else -1) ∧ σ' 0 2 = 0 ∧ (σ' 45 0 = wr ∧ σ' 45 1 = n ∧ σ' 45 2 = alq (evF f t.rd n) 13 ∧ σ' 45 3 = evF f t.rd n 4) ∧ (((lives = 1 ∧ 0 < n) ∧ kpG w σ w' σ' f ∧ gmC 2 σ' (evF f t.rd n) ∧ (∀ j : Nat, j < 6 → σ' 3 j = σ 3 j) ∧ (∀ i : Nat, i < 8 → σ' 43 i = evG (σ 44) f t.rd n i) ∧ ∀ u : Nat, u = 40 → σ' u = σ u) ∨ (¬ (lives = 1 ∧ 0 < n) ∧ w' = w ∧ STC σ σ')))))
def eveningEF : vE := fun w as σ Q => ∃ (lives : Int) (nm f : Nat → Int), as = [xvr 0, xvi lives] ∧ JW w σ ∧ gmC 2 σ f ∧ TV f ∧ PZ f ∧ WDS (σ 31) ∧ NMR (σ 3) nm (f 1) ∧ ∀ (r : Int) w' σ', JW w' σ' → KT σ σ' → EVC nm f lives w σ r w' σ' → Q (some (xvi r)) w' σ'
set_option maxHeartbeats 4000000 in
set_option maxRecDepth 100000 in
theorem pX10_evening_aF {w : Nat → Bool} {σ : xS} {lives : Int} {Q : Option xV → xS → Prop} {Z : Nat → List xV → xS → Prop} (hQ : ∀ r : Int, ∀ σ' : xS, Fr [] [] σ σ' → ((lives < 0 ∨ 1 < lives) ∧ r = -1000) → Q (some (xvi r)) σ')(hZ : (0 ≤ lives ∧ lives ≤ 1) → Z 13 [xvr 0, xvi lives, xvu, xvu] σ) : xTE (kX10_evening_a w) Q Z 0 [xvr 0, xvi lives, xvu, xvu] σ := by
  intro X hX hZZ
  have hF : Fr [] [] σ σ := Fr.rf
  refine hX 400 0 _ _ ?_
  have lp_9 : ∀ (_ : Unit), (lives < 0 ∨ 1 < lives) → X 9 [xvr 0, xvi lives, xvu, xvu] σ := by
    intro _ hv_9
    refine hX 400 9 _ _ ?_
    refine And.intro rfl ?_
    exact hQ _ _ hF ⟨hv_9, rfl⟩
  refine And.intro (fun c2 => ?_) (fun c2 => ?_)
  · exact lp_9 () (show lives < 0 ∨ 1 < lives from by first | trivial | omega | (refine ⟨by assumption, ?_⟩; omega) | (refine ⟨?_, ?_⟩ <;> omega))
  · refine And.intro (fun c3 => ?_) (fun c3 => ?_)
    · exact hZZ _ _ _ (hZ (by omega))
    · exact lp_9 () (show lives < 0 ∨ 1 < lives from by first | trivial | omega | (refine ⟨by assumption, ?_⟩; omega) | (refine ⟨?_, ?_⟩ <;> omega))
theorem xput_e0 {σ : xS} {t j1 j2 : Nat} {v1 v2 : Int} (h : t ≠ 0) : xput (xput σ 0 j1 v1) 0 j2 v2 t = σ t := (xput_ne h).trans (xput_ne h)
theorem sX10_judgeJ {σ : xS} {f rd : Nat → Int} {l : Int} {Q : Option xV → xS → Prop} (hp0 : JG (xsel [2, 3, 4, 5, 6, 7, 8, 9, 10, 11, 12, 13, 14] σ)) (hp1 : RWx (σ 35) (σ 34 2)) (hp2 : 0 ≤ σ 34 2 ∧ σ 34 2 ≤ 30) (hp0_ : gmC 2 σ f) (hp1_ : TV f) (hp2_ : PZ f) (hp3_ : EVO f rd l) (hp4_ : ∀ j : Nat, (j : Int) < 4 * l → σ 35 j = rd j) (hp5_ : σ 34 2 = l ∧ (0 ≤ l ∧ l ≤ 30)) (hQ : ∀ r : Int, ∀ σ' : xS, Fr [15, 16, 17, 18, 19, 20, 21, 22, 23, 24, 25, 26, 27, 44, 45] [] σ σ' → ((0 ≤ r ∧ r ≤ σ 34 2) ∧ JG (xsel [15, 16, 17, 18, 19, 20, 21, 22, 23, 24, 25, 26, 27] σ')) → Fr [15, 16, 17, 18, 19, 20, 21, 22, 23, 24, 25, 26, 27, 44, 45] [] σ σ' → (∃ (n : Nat) (wr : Int), JPX f rd l σ σ' r n wr) → Q (some (xvi r)) σ') : xT kX10_judge [xvr 0] σ Q := by
  refine jkX10_judge _ _ (fun o ς => ∃ r : Int, o = some (xvi r) ∧ Fr [15, 16, 17, 18, 19, 20, 21, 22, 23, 24, 25, 26, 27, 44, 45] [] σ ς ∧ (((0 ≤ r ∧ r ≤ σ 34 2) ∧ JG (xsel [15, 16, 17, 18, 19, 20, 21, 22, 23, 24, 25, 26, 27] ς)))) (fun o ς => ∃ r : Int, o = some (xvi r) ∧ Fr [15, 16, 17, 18, 19, 20, 21, 22, 23, 24, 25, 26, 27, 44, 45] [] σ ς ∧ ((∃ (n : Nat) (wr : Int), JPX f rd l σ ς r n wr))) _ (sX10_judge hp0 hp1 hp2 (fun r ς f p => ⟨r, rfl, f, p⟩)) (sX10_judgeF hp0_ hp1_ hp2_ hp3_ hp4_ hp5_ (fun r ς f p => ⟨r, rfl, f, p⟩)) (fun o ς h1 h2 => ?_)
  obtain ⟨r, rfl, f0, p0⟩ := h1
  obtain ⟨r2, e2, f1, p1⟩ := h2
  have e3 : r = r2 := by cases e2; rfl
  subst e3
  exact hQ r ς f0 p0 f1 p1
set_option maxHeartbeats 4000000 in
set_option maxRecDepth 100000 in
theorem pX10_evening_bF {f rd : Nat → Int} {l : Int} {w : Nat → Bool} {σ : xS} {lives fine : Int} {Q : Option xV → xS → Prop} {Z : Nat → List xV → xS → Prop} (hp0 : JG (xsel [2, 3, 4, 5, 6, 7, 8, 9, 10, 11, 12, 13, 14] σ)) (hp1 : gmC 2 σ f) (hp2 : TV f) (hp3 : PZ f) (hp4 : fine = 0 ∨ fine = 1) (hp5 : fine = 1 → EVO f rd l ∧ (∀ j : Nat, (j : Int) < 4 * l → σ 35 j = rd j) ∧ σ 34 2 = l ∧ (0 ≤ l ∧ l ≤ 30)) (hZ1 : ∀ (σ' : xS), Fr [15, 16, 17, 18, 19, 20, 21, 22, 23, 24, 25, 26, 27, 44, 45] [1, 2] σ σ' → JG (xsel [2, 3, 4, 5, 6, 7, 8, 9, 10, 11, 12, 13, 14] σ') → σ' 0 1 = 0 → fine = 0 → σ' 0 2 = σ 30 9 → σ' 45 = σ 45 → Z 53 [xvr 0, xvi lives, xvi fine, xvu] σ') (hZ2 : ∀ (r : Int) (σ' : xS) (n : Nat) (wr : Int), Fr [15, 16, 17, 18, 19, 20, 21, 22, 23, 24, 25, 26, 27, 44, 45] [1, 2] σ σ' → JG (xsel [2, 3, 4, 5, 6, 7, 8, 9, 10, 11, 12, 13, 14] σ') → JG (xsel [15, 16, 17, 18, 19, 20, 21, 22, 23, 24, 25, 26, 27] σ') → σ' 0 1 = 0 → fine = 1 → σ' 0 2 = σ 30 9 → JPX f rd l σ σ' r n wr → lives = 1 ∧ 0 < n → Z 78 [xvr 0, xvi lives, xvi fine, xvi r] σ') (hZ3 : ∀ (r : Int) (σ' : xS) (n : Nat) (wr : Int), Fr [15, 16, 17, 18, 19, 20, 21, 22, 23, 24, 25, 26, 27, 44, 45] [1, 2] σ σ' → JG (xsel [2, 3, 4, 5, 6, 7, 8, 9, 10, 11, 12, 13, 14] σ') → σ' 0 1 = 0 → fine = 1 → σ' 0 2 = σ 30 9 → JPX f rd l σ σ' r n wr → ¬ (lives = 1 ∧ 0 < n) → Z 115 [xvr 0, xvi lives, xvi fine, xvi r] σ') : xTS (kX10_evening_b w) Q Z 32 [xvr 0, xvi lives, xvu, xvu] [xvi fine] σ := by
  intro X hX hZZ
  have hF : Fr [15, 16, 17, 18, 19, 20, 21, 22, 23, 24, 25, 26, 27, 44, 45] [1, 2] σ σ := Fr.rf
  refine ⟨400, ?_⟩
  show xw _ _ _ _ _ _ _ _ _ _ [xvr 0, xvi lives, xvu, xvu] [xvi fine] _
  refine And.intro (Nat.le_of_ble_eq_true rfl) ?_
  show xw _ _ _ _ _ _ _ _ _ _ [xvr 0, xvi lives, xvi fine, xvu] _ _
  have hF := hF.p (j := 1) (v := 0) (by decide)
  intro v2 e2 l2 h2
  have e2 : v2 = σ 30 9 := e2
  have hF := hF.p (j := 2) (v := v2) (by decide)
  refine And.intro (fun c4 => ?_) (fun c4 => ?_)
  · refine hX 400 64 _ _ ?_
    obtain ⟨hEo, hEr, hEl, hl30⟩ := hp5 (by omega)
    have m0 := hp2.1.1.1.1
    have m1 := hp2.1.1.1.2.1
    have hgx : gmC 2 (xsel [0, 1, 2, 3, 4, 5, 6, 7, 8, 9, 10, 11, 12, 13, 14, 15, 16, 17, 18, 19, 20, 21, 22, 23, 24, 25, 26, 27, 28, 29, 30, 31, 32, 33, 34, 35, 36, 37, 38, 39, 40, 41, 42, 43, 44, 45, 46] (xput (xput σ 0 1 0) 0 2 v2)) f := hp1.eq (fun t _ _ => (sel47 (by omega)).trans (xput_e0 (by omega)))
    have e35 : xsel [0, 1, 2, 3, 4, 5, 6, 7, 8, 9, 10, 11, 12, 13, 14, 15, 16, 17, 18, 19, 20, 21, 22, 23, 24, 25, 26, 27, 28, 29, 30, 31, 32, 33, 34, 35, 36, 37, 38, 39, 40, 41, 42, 43, 44, 45, 46] (xput (xput σ 0 1 0) 0 2 v2) 35 = σ 35 := (sel47 (by omega)).trans (xput_e0 (by omega))
    have e34 : xsel [0, 1, 2, 3, 4, 5, 6, 7, 8, 9, 10, 11, 12, 13, 14, 15, 16, 17, 18, 19, 20, 21, 22, 23, 24, 25, 26, 27, 28, 29, 30, 31, 32, 33, 34, 35, 36, 37, 38, 39, 40, 41, 42, 43, 44, 45, 46] (xput (xput σ 0 1 0) 0 2 v2) 34 = σ 34 := (sel47 (by omega)).trans (xput_e0 (by omega))
    refine xMVf (sh := (shW wlVF1 w)) (ci := 10) (τ := [0, 1, 2, 3, 4, 5, 6, 7, 8, 9, 10, 11, 12, 13, 14, 15, 16, 17, 18, 19, 20, 21, 22, 23, 24, 25, 26, 27, 28, 29, 30, 31, 32, 33, 34, 35, 36, 37, 38, 39, 40, 41, 42, 43, 44, 45, 46]) (E := xT kX10_judge) (t := 0) (r := []) (σ := (xput (xput σ 0 1 0) 0 2 v2)) rfl rfl (fun Q5 hQ5 => sX10_judgeJ (f := f) (rd := rd) (l := l) (σ := xsel [0, 1, 2, 3, 4, 5, 6, 7, 8, 9, 10, 11, 12, 13, 14, 15, 16, 17, 18, 19, 20, 21, 22, 23, 24, 25, 26, 27, 28, 29, 30, 31, 32, 33, 34, 35, 36, 37, 38, 39, 40, 41, 42, 43, 44, 45, 46] (xput (xput σ 0 1 0) 0 2 v2)) hp0 (by rw [e35, e34, hEl]; exact rwx_of hEo hEr m1.2 m0.2) (by rw [e34]; omega) hgx hp2 hp3 hEo (by rw [e35]; exact hEr) (by rw [e34]; exact ⟨hEl, hl30⟩) (fun r5 ς5 f5 p5 _ q5 => hQ5 _ _ ?_))
    obtain ⟨n, wr, hJP⟩ := q5
    have hJT := p5.2
    have hJP : JPX f rd l σ (xbk [0, 1, 2, 3, 4, 5, 6, 7, 8, 9, 10, 11, 12, 13, 14, 15, 16, 17, 18, 19, 20, 21, 22, 23, 24, 25, 26, 27, 28, 29, 30, 31, 32, 33, 34, 35, 36, 37, 38, 39, 40, 41, 42, 43, 44, 45, 46] (xput (xput σ 0 1 0) 0 2 v2) ς5) r5 n wr := hJP.to ((sel47 (by omega)).trans (xput_e0 (by omega))).symm ((sel47 (by omega)).trans (xput_e0 (by omega))).symm (fun t _ _ => bk47 (by omega)) (bk47 (by omega)) (bk47 (by omega))
    replace f5 : Fr [15, 16, 17, 18, 19, 20, 21, 22, 23, 24, 25, 26, 27, 44, 45] [] (xput (xput σ 0 1 0) 0 2 v2) (xbk [0, 1, 2, 3, 4, 5, 6, 7, 8, 9, 10, 11, 12, 13, 14, 15, 16, 17, 18, 19, 20, 21, 22, 23, 24, 25, 26, 27, 28, 29, 30, 31, 32, 33, 34, 35, 36, 37, 38, 39, 40, 41, 42, 43, 44, 45, 46] (xput (xput σ 0 1 0) 0 2 v2) ς5) := f5.bk0 (by decide) (by decide) (by decide)
    have hJT2 : JG (xsel [15, 16, 17, 18, 19, 20, 21, 22, 23, 24, 25, 26, 27] (xbk [0, 1, 2, 3, 4, 5, 6, 7, 8, 9, 10, 11, 12, 13, 14, 15, 16, 17, 18, 19, 20, 21, 22, 23, 24, 25, 26, 27, 28, 29, 30, 31, 32, 33, 34, 35, 36, 37, 38, 39, 40, 41, 42, 43, 44, 45, 46] (xput (xput σ 0 1 0) 0 2 v2) ς5)) := hJT
    clear hJT p5
    generalize xbk [0, 1, 2, 3, 4, 5, 6, 7, 8, 9, 10, 11, 12, 13, 14, 15, 16, 17, 18, 19, 20, 21, 22, 23, 24, 25, 26, 27, 28, 29, 30, 31, 32, 33, 34, 35, 36, 37, 38, 39, 40, 41, 42, 43, 44, 45, 46] (xput (xput σ 0 1 0) 0 2 v2) ς5 = σ5 at f5 hJP hJT2 ⊢
    have hF := hF.tr f5 (by decide) (by decide)
    have hJ := JG.fr2 hp0 hF (by decide)
    have hz1 : σ5 0 1 = 0 := f5.2 1 (by decide)
    have hz2 : σ5 0 2 = σ 30 9 := (f5.2 2 (by decide)).trans (show v2 = σ 30 9 from by omega)
    have hrn : r5 = n := hJP.1
    refine And.intro (Nat.le_of_ble_eq_true rfl) ?_
    show xw _ _ _ _ _ _ _ _ _ _ [xvr 0, xvi lives, xvi fine, xvi r5] _ _
    refine And.intro (fun c6 => ?_) (fun c6 => ?_)
    · exact hZZ _ _ _ (hZ3 _ _ n wr hF hJ hz1 (by omega) hz2 hJP (by omega))
    · refine And.intro (fun c7 => ?_) (fun c7 => ?_)
      · exact hZZ _ _ _ (hZ3 _ _ n wr hF hJ hz1 (by omega) hz2 hJP (by omega))
      · exact hZZ _ _ _ (hZ2 _ _ n wr hF hJ hJT2 hz1 (by omega) hz2 hJP ⟨by omega, by omega⟩)
  · exact hZZ _ _ _ (hZ1 _ hF (show JG (xsel [2, 3, 4, 5, 6, 7, 8, 9, 10, 11, 12, 13, 14] (xput (xput σ 0 1 0) 0 2 v2)) from hp0) (show 0 = 0 from by omega) (by omega) (show v2 = σ 30 9 from by omega) (xput_e0 (by decide)))
set_option maxHeartbeats 4000000 in
set_option maxRecDepth 100000 in
theorem pX10_evening_cF {w : Nat → Bool} {σ : xS} {lives f : Int} {Q : Option xV → xS → Prop} {Z : Nat → List xV → xS → Prop} (hp0 : 0 ≤ σ 30 10 ∧ σ 30 10 ≤ 1000) (hQ : ∀ r : Int, ∀ σ' : xS, Fr [] [] σ σ' → (r = -2 - σ 30 10) → Q (some (xvi r)) σ') : xTE (kX10_evening_c w) Q Z 53 [xvr 0, xvi lives, xvi f, xvu] σ := by
  intro X hX hZZ
  have hF : Fr [] [] σ σ := Fr.rf
  refine hX 400 53 _ _ ?_
  intro v1 e1 l1 h1
  have e1 : v1 = σ 30 10 := e1
  intro z2 t2 e2 l2 h2
  try have w2 : t2 = 0 := by omega
  refine And.intro rfl ?_
  exact hQ _ _ hF (show z2 = -2 - σ 30 10 from by first | trivial | omega)
