set_option maxHeartbeats 4000000 in
set_option maxRecDepth 100000 in
theorem pX10_evening_dF {g : Nat → Int} {w : Nat → Bool} {σ : xS} {lives f rt : Int} {Q : Option xV → xS → Prop} {Z : Nat → List xV → xS → Prop} (hp0 : JG (xsel [15, 16, 17, 18, 19, 20, 21, 22, 23, 24, 25, 26, 27] σ)) (hp1 : gmC 15 σ g) (hQ : ∀ r : Int, ∀ σ' : xS, Fr [2, 3, 4, 5, 6, 7, 8, 9, 10, 11, 12, 13, 14, 43] [] σ σ' → (JG (xsel [2, 3, 4, 5, 6, 7, 8, 9, 10, 11, 12, 13, 14] σ') ∧ gmC 2 σ' g ∧ (∀ j : Nat, j < 6 → σ' 3 j = σ 16 j) ∧ (∀ i : Nat, i < 8 → σ' 43 i = σ 44 i) ∧ r = (if rt < σ 34 2 then rt else -1)) → Q (some (xvi r)) σ') : xTE (kX10_evening_d w) Q Z 89 [xvr 0, xvi lives, xvi f, xvi rt] σ := by
  intro X hX hZZ
  have hF : Fr [2, 3, 4, 5, 6, 7, 8, 9, 10, 11, 12, 13, 14, 43] [] σ σ := Fr.rf
  refine hX 400 89 _ _ ?_
  refine xMVf (sh := (shW wlVF0 w)) (ci := 2) (τ := [2, 3, 4, 5, 6, 7, 8, 9, 10, 11, 12, 13, 14, 15, 16, 17, 18, 19, 20, 21, 22, 23, 24, 25, 26, 27]) (E := xT kX2_copyFrom) (t := 2) (r := [xvr 15]) (σ := σ) rfl rfl (fun Q1 hQ1 => sX2_copyFromJ (f := g) (σ := xsel [2, 3, 4, 5, 6, 7, 8, 9, 10, 11, 12, 13, 14, 15, 16, 17, 18, 19, 20, 21, 22, 23, 24, 25, 26, 27] σ) hp0.1.2.2.2 hp0.2.1 (hp1.src (tb := 2)) (fun ς1 f1 p1 _ q1 => hQ1 _ _ ?_))
  have hJ : JG (xsel [2, 3, 4, 5, 6, 7, 8, 9, 10, 11, 12, 13, 14] (xbk [2, 3, 4, 5, 6, 7, 8, 9, 10, 11, 12, 13, 14, 15, 16, 17, 18, 19, 20, 21, 22, 23, 24, 25, 26, 27] σ ς1)) := by
    obtain ⟨c1, c2, c3, c4, c5⟩ := p1
    exact JG.cp (f := xsel [15, 16, 17, 18, 19, 20, 21, 22, 23, 24, 25, 26, 27] σ) hp0 c1 c2 c3 c4 c5
  have hg2 : gmC 2 (xbk [2, 3, 4, 5, 6, 7, 8, 9, 10, 11, 12, 13, 14, 15, 16, 17, 18, 19, 20, 21, 22, 23, 24, 25, 26, 27] σ ς1) g := gm_bk q1.1 (q1.2.1.trans hp1.2) (by decide)
  have hn2 : ∀ j : Nat, j < 6 → (xbk [2, 3, 4, 5, 6, 7, 8, 9, 10, 11, 12, 13, 14, 15, 16, 17, 18, 19, 20, 21, 22, 23, 24, 25, 26, 27] σ ς1) 3 j = σ 16 j := fun j hj => q1.2.2 j (by omega)
  replace f1 : Fr [2, 3, 4, 5, 6, 7, 8, 9, 10, 11, 12, 13, 14] [] σ (xbk [2, 3, 4, 5, 6, 7, 8, 9, 10, 11, 12, 13, 14, 15, 16, 17, 18, 19, 20, 21, 22, 23, 24, 25, 26, 27] σ ς1) := f1.bk (by decide) (by decide)
  clear p1 q1
  generalize xbk [2, 3, 4, 5, 6, 7, 8, 9, 10, 11, 12, 13, 14, 15, 16, 17, 18, 19, 20, 21, 22, 23, 24, 25, 26, 27] σ ς1 = σ1 at f1 hJ hg2 hn2 ⊢
  have hF := hF.tr f1 (by decide) (by decide)
  have k44 : σ1 44 = σ 44 := f1.1 44 (by decide) (by decide)
  refine And.intro (Or.inl rfl) (And.intro rfl (And.intro ⟨by omega, by omega, by omega, by omega, by omega⟩ ?_))
  have hr43 : ∀ i : Nat, i < 8 → xcp σ1 44 (0 : Int).toNat 43 (0 : Int).toNat (8 : Int).toNat 43 i = σ 44 i := fun i hi => (xcp_in (by exact hi)).trans (by rw [k44])
  generalize hx2 : xcp σ1 44 _ 43 _ _ = σ2 at hr43 ⊢
  have f2 : Fr [43] [] σ1 σ2 := by
    rw [← hx2]
    exact ⟨fun t h0 hn => by funext j; unfold xcp; rw [if_neg (fun e => hn (by simp [e]))], fun j _ => by unfold xcp; rw [if_neg (by decide)]⟩
  have hF := hF.tr f2 (by decide) (by decide)
  have hJ := JG.fr2 hJ f2 (by decide)
  have hg2 := hg2.eq (σ' := σ2) (fun t _ _ => f2.1 t (by omega) (by simp; omega))
  have hn2 : ∀ j : Nat, j < 6 → σ2 3 j = σ 16 j := fun j hj => (congrFun (f2.1 3 (by decide) (by decide)) j).trans (hn2 j hj)
  refine hX 400 115 _ _ ?_
  intro v3 e3 l3 h3
  have e3 : v3 = σ2 34 2 := e3
  refine And.intro (fun c4 => ?_) (fun c4 => ?_)
  · refine And.intro rfl ?_
    have h34 : σ2 34 2 = σ 34 2 := congrFun (hF.1 34 (by decide) (by decide)) 2
    exact hQ _ _ hF ⟨hJ, hg2, hn2, hr43, by
      by_cases c : rt < σ 34 2
      · rw [if_pos c] <;> omega
      · rw [if_neg c] <;> omega⟩
  · refine And.intro rfl ?_
    have h34 : σ2 34 2 = σ 34 2 := congrFun (hF.1 34 (by decide) (by decide)) 2
    exact hQ _ _ hF ⟨hJ, hg2, hn2, hr43, by
      by_cases c : rt < σ 34 2
      · rw [if_pos c] <;> omega
      · rw [if_neg c] <;> omega⟩
set_option maxHeartbeats 4000000 in
set_option maxRecDepth 100000 in
theorem pX10_evening_eF {w : Nat → Bool} {σ : xS} {lives f rt : Int} {Q : Option xV → xS → Prop} {Z : Nat → List xV → xS → Prop} (hQ : ∀ r : Int, ∀ σ' : xS, Fr [] [] σ σ' → (r = (if rt < σ 34 2 then rt else -1)) → Q (some (xvi r)) σ') : xTE (kX10_evening_e w) Q Z 115 [xvr 0, xvi lives, xvi f, xvi rt] σ := by
  intro X hX hZZ
  have hF : Fr [] [] σ σ := Fr.rf
  refine hX 400 115 _ _ ?_
  intro v1 e1 l1 h1
  have e1 : v1 = σ 34 2 := e1
  refine And.intro (fun c2 => ?_) (fun c2 => ?_)
  · refine And.intro rfl ?_
    have h34 : σ 34 2 = σ 34 2 := congrFun (hF.1 34 (by decide) (by decide)) 2
    exact hQ _ _ hF (by
      by_cases c : rt < σ 34 2
      · rw [if_pos c] <;> omega
      · rw [if_neg c] <;> omega)
  · refine And.intro rfl ?_
    have h34 : σ 34 2 = σ 34 2 := congrFun (hF.1 34 (by decide) (by decide)) 2
    exact hQ _ _ hF (by
      by_cases c : rt < σ 34 2
      · rw [if_pos c] <;> omega
      · rw [if_neg c] <;> omega)
theorem kpG.base {w w' : Nat → Bool} {σ σ3 σ' : xS} {f : Nat → Int} (h : kpG w σ3 w' σ' f) (e39 : σ3 39 = σ 39) (e3 : ∀ j : Nat, j < 6 → σ3 3 j = σ 3 j) (e47 : ∀ t, 47 ≤ t → σ3 t = σ t) : kpG w σ w' σ' f := by
  obtain ⟨i, a1, a2, a3, a4, a5, ⟨a6, a7⟩, a8, a9⟩ := h
  rw [e39] at a2 a8 a9
  exact ⟨i, a1, a2, a3, a4, fun t ht hb => (a5 t ht hb).trans (e47 t ht), ⟨a6, fun j hj => (a7 j hj).trans (e3 j hj)⟩, a8, a9⟩
