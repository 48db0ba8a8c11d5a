theorem TG.g {σ σ' : xS} {ts js : List Nat} (h : TG σ) (hF : Fr ts js σ σ') (a1 : 1 ∉ ts) (a7 : 7 ∉ ts) (a9 : 9 ∉ ts) (k0 : σ' 5 0 = σ 5 0) (k1 : 0 ≤ σ' 5 1 ∧ σ' 5 1 ≤ 6) (k2 : σ' 5 2 = σ 5 2) (k8 : σ' 5 8 = σ 5 8) (k9 : σ' 5 9 = σ 5 9) : TG σ' := by
  have e1 := hF.1 1 (by decide) a1; have e7 := hF.1 7 (by decide) a7; have e9 := hF.1 9 (by decide) a9
  obtain ⟨⟨⟨g1, g2, g3, g4⟩, g5, g6⟩, h4, h3⟩ := h
  refine ⟨⟨⟨?_, k1, ?_, ?_⟩, ?_, ?_⟩, ?_, ?_⟩
  · show 0 ≤ σ' 5 0 ∧ σ' 5 0 ≤ 13; rw [k0]; exact g1
  · show 0 ≤ σ' 5 8 ∧ σ' 5 8 ≤ σ' 5 9 ∧ σ' 5 9 ≤ 52; rw [k8, k9]; exact g3
  · show ∀ i : Nat, (i : Int) < σ' 5 9 → 0 ≤ σ' 9 i ∧ σ' 9 i ≤ 12; rw [k9, e9]; exact g4
  · show CHx (σ' 7); rw [e7]; exact g5
  · show CSx (σ' 7) (σ' 9) (σ' 5 8) (σ' 5 9); rw [k8, k9, e7, e9]; exact g6
  · rw [e1, k8, k9, e7, e9]; exact h4
  · rw [k2, k9, k0, e9]; exact h3
theorem TG.hand {σ σ' : xS} {p kind n : Int} (h : TG σ) (h1 : 0 ≤ p ∧ p ≤ 5) (h2 : 0 ≤ kind ∧ kind ≤ 12) (hn : 0 ≤ n) (hs : σ 1 kind.toNat + n ≤ 4) (e1 : σ' 1 = up (σ 1) kind.toNat (σ 1 kind.toNat + n)) (e7 : σ' 7 = up (σ 7) (13 * p + kind).toNat (σ 7 (13 * p + kind).toNat + n)) (e9 : σ' 9 = σ 9) (k0 : σ' 5 0 = σ 5 0) (k1 : σ' 5 1 = σ 5 1) (k2 : σ' 5 2 = σ 5 2) (k8 : σ' 5 8 = σ 5 8) (k9 : σ' 5 9 = σ 5 9) : TG σ' := by
  obtain ⟨⟨⟨g1, g2, g3, g4⟩, g5, g6⟩, h4, h3⟩ := h
  rw [ixk h1 h2] at e7
  have hG : ∀ k : Nat, k < 13 → gsf (σ' 7) (σ' 9) (σ' 5 8) (σ' 5 9) k ≤ σ' 1 k ∧ σ' 1 k ≤ 4 := by
    intro k hk
    have x := h4 k hk
    rw [e7, e9, k8, k9, gsf_up (by omega) (by omega) hk, e1]
    by_cases e : k = kind.toNat
    · subst e; rw [if_pos rfl, up_s]; omega
    · rw [if_neg e, up_n e]; omega
  refine ⟨⟨⟨?_, ?_, ?_, ?_⟩, ?_, ?_⟩, hG, ?_⟩
  · show 0 ≤ σ' 5 0 ∧ σ' 5 0 ≤ 13; rw [k0]; exact g1
  · show 0 ≤ σ' 5 1 ∧ σ' 5 1 ≤ 6; rw [k1]; exact g2
  · show 0 ≤ σ' 5 8 ∧ σ' 5 8 ≤ σ' 5 9 ∧ σ' 5 9 ≤ 52; rw [k8, k9]; exact g3
  · show ∀ i : Nat, (i : Int) < σ' 5 9 → 0 ≤ σ' 9 i ∧ σ' 9 i ≤ 12; rw [k9, e9]; exact g4
  · show CHx (σ' 7)
    rw [e7]
    intro q k hq hk
    by_cases e : 13 * q + k = 13 * p.toNat + kind.toNat
    · rw [e, up_s]
      have y : 0 ≤ σ 7 (13 * p.toNat + kind.toNat) := g5 p.toNat kind.toNat (by omega) (by omega)
      omega
    · rw [up_n e]; exact g5 q k hq hk
  · show CSx (σ' 7) (σ' 9) (σ' 5 8) (σ' 5 9)
    intro k hk
    have y := hG k hk
    omega
  · rw [k2, k9, k0, e9]; exact h3
theorem TG.heap {σ σ' : xS} {kind : Int} (h : TG σ) (h2 : 0 ≤ kind ∧ kind ≤ 12) (hs : σ 1 kind.toNat + 1 ≤ 4) (e1 : σ' 1 = up (σ 1) kind.toNat (σ 1 kind.toNat + 1)) (e7 : σ' 7 = σ 7) (hp : (σ 5 9 < 52 ∧ σ' 5 9 = σ 5 9 + 1 ∧ σ' 9 = up (σ 9) (σ 5 9).toNat kind) ∨ (σ 5 9 = 52 ∧ σ' 5 9 = 52 ∧ σ' 9 = σ 9)) (k0 : σ' 5 0 = σ 5 0) (k1 : σ' 5 1 = σ 5 1) (k2 : σ' 5 2 = σ 5 2) (k8 : σ' 5 8 = σ 5 8) (hkk : kind < σ 5 0) : TG σ' := by
  obtain ⟨⟨⟨g1, g2, g3, g4⟩, g5, g6⟩, h4, h3, h3k⟩ := h
  have g3 : 0 ≤ σ 5 8 ∧ σ 5 8 ≤ σ 5 9 ∧ σ 5 9 ≤ 52 := g3
  have g4 : ∀ i : Nat, (i : Int) < σ 5 9 → 0 ≤ σ 9 i ∧ σ 9 i ≤ 12 := g4
  have hG : ∀ k : Nat, k < 13 → gsf (σ' 7) (σ' 9) (σ' 5 8) (σ' 5 9) k ≤ σ' 1 k ∧ σ' 1 k ≤ 4 := by
    intro k hk
    have x := h4 k hk
    rcases hp with ⟨a, b, c⟩ | ⟨a, b, c⟩
    · have y := gcf_add (h := σ 9) (h' := up (σ 9) (σ 5 9).toNat kind) (a := σ 5 8) (b := σ 5 9) (k := k) ⟨g3.1, g3.2.1⟩ a (fun i hi => up_n hi)
      rw [up_s] at y
      rw [e7, c, k8, b, e1]
      unfold gsf at x ⊢
      rw [y]
      by_cases e : k = kind.toNat
      · subst e; rw [if_pos (by omega), up_s]; omega
      · rw [if_neg (by omega), up_n e]; omega
    · rw [e7, c, k8, b.trans a.symm, e1]
      by_cases e : k = kind.toNat
      · subst e; rw [up_s]; omega
      · rw [up_n e]; omega
  refine ⟨⟨⟨?_, ?_, ?_, ?_⟩, ?_, ?_⟩, hG, ?_⟩
  · show 0 ≤ σ' 5 0 ∧ σ' 5 0 ≤ 13; rw [k0]; exact g1
  · show 0 ≤ σ' 5 1 ∧ σ' 5 1 ≤ 6; rw [k1]; exact g2
  · show 0 ≤ σ' 5 8 ∧ σ' 5 8 ≤ σ' 5 9 ∧ σ' 5 9 ≤ 52
    rw [k8]
    rcases hp with ⟨a, b, c⟩ | ⟨a, b, c⟩
    · rw [b]; omega
    · rw [b]; omega
  · show ∀ i : Nat, (i : Int) < σ' 5 9 → 0 ≤ σ' 9 i ∧ σ' 9 i ≤ 12
    intro i hi
    rcases hp with ⟨a, b, c⟩ | ⟨a, b, c⟩
    · rw [c]
      by_cases e : i = (σ 5 9).toNat
      · rw [e, up_s]; exact h2
      · rw [up_n e]; exact g4 i (by omega)
    · rw [c]; exact g4 i (by omega)
  · show CHx (σ' 7); rw [e7]; exact g5
  · show CSx (σ' 7) (σ' 9) (σ' 5 8) (σ' 5 9)
    intro k hk
    have y := hG k hk
    omega
  · refine ⟨by rw [k2]; exact h3, ?_⟩
    rw [k0]
    intro i hi
    rcases hp with ⟨a, b, c⟩ | ⟨a, b, c⟩
    · rw [c]
      by_cases e : i = (σ 5 9).toNat
      · rw [e, up_s]; exact hkk
      · rw [up_n e]; exact h3k i (by omega)
    · rw [c]; exact h3k i (by omega)
set_option maxHeartbeats 4000000 in
set_option maxRecDepth 100000 in
theorem sX9_readPerson {σ : xS} {Q : Option xV → xS → Prop} (hp0 : TG σ) (hp1 : (0 ≤ σ 2 4 ∧ σ 2 4 ≤ σ 2 2 ∧ σ 2 2 ≤ 940)) (hQ : ∀ r : Int, ∀ σ' : xS, Fr [2, 5, 6] [] σ σ' → (TG σ' ∧ (0 ≤ σ' 2 4 ∧ σ' 2 4 ≤ σ' 2 2 ∧ σ' 2 2 ≤ 940) ∧ (r = 0 ∨ r = 1)) → Q (some (xvi r)) σ') : xT kX9_readPerson [xvr 0, xvr 5] σ Q := by
  refine ⟨Nat.le_of_ble_eq_true rfl, fun X hX => ?_⟩
  show X 0 [xvr 0, xvr 5] σ
  have hF : Fr [2, 5, 6] [] σ σ := Fr.rf
  refine hX 400 0 _ _ ?_
  have hT := hp0
  intro v1 e1 l1 h1
  have e1 : v1 = σ 5 1 := e1
  refine And.intro (fun c2 => ?_) (fun c2 => ?_)
  · refine xMVf (sh := shT) (ci := 6) (τ := [2, 3, 4]) (E := xT kX6_advance) (t := 2) (r := []) (σ := σ) rfl rfl (fun Q3 hQ3 => sX6_advance (σ := xsel [2, 3, 4] σ)  (show 0 ≤ (σ 2 4) ∧ (σ 2 4) ≤ (σ 2 2) ∧ (σ 2 2) ≤ 940 from by omega) (fun ς3 f3 p3 => hQ3 _ _ ?_))
    have kq3_2 : (xbk [2, 3, 4] σ ς3) 2 2 = σ 2 2 := f3.2 2 (by decide)
    replace f3 : Fr [2] [] σ (xbk [2, 3, 4] σ ς3) := f3.bk (by decide) (by decide)
    replace p3 : 0 ≤ (xbk [2, 3, 4] σ ς3) 2 4 ∧ (xbk [2, 3, 4] σ ς3) 2 4 ≤ (σ 2 2) := p3
    generalize xbk [2, 3, 4] σ ς3 = σ3 at f3 kq3_2 p3 ⊢
    have hF := hF.tr f3 (by decide) (by decide)
    have hT := hT.fr f3 (by decide) (by decide) (by decide) (by decide)
    refine xMVp (sh := shT) (ci := 6) (τ := [2, 3, 4]) (E := xT kX6_isAt) (t := 2) (r := [xvi 300]) (σ := σ3) rfl rfl xbk_sel (fun Q4 hQ4 => sX6_isAt (σ := xsel [2, 3, 4] σ3) (wanted := 300)  (fun r4 p4 => hQ4 _ ?_))
    have p4 : (r4 = 1 ∧ (σ3 2 5) = 300) ∨ (r4 = 0 ∧ ¬ (σ3 2 5) = 300) := p4
    refine And.intro (fun c5 => ?_) (fun c5 => ?_)
    · replace p4 : (σ3 2 5) = 300 := by
        rcases p4 with q | q
        · exact q.2
        · exact absurd q.1 (by omega)
      intro v6 e6 l6 h6
      have e6 : v6 = σ3 2 8 := e6
      refine xMVp (sh := shT) (ci := 2) (τ := [5, 6, 7, 8, 9, 10, 11, 12, 13, 14, 15, 16, 17]) (E := xT kX2_find) (t := 5) (r := [xvl v6]) (σ := σ3) rfl rfl xbk_sel (fun Q7 hQ7 => sX2_findE (σ := xsel [5, 6, 7, 8, 9, 10, 11, 12, 13, 14, 15, 16, 17] σ3) (name := v6) (show 0 ≤ (σ3 5 1) ∧ (σ3 5 1) ≤ 6 from hT.1.1.2.1) (fun r7 p7 => hQ7 _ ?_))
      have p7 : (r7 = -1 ∧ ∀ q : Nat, (q : Int) < (σ3 5 1) → ¬ σ3 6 q = v6) ∨ (0 ≤ r7 ∧ r7 < (σ3 5 1) ∧ σ3 6 r7.toNat = v6) := p7
      clear p7
      refine And.intro (fun c8 => ?_) (fun c8 => ?_)
      · intro v9 e9 l9 h9
        have e9 : v9 = σ3 2 8 := e9
        
        refine xMVf (sh := shT) (ci := 2) (τ := [5, 6, 7, 8, 9, 10, 11, 12, 13, 14, 15, 16, 17]) (E := xT kX2_addPerson) (t := 5) (r := [xvl v9]) (σ := σ3) rfl rfl (fun Q10 hQ10 => sX2_addPerson (σ := xsel [5, 6, 7, 8, 9, 10, 11, 12, 13, 14, 15, 16, 17] σ3) (name := v9) (show 0 ≤ (σ3 5 1) ∧ (σ3 5 1) ≤ 6 from hT.1.1.2.1) (fun ς10 f10 p10 => hQ10 _ _ ?_))
        have kq10_0 : (xbk [5, 6, 7, 8, 9, 10, 11, 12, 13, 14, 15, 16, 17] σ3 ς10) 5 0 = σ3 5 0 := f10.2 0 (by decide)
        have kq10_2 : (xbk [5, 6, 7, 8, 9, 10, 11, 12, 13, 14, 15, 16, 17] σ3 ς10) 5 2 = σ3 5 2 := f10.2 2 (by decide)
        have kq10_8 : (xbk [5, 6, 7, 8, 9, 10, 11, 12, 13, 14, 15, 16, 17] σ3 ς10) 5 8 = σ3 5 8 := f10.2 8 (by decide)
        have kq10_9 : (xbk [5, 6, 7, 8, 9, 10, 11, 12, 13, 14, 15, 16, 17] σ3 ς10) 5 9 = σ3 5 9 := f10.2 9 (by decide)
        replace f10 : Fr [5, 6] [] σ3 (xbk [5, 6, 7, 8, 9, 10, 11, 12, 13, 14, 15, 16, 17] σ3 ς10) := f10.bk (by decide) (by decide)
        replace p10 : (0 ≤ (xbk [5, 6, 7, 8, 9, 10, 11, 12, 13, 14, 15, 16, 17] σ3 ς10) 5 1 ∧ (xbk [5, 6, 7, 8, 9, 10, 11, 12, 13, 14, 15, 16, 17] σ3 ς10) 5 1 ≤ 6) := p10
        generalize xbk [5, 6, 7, 8, 9, 10, 11, 12, 13, 14, 15, 16, 17] σ3 ς10 = σ10 at f10 kq10_0 kq10_2 kq10_8 kq10_9 p10 ⊢
        have hF := hF.tr f10 (by decide) (by decide)
        have hT := hT.g f10 (by decide) (by decide) (by decide) kq10_0 p10 kq10_2 kq10_8 kq10_9
        have kr4_10 : σ10 2 4 = σ3 2 4 := congrFun (f10.1 2 (by decide) (by decide)) 4
        have kr2_10 : σ10 2 2 = σ3 2 2 := congrFun (f10.1 2 (by decide) (by decide)) 2
        refine xMVf (sh := shT) (ci := 6) (τ := [2, 3, 4]) (E := xT kX6_advance) (t := 2) (r := []) (σ := σ10) rfl rfl (fun Q11 hQ11 => sX6_advance (σ := xsel [2, 3, 4] σ10)  (show 0 ≤ (σ10 2 4) ∧ (σ10 2 4) ≤ (σ10 2 2) ∧ (σ10 2 2) ≤ 940 from by omega) (fun ς11 f11 p11 => hQ11 _ _ ?_))
        have kq11_2 : (xbk [2, 3, 4] σ10 ς11) 2 2 = σ10 2 2 := f11.2 2 (by decide)
        replace f11 : Fr [2] [] σ10 (xbk [2, 3, 4] σ10 ς11) := f11.bk (by decide) (by decide)
        replace p11 : 0 ≤ (xbk [2, 3, 4] σ10 ς11) 2 4 ∧ (xbk [2, 3, 4] σ10 ς11) 2 4 ≤ (σ10 2 2) := p11
        generalize xbk [2, 3, 4] σ10 ς11 = σ11 at f11 kq11_2 p11 ⊢
        have hF := hF.tr f11 (by decide) (by decide)
        have hT := hT.fr f11 (by decide) (by decide) (by decide) (by decide)
        refine And.intro rfl ?_
        refine And.intro (by omega) ?_
        exact hQ _ _ hF ⟨hT, (show 0 ≤ σ11 2 4 ∧ σ11 2 4 ≤ σ11 2 2 ∧ σ11 2 2 ≤ 940 from by omega), by omega⟩
      · refine xMVf (sh := shT) (ci := 6) (τ := [2, 3, 4]) (E := xT kX6_fail) (t := 2) (r := [xvi 3]) (σ := σ3) rfl rfl (fun Q12 hQ12 => sX6_fail (σ := xsel [2, 3, 4] σ3) (kind := 3)  (fun r12 ς12 f12 p12 => hQ12 _ _ ?_))
        have kq12_2 : (xbk [2, 3, 4] σ3 ς12) 2 2 = σ3 2 2 := f12.2 2 (by decide)
        have kq12_4 : (xbk [2, 3, 4] σ3 ς12) 2 4 = σ3 2 4 := f12.2 4 (by decide)
        have kq12_5 : (xbk [2, 3, 4] σ3 ς12) 2 5 = σ3 2 5 := f12.2 5 (by decide)
        have kq12_7 : (xbk [2, 3, 4] σ3 ς12) 2 7 = σ3 2 7 := f12.2 7 (by decide)
        have kq12_8 : (xbk [2, 3, 4] σ3 ς12) 2 8 = σ3 2 8 := f12.2 8 (by decide)
        replace f12 : Fr [2] [] σ3 (xbk [2, 3, 4] σ3 ς12) := f12.bk (by decide) (by decide)
        replace p12 : r12 = 0 := p12
        generalize xbk [2, 3, 4] σ3 ς12 = σ12 at f12 kq12_2 kq12_4 kq12_5 kq12_7 kq12_8 p12 ⊢
        have hF := hF.tr f12 (by decide) (by decide)
        have hT := hT.fr f12 (by decide) (by decide) (by decide) (by decide)
        refine And.intro rfl ?_
        refine And.intro (by omega) ?_
        exact hQ _ _ hF ⟨hT, (show 0 ≤ σ12 2 4 ∧ σ12 2 4 ≤ σ12 2 2 ∧ σ12 2 2 ≤ 940 from by omega), by omega⟩
    · replace p4 : ¬ (σ3 2 5) = 300 := by
        rcases p4 with q | q
        · exact absurd q.1 (by omega)
        · exact q.2
      refine xMVf (sh := shT) (ci := 6) (τ := [2, 3, 4]) (E := xT kX6_fail) (t := 2) (r := [xvi 1]) (σ := σ3) rfl rfl (fun Q13 hQ13 => sX6_fail (σ := xsel [2, 3, 4] σ3) (kind := 1)  (fun r13 ς13 f13 p13 => hQ13 _ _ ?_))
      have kq13_2 : (xbk [2, 3, 4] σ3 ς13) 2 2 = σ3 2 2 := f13.2 2 (by decide)
      have kq13_4 : (xbk [2, 3, 4] σ3 ς13) 2 4 = σ3 2 4 := f13.2 4 (by decide)
      have kq13_5 : (xbk [2, 3, 4] σ3 ς13) 2 5 = σ3 2 5 := f13.2 5 (by decide)
      have kq13_7 : (xbk [2, 3, 4] σ3 ς13) 2 7 = σ3 2 7 := f13.2 7 (by decide)
      have kq13_8 : (xbk [2, 3, 4] σ3 ς13) 2 8 = σ3 2 8 := f13.2 8 (by decide)
      replace f13 : Fr [2] [] σ3 (xbk [2, 3, 4] σ3 ς13) := f13.bk (by decide) (by decide)
      replace p13 : r13 = 0 := p13
      generalize xbk [2, 3, 4] σ3 ς13 = σ13 at f13 kq13_2 kq13_4 kq13_5 kq13_7 kq13_8 p13 ⊢
      have hF := hF.tr f13 (by decide) (by decide)
      have hT := hT.fr f13 (by decide) (by decide) (by decide) (by decide)
      refine And.intro rfl ?_
      refine And.intro (by omega) ?_
      exact hQ _ _ hF ⟨hT, (show 0 ≤ σ13 2 4 ∧ σ13 2 4 ≤ σ13 2 2 ∧ σ13 2 2 ≤ 940 from by omega), by omega⟩
  · refine xMVf (sh := shT) (ci := 6) (τ := [2, 3, 4]) (E := xT kX6_fail) (t := 2) (r := [xvi 4]) (σ := σ) rfl rfl (fun Q14 hQ14 => sX6_fail (σ := xsel [2, 3, 4] σ) (kind := 4)  (fun r14 ς14 f14 p14 => hQ14 _ _ ?_))
    have kq14_2 : (xbk [2, 3, 4] σ ς14) 2 2 = σ 2 2 := f14.2 2 (by decide)
    have kq14_4 : (xbk [2, 3, 4] σ ς14) 2 4 = σ 2 4 := f14.2 4 (by decide)
    have kq14_5 : (xbk [2, 3, 4] σ ς14) 2 5 = σ 2 5 := f14.2 5 (by decide)
    have kq14_7 : (xbk [2, 3, 4] σ ς14) 2 7 = σ 2 7 := f14.2 7 (by decide)
    have kq14_8 : (xbk [2, 3, 4] σ ς14) 2 8 = σ 2 8 := f14.2 8 (by decide)
    replace f14 : Fr [2] [] σ (xbk [2, 3, 4] σ ς14) := f14.bk (by decide) (by decide)
    replace p14 : r14 = 0 := p14
    generalize xbk [2, 3, 4] σ ς14 = σ14 at f14 kq14_2 kq14_4 kq14_5 kq14_7 kq14_8 p14 ⊢
    have hF := hF.tr f14 (by decide) (by decide)
    have hT := hT.fr f14 (by decide) (by decide) (by decide) (by decide)
    refine And.intro rfl ?_
    refine And.intro (by omega) ?_
    exact hQ _ _ hF ⟨hT, (show 0 ≤ σ14 2 4 ∧ σ14 2 4 ≤ σ14 2 2 ∧ σ14 2 2 ≤ 940 from by omega), by omega⟩
set_option maxHeartbeats 4000000 in
set_option maxRecDepth 100000 in
theorem sX9_readHand {σ : xS} {Q : Option xV → xS → Prop} (hp0 : TG σ) (hp1 : (0 ≤ σ 2 4 ∧ σ 2 4 ≤ σ 2 2 ∧ σ 2 2 ≤ 940)) (hQ : ∀ r : Int, ∀ σ' : xS, Fr [1, 2, 5, 7, 8] [] σ σ' → (TG σ' ∧ (0 ≤ σ' 2 4 ∧ σ' 2 4 ≤ σ' 2 2 ∧ σ' 2 2 ≤ 940) ∧ (r = 0 ∨ r = 1)) → Q (some (xvi r)) σ') : xT kX9_readHand [xvr 0, xvr 5] σ Q := by
  refine ⟨Nat.le_of_ble_eq_true rfl, fun X hX => ?_⟩
  show X 0 [xvr 0, xvr 5, xvu, xvu] σ
  have hF : Fr [1, 2, 5, 7, 8] [] σ σ := Fr.rf
  refine hX 400 0 _ _ ?_
  have hT := hp0
  refine xMVf (sh := shT) (ci := 6) (τ := [2, 3, 4]) (E := xT kX6_advance) (t := 2) (r := []) (σ := σ) rfl rfl (fun Q1 hQ1 => sX6_advance (σ := xsel [2, 3, 4] σ)  (show 0 ≤ (σ 2 4) ∧ (σ 2 4) ≤ (σ 2 2) ∧ (σ 2 2) ≤ 940 from by omega) (fun ς1 f1 p1 => hQ1 _ _ ?_))
  have kq1_2 : (xbk [2, 3, 4] σ ς1) 2 2 = σ 2 2 := f1.2 2 (by decide)
  replace f1 : Fr [2] [] σ (xbk [2, 3, 4] σ ς1) := f1.bk (by decide) (by decide)
  replace p1 : 0 ≤ (xbk [2, 3, 4] σ ς1) 2 4 ∧ (xbk [2, 3, 4] σ ς1) 2 4 ≤ (σ 2 2) := p1
  generalize xbk [2, 3, 4] σ ς1 = σ1 at f1 kq1_2 p1 ⊢
  have hF := hF.tr f1 (by decide) (by decide)
  have hT := hT.fr f1 (by decide) (by decide) (by decide) (by decide)
  refine xMVf (sh := shT) (ci := 6) (τ := [2, 3, 4, 5, 6, 7, 8, 9, 10, 11, 12, 13, 14, 15, 16, 17]) (E := xT kX6_isPerson) (t := 2) (r := [xvr 5]) (σ := σ1) rfl rfl (fun Q2 hQ2 => sX6_isPerson (σ := xsel [2, 3, 4, 5, 6, 7, 8, 9, 10, 11, 12, 13, 14, 15, 16, 17] σ1)  (show 0 ≤ (σ1 5 1) ∧ (σ1 5 1) ≤ 6 from hT.1.1.2.1) (fun r2 ς2 f2 p2 => hQ2 _ _ ?_))
  have kq2_2 : (xbk [2, 3, 4, 5, 6, 7, 8, 9, 10, 11, 12, 13, 14, 15, 16, 17] σ1 ς2) 2 2 = σ1 2 2 := f2.2 2 (by decide)
  have kq2_4 : (xbk [2, 3, 4, 5, 6, 7, 8, 9, 10, 11, 12, 13, 14, 15, 16, 17] σ1 ς2) 2 4 = σ1 2 4 := f2.2 4 (by decide)
  have kq2_5 : (xbk [2, 3, 4, 5, 6, 7, 8, 9, 10, 11, 12, 13, 14, 15, 16, 17] σ1 ς2) 2 5 = σ1 2 5 := f2.2 5 (by decide)
  have kq2_7 : (xbk [2, 3, 4, 5, 6, 7, 8, 9, 10, 11, 12, 13, 14, 15, 16, 17] σ1 ς2) 2 7 = σ1 2 7 := f2.2 7 (by decide)
  have kq2_8 : (xbk [2, 3, 4, 5, 6, 7, 8, 9, 10, 11, 12, 13, 14, 15, 16, 17] σ1 ς2) 2 8 = σ1 2 8 := f2.2 8 (by decide)
  replace f2 : Fr [2] [] σ1 (xbk [2, 3, 4, 5, 6, 7, 8, 9, 10, 11, 12, 13, 14, 15, 16, 17] σ1 ς2) := f2.bk (by decide) (by decide)
  replace p2 : (r2 = 1 ∧ HasN (σ1 6) ((σ1 5 1)) ((σ1 2 8))) ∨ (r2 = 0 ∧ (0 : Int) ≤ 0) := p2
  generalize xbk [2, 3, 4, 5, 6, 7, 8, 9, 10, 11, 12, 13, 14, 15, 16, 17] σ1 ς2 = σ2 at f2 kq2_2 kq2_4 kq2_5 kq2_7 kq2_8 p2 ⊢
  have hF := hF.tr f2 (by decide) (by decide)
  have hT := hT.fr f2 (by decide) (by decide) (by decide) (by decide)
  have hN : r2 = 1 → HasN (σ2 6) (σ2 5 1) (σ2 2 8) := fun hr => by
    rw [f2.1 6 (by decide) (by decide), f2.1 5 (by decide) (by decide), kq2_8]
    rcases p2 with z | z
    · exact z.2
    · exfalso; omega
  replace p2 : r2 = 0 ∨ r2 = 1 := by
    rcases p2 with z | z
    · exact Or.inr z.1
    · exact Or.inl z.1
  refine And.intro (fun c3 => ?_) (fun c3 => ?_)
  · intro v4 e4 l4 h4
    have e4 : v4 = σ2 2 8 := e4
    have hNv : HasN (σ2 6) (σ2 5 1) v4 := by rw [show v4 = σ2 2 8 from by omega]; exact hN (by omega)
    clear hN
    have hn6 : 0 ≤ σ2 5 1 ∧ σ2 5 1 ≤ 6 := hT.1.1.2.1
    refine xMVp (sh := shT) (ci := 2) (τ := [5, 6, 7, 8, 9, 10, 11, 12, 13, 14, 15, 16, 17]) (E := xT kX2_find) (t := 5) (r := [xvl v4]) (σ := σ2) rfl rfl xbk_sel (fun Q5 hQ5 => sX2_findE (σ := xsel [5, 6, 7, 8, 9, 10, 11, 12, 13, 14, 15, 16, 17] σ2) (name := v4) (show 0 ≤ (σ2 5 1) ∧ (σ2 5 1) ≤ 6 from hT.1.1.2.1) (fun r5 p5 => hQ5 _ ?_))
    have p5 : (r5 = -1 ∧ ∀ q : Nat, (q : Int) < (σ2 5 1) → ¬ σ2 6 q = v4) ∨ (0 ≤ r5 ∧ r5 < (σ2 5 1) ∧ σ2 6 r5.toNat = v4) := p5
    replace p5 := HasN.f hNv p5
    clear hNv
    refine And.intro (Nat.le_of_ble_eq_true rfl) ?_
    show xw _ _ _ _ _ _ _ _ _ _ [xvr 0, xvr 5, xvi r5, xvu] _ _
    refine xMVf (sh := shT) (ci := 6) (τ := [2, 3, 4]) (E := xT kX6_advance) (t := 2) (r := []) (σ := σ2) rfl rfl (fun Q6 hQ6 => sX6_advance (σ := xsel [2, 3, 4] σ2)  (show 0 ≤ (σ2 2 4) ∧ (σ2 2 4) ≤ (σ2 2 2) ∧ (σ2 2 2) ≤ 940 from by omega) (fun ς6 f6 p6 => hQ6 _ _ ?_))
    have kq6_2 : (xbk [2, 3, 4] σ2 ς6) 2 2 = σ2 2 2 := f6.2 2 (by decide)
    replace f6 : Fr [2] [] σ2 (xbk [2, 3, 4] σ2 ς6) := f6.bk (by decide) (by decide)
    replace p6 : 0 ≤ (xbk [2, 3, 4] σ2 ς6) 2 4 ∧ (xbk [2, 3, 4] σ2 ς6) 2 4 ≤ (σ2 2 2) := p6
    generalize xbk [2, 3, 4] σ2 ς6 = σ6 at f6 kq6_2 p6 ⊢
    have hF := hF.tr f6 (by decide) (by decide)
    have hT := hT.fr f6 (by decide) (by decide) (by decide) (by decide)
    have hk0 : 0 ≤ σ6 5 0 ∧ σ6 5 0 ≤ 13 := hT.1.1.1
    intro v7 e7 l7 h7
    have e7 : v7 = σ6 5 0 := e7
    intro z8 t8 e8 l8 h8
    try have w8 : t8 = 0 := by omega
    refine xMVf (sh := shT) (ci := 6) (τ := [2, 3, 4]) (E := xT kX6_isNumber) (t := 2) (r := [xvi 0, xvi z8]) (σ := σ6) rfl rfl (fun Q9 hQ9 => sX6_isNumber (σ := xsel [2, 3, 4] σ6) (least := 0) (greatest := z8)  (fun r9 ς9 f9 p9 => hQ9 _ _ ?_))
    have kq9_2 : (xbk [2, 3, 4] σ6 ς9) 2 2 = σ6 2 2 := f9.2 2 (by decide)
    have kq9_4 : (xbk [2, 3, 4] σ6 ς9) 2 4 = σ6 2 4 := f9.2 4 (by decide)
    have kq9_5 : (xbk [2, 3, 4] σ6 ς9) 2 5 = σ6 2 5 := f9.2 5 (by decide)
    have kq9_7 : (xbk [2, 3, 4] σ6 ς9) 2 7 = σ6 2 7 := f9.2 7 (by decide)
    have kq9_8 : (xbk [2, 3, 4] σ6 ς9) 2 8 = σ6 2 8 := f9.2 8 (by decide)
    replace f9 : Fr [2] [] σ6 (xbk [2, 3, 4] σ6 ς9) := f9.bk (by decide) (by decide)
    replace p9 : (r9 = 1 ∧ 0 ≤ (σ6 2 7) ∧ (σ6 2 7) ≤ z8) ∨ (r9 = 0 ∧ (0 : Int) ≤ 0) := p9
    generalize xbk [2, 3, 4] σ6 ς9 = σ9 at f9 kq9_2 kq9_4 kq9_5 kq9_7 kq9_8 p9 ⊢
    have hF := hF.tr f9 (by decide) (by decide)
    have hT := hT.fr f9 (by decide) (by decide) (by decide) (by decide)
    refine And.intro (fun c10 => ?_) (fun c10 => ?_)
    · intro v11 e11 l11 h11
      have e11 : v11 = σ9 2 7 := e11
      refine And.intro (Nat.le_of_ble_eq_true rfl) ?_
      show xw _ _ _ _ _ _ _ _ _ _ [xvr 0, xvr 5, xvi r5, xvi v11] _ _
      refine xMVp (sh := shT) (ci := 2) (τ := [5, 6, 7, 8, 9, 10, 11, 12, 13, 14, 15, 16, 17]) (E := xT kX2_held) (t := 5) (r := [xvi r5, xvi v11]) (σ := σ9) rfl rfl xbk_sel (fun Q12 hQ12 => sX2_held (σ := xsel [5, 6, 7, 8, 9, 10, 11, 12, 13, 14, 15, 16, 17] σ9) (p := r5) (kind := v11) (show 0 ≤ r5 ∧ r5 ≤ 5 from by omega) (show 0 ≤ v11 ∧ v11 ≤ 12 from by omega) (fun r12 p12 => hQ12 _ ?_))
      have p12 : r12 = σ9 7 (13 * r5 + v11).toNat := p12
      refine And.intro (fun c13 => ?_) (fun c13 => ?_)
      · refine xMVf (sh := shT) (ci := 6) (τ := [2, 3, 4]) (E := xT kX6_advance) (t := 2) (r := []) (σ := σ9) rfl rfl (fun Q14 hQ14 => sX6_advance (σ := xsel [2, 3, 4] σ9)  (show 0 ≤ (σ9 2 4) ∧ (σ9 2 4) ≤ (σ9 2 2) ∧ (σ9 2 2) ≤ 940 from by omega) (fun ς14 f14 p14 => hQ14 _ _ ?_))
        have kq14_2 : (xbk [2, 3, 4] σ9 ς14) 2 2 = σ9 2 2 := f14.2 2 (by decide)
        replace f14 : Fr [2] [] σ9 (xbk [2, 3, 4] σ9 ς14) := f14.bk (by decide) (by decide)
        replace p14 : 0 ≤ (xbk [2, 3, 4] σ9 ς14) 2 4 ∧ (xbk [2, 3, 4] σ9 ς14) 2 4 ≤ (σ9 2 2) := p14
        generalize xbk [2, 3, 4] σ9 ς14 = σ14 at f14 kq14_2 p14 ⊢
        have hF := hF.tr f14 (by decide) (by decide)
        have hT := hT.fr f14 (by decide) (by decide) (by decide) (by decide)
        refine xMVf (sh := shT) (ci := 6) (τ := [2, 3, 4]) (E := xT kX6_isNumber) (t := 2) (r := [xvi 1, xvi 4]) (σ := σ14) rfl rfl (fun Q15 hQ15 => sX6_isNumber (σ := xsel [2, 3, 4] σ14) (least := 1) (greatest := 4)  (fun r15 ς15 f15 p15 => hQ15 _ _ ?_))
        have kq15_2 : (xbk [2, 3, 4] σ14 ς15) 2 2 = σ14 2 2 := f15.2 2 (by decide)
        have kq15_4 : (xbk [2, 3, 4] σ14 ς15) 2 4 = σ14 2 4 := f15.2 4 (by decide)
        have kq15_5 : (xbk [2, 3, 4] σ14 ς15) 2 5 = σ14 2 5 := f15.2 5 (by decide)
        have kq15_7 : (xbk [2, 3, 4] σ14 ς15) 2 7 = σ14 2 7 := f15.2 7 (by decide)
        have kq15_8 : (xbk [2, 3, 4] σ14 ς15) 2 8 = σ14 2 8 := f15.2 8 (by decide)
        replace f15 : Fr [2] [] σ14 (xbk [2, 3, 4] σ14 ς15) := f15.bk (by decide) (by decide)
        replace p15 : (r15 = 1 ∧ 1 ≤ (σ14 2 7) ∧ (σ14 2 7) ≤ 4) ∨ (r15 = 0 ∧ (0 : Int) ≤ 0) := p15
        generalize xbk [2, 3, 4] σ14 ς15 = σ15 at f15 kq15_2 kq15_4 kq15_5 kq15_7 kq15_8 p15 ⊢
        have hF := hF.tr f15 (by decide) (by decide)
        have hT := hT.fr f15 (by decide) (by decide) (by decide) (by decide)
        refine And.intro (fun c16 => ?_) (fun c16 => ?_)
        · have hi4 : σ15 1 v11.toNat ≤ 4 := (hT.2.1 v11.toNat (by omega)).2
          refine And.intro (rfl) (And.intro (⟨by omega, by omega⟩) ?_)
          intro v17 e17 l17 h17
          have e17 : v17 = σ15 1 v11.toNat := e17
          intro v18 e18 l18 h18
          have e18 : v18 = σ15 2 7 := e18
          intro z19 t19 e19 l19 h19
          try have w19 : t19 = 0 := by omega
          refine And.intro (fun c20 => ?_) (fun c20 => ?_)
          · refine And.intro (rfl) (And.intro (⟨by omega, by omega⟩) ?_)
            intro v21 e21 l21 h21
            have e21 : v21 = σ15 1 v11.toNat := e21
            intro v22 e22 l22 h22
            have e22 : v22 = σ15 2 7 := e22
            intro z23 t23 e23 l23 h23
            try have w23 : t23 = 0 := by omega
            refine And.intro (rfl) (And.intro (⟨by omega, by omega⟩) ?_)
            have hF := hF.pt (t := 1) (j := v11.toNat) (v := z23) (by decide) (by decide)
            intro v25 e25 l25 h25
            have e25 : v25 = σ15 2 7 := e25
            have hh : 0 ≤ σ15 7 (13 * r5 + v11).toNat ∧ σ15 7 (13 * r5 + v11).toNat ≤ 4 := by rw [ixk (by omega) (by omega)]; exact hT.1.2.1.h4 hT.1.2.2 (by omega) (by omega)
            have hE1 : (xput σ15 1 v11.toNat z23) 1 = up (σ15 1) v11.toNat (σ15 1 v11.toNat + v25) := by
              show xput σ15 1 v11.toNat z23 1 = _
              rw [xput_up, show z23 = σ15 1 v11.toNat + v25 from by omega]
            refine xMVf (sh := shT) (ci := 2) (τ := [5, 6, 7, 8, 9, 10, 11, 12, 13, 14, 15, 16, 17]) (E := xT kX2_addToHand) (t := 5) (r := [xvi r5, xvi v11, xvi v25]) (σ := (xput σ15 1 v11.toNat z23)) rfl rfl (fun Q26 hQ26 => sX2_addToHand (σ := xsel [5, 6, 7, 8, 9, 10, 11, 12, 13, 14, 15, 16, 17] (xput σ15 1 v11.toNat z23)) (p := r5) (kind := v11) (n := v25) (show 0 ≤ r5 ∧ r5 ≤ 5 from by omega) (show 0 ≤ v11 ∧ v11 ≤ 12 from by omega) (show -1000 ≤ σ15 7 (13 * r5 + v11).toNat + v25 ∧ σ15 7 (13 * r5 + v11).toNat + v25 ≤ 1000 from by omega) (fun ς26 f26 p26 => hQ26 _ _ ?_))
            have kq26_0 : (xbk [5, 6, 7, 8, 9, 10, 11, 12, 13, 14, 15, 16, 17] (xput σ15 1 v11.toNat z23) ς26) 5 0 = σ15 5 0 := f26.2 0 (by decide)
            have kq26_1 : (xbk [5, 6, 7, 8, 9, 10, 11, 12, 13, 14, 15, 16, 17] (xput σ15 1 v11.toNat z23) ς26) 5 1 = σ15 5 1 := f26.2 1 (by decide)
            have kq26_2 : (xbk [5, 6, 7, 8, 9, 10, 11, 12, 13, 14, 15, 16, 17] (xput σ15 1 v11.toNat z23) ς26) 5 2 = σ15 5 2 := f26.2 2 (by decide)
            have kq26_8 : (xbk [5, 6, 7, 8, 9, 10, 11, 12, 13, 14, 15, 16, 17] (xput σ15 1 v11.toNat z23) ς26) 5 8 = σ15 5 8 := f26.2 8 (by decide)
            have kq26_9 : (xbk [5, 6, 7, 8, 9, 10, 11, 12, 13, 14, 15, 16, 17] (xput σ15 1 v11.toNat z23) ς26) 5 9 = σ15 5 9 := f26.2 9 (by decide)
            replace f26 : Fr [5, 7, 8] [] (xput σ15 1 v11.toNat z23) (xbk [5, 6, 7, 8, 9, 10, 11, 12, 13, 14, 15, 16, 17] (xput σ15 1 v11.toNat z23) ς26) := f26.bk (by decide) (by decide)
            replace p26 : (xbk [5, 6, 7, 8, 9, 10, 11, 12, 13, 14, 15, 16, 17] (xput σ15 1 v11.toNat z23) ς26) 7 = up ((xput σ15 1 v11.toNat z23) 7) (13 * r5 + v11).toNat (σ15 7 (13 * r5 + v11).toNat + v25) := p26
            generalize xbk [5, 6, 7, 8, 9, 10, 11, 12, 13, 14, 15, 16, 17] (xput σ15 1 v11.toNat z23) ς26 = σ26 at f26 kq26_0 kq26_1 kq26_2 kq26_8 kq26_9 p26 ⊢
            have hF := hF.tr f26 (by decide) (by decide)
            have hT := hT.hand (p := r5) (kind := v11) (n := v25) (by omega) (by omega) (by omega) (by omega) ((f26.1 1 (by decide) (by decide)).trans hE1) p26 (f26.1 9 (by decide) (by decide)) kq26_0 kq26_1 kq26_2 kq26_8 kq26_9
            have kr4_26 : σ26 2 4 = σ15 2 4 := congrFun (f26.1 2 (by decide) (by decide)) 4
            have kr2_26 : σ26 2 2 = σ15 2 2 := congrFun (f26.1 2 (by decide) (by decide)) 2
            refine xMVf (sh := shT) (ci := 6) (τ := [2, 3, 4]) (E := xT kX6_advance) (t := 2) (r := []) (σ := σ26) rfl rfl (fun Q27 hQ27 => sX6_advance (σ := xsel [2, 3, 4] σ26)  (show 0 ≤ (σ26 2 4) ∧ (σ26 2 4) ≤ (σ26 2 2) ∧ (σ26 2 2) ≤ 940 from by omega) (fun ς27 f27 p27 => hQ27 _ _ ?_))
            have kq27_2 : (xbk [2, 3, 4] σ26 ς27) 2 2 = σ26 2 2 := f27.2 2 (by decide)
            replace f27 : Fr [2] [] σ26 (xbk [2, 3, 4] σ26 ς27) := f27.bk (by decide) (by decide)
            replace p27 : 0 ≤ (xbk [2, 3, 4] σ26 ς27) 2 4 ∧ (xbk [2, 3, 4] σ26 ς27) 2 4 ≤ (σ26 2 2) := p27
            generalize xbk [2, 3, 4] σ26 ς27 = σ27 at f27 kq27_2 p27 ⊢
            have hF := hF.tr f27 (by decide) (by decide)
            have hT := hT.fr f27 (by decide) (by decide) (by decide) (by decide)
            refine And.intro rfl ?_
            refine And.intro (by omega) ?_
            exact hQ _ _ hF ⟨hT, (show 0 ≤ σ27 2 4 ∧ σ27 2 4 ≤ σ27 2 2 ∧ σ27 2 2 ≤ 940 from by omega), by omega⟩
          · refine xMVf (sh := shT) (ci := 6) (τ := [2, 3, 4]) (E := xT kX6_fail) (t := 2) (r := [xvi 5]) (σ := σ15) rfl rfl (fun Q28 hQ28 => sX6_fail (σ := xsel [2, 3, 4] σ15) (kind := 5)  (fun r28 ς28 f28 p28 => hQ28 _ _ ?_))
            have kq28_2 : (xbk [2, 3, 4] σ15 ς28) 2 2 = σ15 2 2 := f28.2 2 (by decide)
            have kq28_4 : (xbk [2, 3, 4] σ15 ς28) 2 4 = σ15 2 4 := f28.2 4 (by decide)
            have kq28_5 : (xbk [2, 3, 4] σ15 ς28) 2 5 = σ15 2 5 := f28.2 5 (by decide)
            have kq28_7 : (xbk [2, 3, 4] σ15 ς28) 2 7 = σ15 2 7 := f28.2 7 (by decide)
            have kq28_8 : (xbk [2, 3, 4] σ15 ς28) 2 8 = σ15 2 8 := f28.2 8 (by decide)
            replace f28 : Fr [2] [] σ15 (xbk [2, 3, 4] σ15 ς28) := f28.bk (by decide) (by decide)
            replace p28 : r28 = 0 := p28
            generalize xbk [2, 3, 4] σ15 ς28 = σ28 at f28 kq28_2 kq28_4 kq28_5 kq28_7 kq28_8 p28 ⊢
            have hF := hF.tr f28 (by decide) (by decide)
            have hT := hT.fr f28 (by decide) (by decide) (by decide) (by decide)
            refine And.intro rfl ?_
            refine And.intro (by omega) ?_
            exact hQ _ _ hF ⟨hT, (show 0 ≤ σ28 2 4 ∧ σ28 2 4 ≤ σ28 2 2 ∧ σ28 2 2 ≤ 940 from by omega), by omega⟩
        · refine And.intro rfl ?_
          refine And.intro (by omega) ?_
          exact hQ _ _ hF ⟨hT, (show 0 ≤ σ15 2 4 ∧ σ15 2 4 ≤ σ15 2 2 ∧ σ15 2 2 ≤ 940 from by omega), by omega⟩
      · refine xMVf (sh := shT) (ci := 6) (τ := [2, 3, 4]) (E := xT kX6_fail) (t := 2) (r := [xvi 3]) (σ := σ9) rfl rfl (fun Q29 hQ29 => sX6_fail (σ := xsel [2, 3, 4] σ9) (kind := 3)  (fun r29 ς29 f29 p29 => hQ29 _ _ ?_))
        have kq29_2 : (xbk [2, 3, 4] σ9 ς29) 2 2 = σ9 2 2 := f29.2 2 (by decide)
        have kq29_4 : (xbk [2, 3, 4] σ9 ς29) 2 4 = σ9 2 4 := f29.2 4 (by decide)
        have kq29_5 : (xbk [2, 3, 4] σ9 ς29) 2 5 = σ9 2 5 := f29.2 5 (by decide)
        have kq29_7 : (xbk [2, 3, 4] σ9 ς29) 2 7 = σ9 2 7 := f29.2 7 (by decide)
        have kq29_8 : (xbk [2, 3, 4] σ9 ς29) 2 8 = σ9 2 8 := f29.2 8 (by decide)
        replace f29 : Fr [2] [] σ9 (xbk [2, 3, 4] σ9 ς29) := f29.bk (by decide) (by decide)
        replace p29 : r29 = 0 := p29
        generalize xbk [2, 3, 4] σ9 ς29 = σ29 at f29 kq29_2 kq29_4 kq29_5 kq29_7 kq29_8 p29 ⊢
        have hF := hF.tr f29 (by decide) (by decide)
        have hT := hT.fr f29 (by decide) (by decide) (by decide) (by decide)
        refine And.intro rfl ?_
        refine And.intro (by omega) ?_
        exact hQ _ _ hF ⟨hT, (show 0 ≤ σ29 2 4 ∧ σ29 2 4 ≤ σ29 2 2 ∧ σ29 2 2 ≤ 940 from by omega), by omega⟩
    · refine And.intro rfl ?_
      refine And.intro (by omega) ?_
      exact hQ _ _ hF ⟨hT, (show 0 ≤ σ9 2 4 ∧ σ9 2 4 ≤ σ9 2 2 ∧ σ9 2 2 ≤ 940 from by omega), by omega⟩
  · refine And.intro rfl ?_
    refine And.intro (by omega) ?_
    exact hQ _ _ hF ⟨hT, (show 0 ≤ σ2 2 4 ∧ σ2 2 4 ≤ σ2 2 2 ∧ σ2 2 2 ≤ 940 from by omega), by omega⟩
set_option maxHeartbeats 4000000 in
set_option maxRecDepth 100000 in
theorem sX9_readHeap {σ : xS} {Q : Option xV → xS → Prop} (hp0 : TG σ) (hp1 : (0 ≤ σ 2 4 ∧ σ 2 4 ≤ σ 2 2 ∧ σ 2 2 ≤ 940)) (hQ : ∀ r : Int, ∀ σ' : xS, Fr [1, 2, 5, 9] [] σ σ' → (TG σ' ∧ (0 ≤ σ' 2 4 ∧ σ' 2 4 ≤ σ' 2 2 ∧ σ' 2 2 ≤ 940) ∧ (r = 0 ∨ r = 1)) → Q (some (xvi r)) σ') : xT kX9_readHeap [xvr 0, xvr 5] σ Q := by
  refine ⟨Nat.le_of_ble_eq_true rfl, fun X hX => ?_⟩
  show X 0 [xvr 0, xvr 5, xvu, xvu] σ
  have hF : Fr [1, 2, 5, 9] [] σ σ := Fr.rf
  refine hX 400 0 _ _ ?_
  have hT := hp0
  have kz : σ 5 0 = σ 5 0 := rfl
  refine xMVf (sh := shT) (ci := 6) (τ := [2, 3, 4]) (E := xT kX6_advance) (t := 2) (r := []) (σ := σ) rfl rfl (fun Q1 hQ1 => sX6_advance (σ := xsel [2, 3, 4] σ)  (show 0 ≤ (σ 2 4) ∧ (σ 2 4) ≤ (σ 2 2) ∧ (σ 2 2) ≤ 940 from by omega) (fun ς1 f1 p1 => hQ1 _ _ ?_))
  have kq1_2 : (xbk [2, 3, 4] σ ς1) 2 2 = σ 2 2 := f1.2 2 (by decide)
  replace f1 : Fr [2] [] σ (xbk [2, 3, 4] σ ς1) := f1.bk (by decide) (by decide)
  replace p1 : 0 ≤ (xbk [2, 3, 4] σ ς1) 2 4 ∧ (xbk [2, 3, 4] σ ς1) 2 4 ≤ (σ 2 2) := p1
  generalize xbk [2, 3, 4] σ ς1 = σ1 at f1 kq1_2 p1 ⊢
  have hF := hF.tr f1 (by decide) (by decide)
  have hT := hT.fr f1 (by decide) (by decide) (by decide) (by decide)
  try have kz := (congrFun (f1.1 5 (by decide) (by decide)) 0).trans kz
  refine And.intro (Nat.le_of_ble_eq_true rfl) ?_
  show xw _ _ _ _ _ _ _ _ _ _ [xvr 0, xvr 5, xvi 0, xvu] _ _
  have lp_9 : ∀ (m9 : Nat) (i : Int) (u2_3 : xV) (s1 : xS), ((53 - i).toNat) = m9 → (Fr [1, 2, 5, 9] [] σ s1 ∧ TG s1 ∧ (0 ≤ s1 2 4 ∧ s1 2 4 ≤ s1 2 2 ∧ s1 2 2 ≤ 940) ∧ (0 ≤ i ∧ i ≤ 53)) → X 9 [xvr 0, xvr 5, xvi i, u2_3] s1 := by
    intro m9
    induction m9 using Nat.strongRecOn with
    | _ m9 ih_9 =>
    intro i u2_3 s1 hm_9 hv_9
    obtain ⟨hF, hT, hrd, hv_9⟩ := hv_9
    have kz : s1 5 0 = s1 5 0 := rfl
    refine hX 400 9 _ _ ?_
    have lp_32 : ∀ (_ : Unit), (i ≤ 52) → X 32 [xvr 0, xvr 5, xvi i, u2_3] s1 := by
      intro _ hv_32
      refine hX 400 32 _ _ ?_
      have hk0 : 0 ≤ s1 5 0 ∧ s1 5 0 ≤ 13 := hT.1.1.1
      intro v4 e4 l4 h4
      have e4 : v4 = s1 5 0 := e4
      intro z5 t5 e5 l5 h5
      try have w5 : t5 = 0 := by omega
      refine xMVf (sh := shT) (ci := 6) (τ := [2, 3, 4]) (E := xT kX6_isNumber) (t := 2) (r := [xvi 0, xvi z5]) (σ := s1) rfl rfl (fun Q6 hQ6 => sX6_isNumber (σ := xsel [2, 3, 4] s1) (least := 0) (greatest := z5)  (fun r6 ς6 f6 p6 => hQ6 _ _ ?_))
      have kq6_2 : (xbk [2, 3, 4] s1 ς6) 2 2 = s1 2 2 := f6.2 2 (by decide)
      have kq6_4 : (xbk [2, 3, 4] s1 ς6) 2 4 = s1 2 4 := f6.2 4 (by decide)
      have kq6_5 : (xbk [2, 3, 4] s1 ς6) 2 5 = s1 2 5 := f6.2 5 (by decide)
      have kq6_7 : (xbk [2, 3, 4] s1 ς6) 2 7 = s1 2 7 := f6.2 7 (by decide)
      have kq6_8 : (xbk [2, 3, 4] s1 ς6) 2 8 = s1 2 8 := f6.2 8 (by decide)
      replace f6 : Fr [2] [] s1 (xbk [2, 3, 4] s1 ς6) := f6.bk (by decide) (by decide)
      replace p6 : (r6 = 1 ∧ 0 ≤ (s1 2 7) ∧ (s1 2 7) ≤ z5) ∨ (r6 = 0 ∧ (0 : Int) ≤ 0) := p6
      generalize xbk [2, 3, 4] s1 ς6 = σ6 at f6 kq6_2 kq6_4 kq6_5 kq6_7 kq6_8 p6 ⊢
      have hF := hF.tr f6 (by decide) (by decide)
      have hT := hT.fr f6 (by decide) (by decide) (by decide) (by decide)
      try have kz := (congrFun (f6.1 5 (by decide) (by decide)) 0).trans kz
      refine And.intro (fun c7 => ?_) (fun c7 => ?_)
      · intro v8 e8 l8 h8
        have e8 : v8 = σ6 2 7 := e8
        refine And.intro (Nat.le_of_ble_eq_true rfl) ?_
        show xw _ _ _ _ _ _ _ _ _ _ [xvr 0, xvr 5, xvi i, xvi v8] _ _
        have hi4 : σ6 1 v8.toNat ≤ 4 := (hT.2.1 v8.toNat (by omega)).2
        refine And.intro (rfl) (And.intro (⟨by omega, by omega⟩) ?_)
        intro v9 e9 l9 h9
        have e9 : v9 = σ6 1 v8.toNat := e9
        refine And.intro (fun c10 => ?_) (fun c10 => ?_)
        · refine And.intro (rfl) (And.intro (⟨by omega, by omega⟩) ?_)
          intro v11 e11 l11 h11
          have e11 : v11 = σ6 1 v8.toNat := e11
          intro z12 t12 e12 l12 h12
          try have w12 : t12 = 0 := by omega
          refine And.intro (rfl) (And.intro (⟨by omega, by omega⟩) ?_)
          have hF := hF.pt (t := 1) (j := v8.toNat) (v := z12) (by decide) (by decide)
          have h59 : 0 ≤ σ6 5 8 ∧ σ6 5 8 ≤ σ6 5 9 ∧ σ6 5 9 ≤ 52 := hT.1.1.2.2.1
          have hE1 : (xput σ6 1 v8.toNat z12) 1 = up (σ6 1) v8.toNat (σ6 1 v8.toNat + 1) := by
            show xput σ6 1 v8.toNat z12 1 = _
            rw [xput_up, show z12 = σ6 1 v8.toNat + 1 from by omega]
          refine xMVf (sh := shT) (ci := 2) (τ := [5, 6, 7, 8, 9, 10, 11, 12, 13, 14, 15, 16, 17]) (E := xT kX2_addToHeap) (t := 5) (r := [xvi v8]) (σ := (xput σ6 1 v8.toNat z12)) rfl rfl (fun Q14 hQ14 => sX2_addToHeap (σ := xsel [5, 6, 7, 8, 9, 10, 11, 12, 13, 14, 15, 16, 17] (xput σ6 1 v8.toNat z12)) (kind := v8) (show 0 ≤ (σ6 5 9) ∧ (σ6 5 9) ≤ 52 from by omega) (fun ς14 f14 p14 => hQ14 _ _ ?_))
          have kq14_0 : (xbk [5, 6, 7, 8, 9, 10, 11, 12, 13, 14, 15, 16, 17] (xput σ6 1 v8.toNat z12) ς14) 5 0 = σ6 5 0 := f14.2 0 (by decide)
          have kq14_1 : (xbk [5, 6, 7, 8, 9, 10, 11, 12, 13, 14, 15, 16, 17] (xput σ6 1 v8.toNat z12) ς14) 5 1 = σ6 5 1 := f14.2 1 (by decide)
          have kq14_2 : (xbk [5, 6, 7, 8, 9, 10, 11, 12, 13, 14, 15, 16, 17] (xput σ6 1 v8.toNat z12) ς14) 5 2 = σ6 5 2 := f14.2 2 (by decide)
          have kq14_8 : (xbk [5, 6, 7, 8, 9, 10, 11, 12, 13, 14, 15, 16, 17] (xput σ6 1 v8.toNat z12) ς14) 5 8 = σ6 5 8 := f14.2 8 (by decide)
          replace f14 : Fr [5, 9] [] (xput σ6 1 v8.toNat z12) (xbk [5, 6, 7, 8, 9, 10, 11, 12, 13, 14, 15, 16, 17] (xput σ6 1 v8.toNat z12) ς14) := f14.bk (by decide) (by decide)
          replace p14 : ((σ6 5 9) < 52 ∧ (xbk [5, 6, 7, 8, 9, 10, 11, 12, 13, 14, 15, 16, 17] (xput σ6 1 v8.toNat z12) ς14) 5 9 = (σ6 5 9) + 1 ∧ (xbk [5, 6, 7, 8, 9, 10, 11, 12, 13, 14, 15, 16, 17] (xput σ6 1 v8.toNat z12) ς14) 9 = up ((xput σ6 1 v8.toNat z12) 9) ((σ6 5 9)).toNat v8) ∨ ((σ6 5 9) = 52 ∧ (xbk [5, 6, 7, 8, 9, 10, 11, 12, 13, 14, 15, 16, 17] (xput σ6 1 v8.toNat z12) ς14) 5 9 = 52 ∧ (xbk [5, 6, 7, 8, 9, 10, 11, 12, 13, 14, 15, 16, 17] (xput σ6 1 v8.toNat z12) ς14) 9 = (xput σ6 1 v8.toNat z12) 9) := p14
          generalize xbk [5, 6, 7, 8, 9, 10, 11, 12, 13, 14, 15, 16, 17] (xput σ6 1 v8.toNat z12) ς14 = σ14 at f14 kq14_0 kq14_1 kq14_2 kq14_8 p14 ⊢
          have hF := hF.tr f14 (by decide) (by decide)
          have hT := hT.heap (kind := v8) (by omega) (by omega) ((f14.1 1 (by decide) (by decide)).trans hE1) (f14.1 7 (by decide) (by decide)) p14 kq14_0 kq14_1 kq14_2 kq14_8 (by omega)
          have kz := kq14_0.trans kz
          clear p14 hE1
          have kr4_14 : σ14 2 4 = σ6 2 4 := congrFun (f14.1 2 (by decide) (by decide)) 4
          have kr2_14 : σ14 2 2 = σ6 2 2 := congrFun (f14.1 2 (by decide) (by decide)) 2
          refine xMVf (sh := shT) (ci := 6) (τ := [2, 3, 4]) (E := xT kX6_advance) (t := 2) (r := []) (σ := σ14) rfl rfl (fun Q15 hQ15 => sX6_advance (σ := xsel [2, 3, 4] σ14)  (show 0 ≤ (σ14 2 4) ∧ (σ14 2 4) ≤ (σ14 2 2) ∧ (σ14 2 2) ≤ 940 from by omega) (fun ς15 f15 p15 => hQ15 _ _ ?_))
          have kq15_2 : (xbk [2, 3, 4] σ14 ς15) 2 2 = σ14 2 2 := f15.2 2 (by decide)
          replace f15 : Fr [2] [] σ14 (xbk [2, 3, 4] σ14 ς15) := f15.bk (by decide) (by decide)
          replace p15 : 0 ≤ (xbk [2, 3, 4] σ14 ς15) 2 4 ∧ (xbk [2, 3, 4] σ14 ς15) 2 4 ≤ (σ14 2 2) := p15
          generalize xbk [2, 3, 4] σ14 ς15 = σ15 at f15 kq15_2 p15 ⊢
          have hF := hF.tr f15 (by decide) (by decide)
          have hT := hT.fr f15 (by decide) (by decide) (by decide) (by decide)
          try have kz := (congrFun (f15.1 5 (by decide) (by decide)) 0).trans kz
          intro z16 t16 e16 l16 h16
          try have w16 : t16 = 0 := by omega
          show xw _ _ _ _ _ _ _ _ _ _ [xvr 0, xvr 5, xvi z16, xvi v8] _ _
          exact ih_9 _ (show (53 - z16).toNat < m9 from by omega) z16 (xvi v8) σ15 rfl ⟨hF, hT, (show 0 ≤ σ15 2 4 ∧ σ15 2 4 ≤ σ15 2 2 ∧ σ15 2 2 ≤ 940 from by omega), by omega⟩
        · refine xMVf (sh := shT) (ci := 6) (τ := [2, 3, 4]) (E := xT kX6_fail) (t := 2) (r := [xvi 5]) (σ := σ6) rfl rfl (fun Q17 hQ17 => sX6_fail (σ := xsel [2, 3, 4] σ6) (kind := 5)  (fun r17 ς17 f17 p17 => hQ17 _ _ ?_))
          have kq17_2 : (xbk [2, 3, 4] σ6 ς17) 2 2 = σ6 2 2 := f17.2 2 (by decide)
          have kq17_4 : (xbk [2, 3, 4] σ6 ς17) 2 4 = σ6 2 4 := f17.2 4 (by decide)
          have kq17_5 : (xbk [2, 3, 4] σ6 ς17) 2 5 = σ6 2 5 := f17.2 5 (by decide)
          have kq17_7 : (xbk [2, 3, 4] σ6 ς17) 2 7 = σ6 2 7 := f17.2 7 (by decide)
          have kq17_8 : (xbk [2, 3, 4] σ6 ς17) 2 8 = σ6 2 8 := f17.2 8 (by decide)
          replace f17 : Fr [2] [] σ6 (xbk [2, 3, 4] σ6 ς17) := f17.bk (by decide) (by decide)
          replace p17 : r17 = 0 := p17
          generalize xbk [2, 3, 4] σ6 ς17 = σ17 at f17 kq17_2 kq17_4 kq17_5 kq17_7 kq17_8 p17 ⊢
          have hF := hF.tr f17 (by decide) (by decide)
          have hT := hT.fr f17 (by decide) (by decide) (by decide) (by decide)
          try have kz := (congrFun (f17.1 5 (by decide) (by decide)) 0).trans kz
          refine And.intro rfl ?_
          refine And.intro (by omega) ?_
          exact hQ _ _ hF ⟨hT, (show 0 ≤ σ17 2 4 ∧ σ17 2 4 ≤ σ17 2 2 ∧ σ17 2 2 ≤ 940 from by omega), by omega⟩
      · refine And.intro rfl ?_
        refine And.intro (by omega) ?_
        exact hQ _ _ hF ⟨hT, (show 0 ≤ σ6 2 4 ∧ σ6 2 4 ≤ σ6 2 2 ∧ σ6 2 2 ≤ 940 from by omega), by omega⟩
    have lp_106 : ∀ (_ : Unit), (True) → X 106 [xvr 0, xvr 5, xvi i, u2_3] s1 := by
      intro _ hv_106
      refine hX 400 106 _ _ ?_
      refine And.intro rfl ?_
      refine And.intro (by omega) ?_
      exact hQ _ _ hF ⟨hT, (show 0 ≤ s1 2 4 ∧ s1 2 4 ≤ s1 2 2 ∧ s1 2 2 ≤ 940 from by omega), by omega⟩
    refine And.intro (fun c19 => ?_) (fun c19 => ?_)
    · exact lp_106 () (show True from by first | trivial | omega | (refine ⟨by assumption, ?_⟩; omega) | (refine ⟨?_, ?_⟩ <;> omega))
    · refine And.intro (fun c20 => ?_) (fun c20 => ?_)
      · exact lp_32 () (show i ≤ 52 from by first | trivial | omega | (refine ⟨by assumption, ?_⟩; omega) | (refine ⟨?_, ?_⟩ <;> omega))
      · refine xMVp (sh := shT) (ci := 6) (τ := [2, 3, 4]) (E := xT kX6_isAt) (t := 2) (r := [xvi 301]) (σ := s1) rfl rfl xbk_sel (fun Q21 hQ21 => sX6_isAt (σ := xsel [2, 3, 4] s1) (wanted := 301)  (fun r21 p21 => hQ21 _ ?_))
        have p21 : (r21 = 1 ∧ (s1 2 5) = 301) ∨ (r21 = 0 ∧ ¬ (s1 2 5) = 301) := p21
        refine And.intro (fun c22 => ?_) (fun c22 => ?_)
        · replace p21 : ¬ (s1 2 5) = 301 := by
            rcases p21 with q | q
            · exact absurd q.1 (by omega)
            · exact q.2
          exact lp_106 () (show True from by first | trivial | omega | (refine ⟨by assumption, ?_⟩; omega) | (refine ⟨?_, ?_⟩ <;> omega))
        · replace p21 : (s1 2 5) = 301 := by
            rcases p21 with q | q
            · exact q.2
            · exact absurd q.1 (by omega)
          exact lp_32 () (show i ≤ 52 from by first | trivial | omega | (refine ⟨by assumption, ?_⟩; omega) | (refine ⟨?_, ?_⟩ <;> omega))
  exact lp_9 _ 0 (xvu) σ1 rfl ⟨hF, hT, (show 0 ≤ σ1 2 4 ∧ σ1 2 4 ≤ σ1 2 2 ∧ σ1 2 2 ≤ 940 from by omega), by omega⟩
set_option maxHeartbeats 4000000 in
set_option maxRecDepth 100000 in
theorem sX9_readLine {σ : xS} {Q : Option xV → xS → Prop} (hp0 : TG σ) (hp1 : (0 ≤ σ 2 4 ∧ σ 2 4 ≤ σ 2 2 ∧ σ 2 2 ≤ 940)) (hQ : ∀ r : Int, ∀ σ' : xS, Fr [1, 2, 5, 6, 7, 8, 9] [2] σ σ' → (TG σ' ∧ (0 ≤ σ' 2 4 ∧ σ' 2 4 ≤ σ' 2 2 ∧ σ' 2 2 ≤ 940) ∧ (r = 0 ∨ r = 1)) → Q (some (xvi r)) σ') : xT kX9_readLine [xvr 0, xvr 5] σ Q := by
  refine ⟨Nat.le_of_ble_eq_true rfl, fun X hX => ?_⟩
  show X 0 [xvr 0, xvr 5] σ
  have hF : Fr [1, 2, 5, 6, 7, 8, 9] [2] σ σ := Fr.rf
  refine hX 400 0 _ _ ?_
  have hT := hp0
  intro v1 e1 l1 h1
  have e1 : v1 = σ 2 5 := e1
  refine And.intro (fun c2 => ?_) (And.intro rfl ?_)
  · refine xMVf (sh := shT) (ci := 6) (τ := [2, 3, 4]) (E := xT kX6_fail) (t := 2) (r := [xvi 1]) (σ := σ) rfl rfl (fun Q3 hQ3 => sX6_fail (σ := xsel [2, 3, 4] σ) (kind := 1)  (fun r3 ς3 f3 p3 => hQ3 _ _ ?_))
    have kq3_2 : (xbk [2, 3, 4] σ ς3) 2 2 = σ 2 2 := f3.2 2 (by decide)
    have kq3_4 : (xbk [2, 3, 4] σ ς3) 2 4 = σ 2 4 := f3.2 4 (by decide)
    have kq3_5 : (xbk [2, 3, 4] σ ς3) 2 5 = σ 2 5 := f3.2 5 (by decide)
    have kq3_7 : (xbk [2, 3, 4] σ ς3) 2 7 = σ 2 7 := f3.2 7 (by decide)
    have kq3_8 : (xbk [2, 3, 4] σ ς3) 2 8 = σ 2 8 := f3.2 8 (by decide)
    replace f3 : Fr [2] [] σ (xbk [2, 3, 4] σ ς3) := f3.bk (by decide) (by decide)
    replace p3 : r3 = 0 := p3
    generalize xbk [2, 3, 4] σ ς3 = σ3 at f3 kq3_2 kq3_4 kq3_5 kq3_7 kq3_8 p3 ⊢
    have hF := hF.tr f3 (by decide) (by decide)
    have hT := hT.fr f3 (by decide) (by decide) (by decide) (by decide)
    refine And.intro rfl ?_
    refine And.intro (by omega) ?_
    exact hQ _ _ hF ⟨hT, (show 0 ≤ σ3 2 4 ∧ σ3 2 4 ≤ σ3 2 2 ∧ σ3 2 2 ≤ 940 from by omega), by omega⟩
  refine And.intro (fun c2 => ?_) ?_
  · refine sX9_readKinds (σ := σ)  (show TG σ from hT) (show (0 ≤ (σ 2 4) ∧ (σ 2 4) ≤ (σ 2 2) ∧ (σ 2 2) ≤ 940) from by omega) (fun r4 σ4 f4 p4 => ?_)
    have hF := hF.tr f4 (by decide) (by decide)
    have p4 : TG σ4 ∧ (0 ≤ σ4 2 4 ∧ σ4 2 4 ≤ σ4 2 2 ∧ σ4 2 2 ≤ 940) ∧ (r4 = 0 ∨ r4 = 1) := p4
    refine And.intro rfl ?_
    refine And.intro (by omega) ?_
    exact hQ _ _ hF p4
  refine And.intro (fun c2 => ?_) ?_
  · refine sX9_readPerson (σ := σ)  (show TG σ from hT) (show (0 ≤ (σ 2 4) ∧ (σ 2 4) ≤ (σ 2 2) ∧ (σ 2 2) ≤ 940) from by omega) (fun r5 σ5 f5 p5 => ?_)
    have hF := hF.tr f5 (by decide) (by decide)
    have p5 : TG σ5 ∧ (0 ≤ σ5 2 4 ∧ σ5 2 4 ≤ σ5 2 2 ∧ σ5 2 2 ≤ 940) ∧ (r5 = 0 ∨ r5 = 1) := p5
    refine And.intro rfl ?_
    refine And.intro (by omega) ?_
    exact hQ _ _ hF p5
  refine And.intro (fun c2 => ?_) ?_
  · refine sX9_readHand (σ := σ)  (show TG σ from hT) (show (0 ≤ (σ 2 4) ∧ (σ 2 4) ≤ (σ 2 2) ∧ (σ 2 2) ≤ 940) from by omega) (fun r6 σ6 f6 p6 => ?_)
    have hF := hF.tr f6 (by decide) (by decide)
    have p6 : TG σ6 ∧ (0 ≤ σ6 2 4 ∧ σ6 2 4 ≤ σ6 2 2 ∧ σ6 2 2 ≤ 940) ∧ (r6 = 0 ∨ r6 = 1) := p6
    refine And.intro rfl ?_
    refine And.intro (by omega) ?_
    exact hQ _ _ hF p6
  refine And.intro (fun c2 => ?_) ?_
  · refine sX9_readHeap (σ := σ)  (show TG σ from hT) (show (0 ≤ (σ 2 4) ∧ (σ 2 4) ≤ (σ 2 2) ∧ (σ 2 2) ≤ 940) from by omega) (fun r7 σ7 f7 p7 => ?_)
    have hF := hF.tr f7 (by decide) (by decide)
    have p7 : TG σ7 ∧ (0 ≤ σ7 2 4 ∧ σ7 2 4 ≤ σ7 2 2 ∧ σ7 2 2 ≤ 940) ∧ (r7 = 0 ∨ r7 = 1) := p7
    refine And.intro rfl ?_
    refine And.intro (by omega) ?_
    exact hQ _ _ hF p7
  refine And.intro (fun c2 => ?_) ?_
  · refine sX9_readAgain (σ := σ)  (show TG σ from hT) (show (0 ≤ (σ 2 4) ∧ (σ 2 4) ≤ (σ 2 2) ∧ (σ 2 2) ≤ 940) from by omega) (fun r8 σ8 f8 p8 => ?_)
    have hF := hF.tr f8 (by decide) (by decide)
    have p8 : TG σ8 ∧ (0 ≤ σ8 2 4 ∧ σ8 2 4 ≤ σ8 2 2 ∧ σ8 2 2 ≤ 940) ∧ (r8 = 0 ∨ r8 = 1) := p8
    refine And.intro rfl ?_
    refine And.intro (by omega) ?_
    exact hQ _ _ hF p8
  refine And.intro (fun c2 => ?_) ?_
  · refine sX9_readRefill (σ := σ)  (show TG σ from hT) (show (0 ≤ (σ 2 4) ∧ (σ 2 4) ≤ (σ 2 2) ∧ (σ 2 2) ≤ 940) from by omega) (fun r9 σ9 f9 p9 => ?_)
    have hF := hF.tr f9 (by decide) (by decide)
    have p9 : TG σ9 ∧ (0 ≤ σ9 2 4 ∧ σ9 2 4 ≤ σ9 2 2 ∧ σ9 2 2 ≤ 940) ∧ (r9 = 0 ∨ r9 = 1) := p9
    refine And.intro rfl ?_
    refine And.intro (by omega) ?_
    exact hQ _ _ hF p9
  exact trivial
