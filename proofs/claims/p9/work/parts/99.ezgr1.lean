set_option maxHeartbeats 4000000 in
set_option maxRecDepth 100000 in
theorem s_feedF {σ : xS} {a b c d e : Int} {Q : Option xV → xS → Prop} (hp0 : 0 ≤ σ 0 2 ∧ σ 0 2 ≤ 940) (hQ : ∀ r : Int, ∀ σ' : xS, Fr [1] [0, 2] σ σ' → ((σ 0 2 ≤ 920 ∧ r = σ 0 2 + 20 ∧ σ' 0 2 = σ 0 2 + 20 ∧ σ' 1 = fd (σ 1) (σ 0 2) a b c d e) ∨ (920 < σ 0 2 ∧ r = -1 ∧ σ' 0 2 = σ 0 2 ∧ σ' 1 = σ 1)) → Q (some (xvi r)) σ') : xT kX11_feed [xvr 0, xvi a, xvi b, xvi c, xvi d, xvi e] σ Q := by
  refine ⟨Nat.le_of_ble_eq_true rfl, fun X hX => ?_⟩
  show X 0 [xvr 0, xvi a, xvi b, xvi c, xvi d, xvi e] σ
  have hF : Fr [1] [0, 2] σ σ := Fr.rf
  refine hX 400 0 _ _ ?_
  have hF := hF.p (j := 0) (v := 0) (by decide)
  intro v2 e2 l2 h2
  have e2 : v2 = σ 0 2 := e2
  intro z3 t3 e3 l3 h3
  try have w3 : t3 = 0 := by omega
  refine And.intro (fun c4 => ?_) (fun c4 => ?_)
  · refine s_fourF (σ := (xput σ 0 0 0)) (v := a) (show 0 ≤ σ 0 2 ∧ σ 0 2 ≤ 936 from by omega) (fun σ5 f5 p5 => ?_)
    have p5 : σ5 0 2 = σ 0 2 + 4 ∧ σ5 1 = pf (σ 1) (σ 0 2) a 4 := p5
    have hF := hF.tr f5 (by decide) (by decide)
    refine s_fourF (σ := σ5) (v := b) (show 0 ≤ σ5 0 2 ∧ σ5 0 2 ≤ 936 from by omega) (fun σ6 f6 p6 => ?_)
    have p6 : σ6 0 2 = σ5 0 2 + 4 ∧ σ6 1 = pf (σ5 1) (σ5 0 2) b 4 := p6
    have hF := hF.tr f6 (by decide) (by decide)
    refine s_fourF (σ := σ6) (v := c) (show 0 ≤ σ6 0 2 ∧ σ6 0 2 ≤ 936 from by omega) (fun σ7 f7 p7 => ?_)
    have p7 : σ7 0 2 = σ6 0 2 + 4 ∧ σ7 1 = pf (σ6 1) (σ6 0 2) c 4 := p7
    have hF := hF.tr f7 (by decide) (by decide)
    refine s_fourF (σ := σ7) (v := d) (show 0 ≤ σ7 0 2 ∧ σ7 0 2 ≤ 936 from by omega) (fun σ8 f8 p8 => ?_)
    have p8 : σ8 0 2 = σ7 0 2 + 4 ∧ σ8 1 = pf (σ7 1) (σ7 0 2) d 4 := p8
    have hF := hF.tr f8 (by decide) (by decide)
    refine s_fourF (σ := σ8) (v := e) (show 0 ≤ σ8 0 2 ∧ σ8 0 2 ≤ 936 from by omega) (fun σ9 f9 p9 => ?_)
    have p9 : σ9 0 2 = σ8 0 2 + 4 ∧ σ9 1 = pf (σ8 1) (σ8 0 2) e 4 := p9
    have hF := hF.tr f9 (by decide) (by decide)
    intro v10 e10 l10 h10
    have e10 : v10 = σ9 0 2 := e10
    refine And.intro rfl ?_
    exact hQ _ _ hF (Or.inl ⟨by omega, by omega, by omega, by
          rw [p9.2, p8.2, p7.2, p6.2, p5.2, show σ5 0 2 = σ 0 2 + 4 from by omega, show σ6 0 2 = σ 0 2 + 8 from by omega, show σ7 0 2 = σ 0 2 + 12 from by omega, show σ8 0 2 = σ 0 2 + 16 from by omega]; rfl⟩)
  · refine And.intro rfl ?_
    exact hQ _ _ hF (Or.inr ⟨by omega, rfl, rfl, rfl⟩)
/-- feed, with the bytes that come -/
def RfF (a b c d e : Int) (σ : xS) (w : Nat → Bool) (r : Option xV) (w' : Nat → Bool) (σ' : xS) : Prop := (∃ z : Int, r = some (xvi z) ∧ ((940 < σ 0 1 + 20 ∧ z = -1 ∧ σ' 0 1 = σ 0 1 ∧ σ' 1 = σ 1) ∨ (σ 0 1 + 20 ≤ 940 ∧ z = σ 0 1 + 20 ∧ σ' 0 1 = σ 0 1 + 20 ∧ σ' 1 = fd (σ 1) (σ 0 1) a b c d e))) ∧ w' 9 = w 9 ∧ w' 10 = w 10 ∧ (w 13 = true → w' 13 = true) ∧ σ' 31 = σ 31
def feedE : vE := fun w as σ Q => ∃ a b c d e : Int, as = [xvr 0, xvi a, xvi b, xvi c, xvi d, xvi e] ∧ JW w σ ∧ ∀ r w' σ', JW w' σ' → RfF a b c d e σ w r w' σ' → Q r w' σ'
theorem mvX10_feedF (l : Launch) (D : va_G) (yv : Nat → ClassId) : vMt l D yv yX10_feed cX10_feed 6 (some .int) 1 (fun _ => 0) (fun _ => 0) feedE := by
  refine (vOf1 (mX10_feed l D yv) subB0 (by decide)).mono (fun w as σ Q h => ?_)
  obtain ⟨x1, x2, x3, x4, x5, rfl, hJ, hQ⟩ := h
  refine ⟨by rfl, ?_⟩
  refine sX10_feedF (σ := xsel tB σ) (by exact hJ.1.1) (fun r ς f h => ?_)
  have f2 := f.bk0 (τ := tB) (ts2 := [1]) (js2 := [1]) (by decide) (by decide) (by decide)
  refine hQ _ w _ (hJ.sm (ts := [1]) (js := [1]) f2 (by decide) (by have h9 := hJ.1.1; have h8 : (940 < σ 0 1 + 20 ∧ ς 0 1 = σ 0 1) ∨ (σ 0 1 + 20 ≤ 940 ∧ ς 0 1 = σ 0 1 + 20) := h.elim (fun h => Or.inl ⟨h.1, h.2.2.1⟩) (fun h => Or.inr ⟨h.1, h.2.2.1⟩); show 0 ≤ ς 0 1 ∧ ς 0 1 ≤ 940; omega) (by rw [f2.2 17 (by decide)]; exact hJ.1.2.2.2.1)) ⟨⟨r, rfl, h⟩, rfl, rfl, fun h => h, f2.1 31 (by decide) (by decide)⟩

