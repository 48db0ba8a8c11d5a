theorem mvX10_tableF (l : Launch) (D : va_G) (yv : Nat → ClassId) : vMt l D yv yX10_table cX10_table 2 (some .int) 7 (fun _ => 0) (fun _ => 0) pubT := by
  refine (vOf2 (mX10_tableF l D yv) subB0 subB1 (by decide) (by decide)).mono (fun w as σ Q h => ?_)
  obtain ⟨hJ, rfl, hw9, hQ⟩ := h
  refine ⟨by rfl, ?_⟩
  exact TABFE_i (σ := xsel tB σ) (by exact hJ.1.1) (by exact hJ.g) (by exact hJ.1.2.2.1) (by exact ⟨hJ.p.2.1, hJ.p.1⟩) (by exact hw9) (fun r ς f h hB => hQ r w _ (JW.fr hJ (fun t h1 _ => xbk_hi (by omega)) (by show 0 ≤ ς 0 1 ∧ ς 0 1 ≤ 940; have h8 : ς 0 1 = 0 := h.2.1; omega) (by exact h.1) (by exact h.2.2.1) (by rw [(f.bk0 (τ := tB) (ts2 := tB) (js2 := [1, 2]) (by decide) (by decide) (by decide)).2 17 (by decide)]; exact hJ.1.2.2.2.1) (by exact ⟨h.2.2.2.2, h.2.2.2.1⟩)) ⟨h.2.1, rfl, kw_fr (f.bk0 (τ := tB) (ts2 := [30, 32, 33, 2, 3, 4, 5, 6, 7, 8, 9, 10, 11, 12, 13, 14, 15, 16, 17, 18, 19, 20, 21, 22, 23, 24, 25, 26, 27, 28, 39]) (js2 := [1, 2]) (by decide) (by decide) (by decide))⟩ hB)

