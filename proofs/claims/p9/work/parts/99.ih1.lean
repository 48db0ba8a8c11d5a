set_option maxHeartbeats 4000000 in
set_option maxRecDepth 100000 in
theorem s_replyF {σ : xS} {j n fr : Int} {Q : Option xV → xS → Prop} (hp0 : RI σ) (hp1 : TV (σ 2)) (hQ : ∀ r : Int, ∀ σ' : xS, Fr [2, 7, 9, 20, 21] [0, 24, 49, 51] σ σ' → ((GMc (σ 2) 0 j n ∧ REPx (σ 2) j n fr r ∧ SAMEx σ σ') ∨ (¬ GMc (σ 2) 0 j n ∧ r = -1 ∧ SAMEx σ σ')) → Q (some (xvi r)) σ') : xT kX11_reply [xvr 0, xvi j, xvi n, xvi fr] σ Q := by
  refine ⟨Nat.le_of_ble_eq_true rfl, fun X hX => ?_⟩
  show X 0 [xvr 0, xvi j, xvi n, xvi fr, xvu, xvu, xvu, xvu] σ
  have hF : Fr [2, 7, 9, 20, 21] [0, 24, 49, 51] σ σ := Fr.rf
  refine hX 400 0 _ _ ?_
  have hF := hF.p (j := 0) (v := 0) (by decide)
  have hI := (RK.rf hp0 |>.p0 (j := 0) (v := 0) (by decide) (by decide) (by decide)).1
  obtain ⟨hVx, hT2, hT6, hT4⟩ := id hp1
  have m0 := hVx.1.1.1
  have m1 := hVx.1.1.2.1
  have m3 := hVx.1.1.2.2.1
  have h27 := hp0.2.2.2.1
  refine s_areGamesF (σ := (xput σ 0 0 0)) (i := 0) (j := j) (n := n) (by show (0 ≤ σ 2 0 ∧ σ 2 0 ≤ 13) ∧ 0 ≤ σ 2 1 ∧ σ 2 1 ≤ 6; omega) (fun r2 p2 => ?_)
  have p2 : (r2 = 1 ∧ GMc (σ 2) 0 j n) ∨ (r2 = 0 ∧ ¬ GMc (σ 2) 0 j n) := p2
  refine And.intro (fun c3 => ?_) (fun c3 => ?_)
  · have hG0 : GMc (σ 2) 0 j n := by
      rcases p2 with z | z
      · exact z.2
      · omega
    obtain ⟨hA1, hA2, hA3, hA4, hA5⟩ := id hG0
    refine And.intro (Nat.le_of_ble_eq_true rfl) ?_
    show xw _ _ _ _ _ _ _ _ _ _ [xvr 0, xvi j, xvi n, xvi fr, xvi (-1), xvu, xvu, xvu] _ _
    refine And.intro (Nat.le_of_ble_eq_true rfl) ?_
    show xw _ _ _ _ _ _ _ _ _ _ [xvr 0, xvi j, xvi n, xvi fr, xvi (-1), xvi (-1), xvu, xvu] _ _
    refine And.intro (Nat.le_of_ble_eq_true rfl) ?_
    show xw _ _ _ _ _ _ _ _ _ _ [xvr 0, xvi j, xvi n, xvi fr, xvi (-1), xvi (-1), xvi 0, xvu] _ _
    have lp_26 : ∀ (m26 : Nat) (b : Int) (m : Int) (i : Int) (u4_7 : xV) (s1 : xS), ((4 - i).toNat) = m26 → (Fr [2, 7, 9, 20, 21] [0, 24, 49, 51] σ s1 ∧ s1 2 = σ 2 ∧ (s1 7 = σ 7 ∧ s1 8 = σ 8 ∧ s1 0 24 = σ 0 24 ∧ s1 0 27 = σ 0 27) ∧ (0 ≤ i ∧ i ≤ 4) ∧ ((b = -1 ∧ m = -1 ∧ i = 0) ∨ ((0 ≤ b ∧ b < i) ∧ m = gmW (σ 2) b j fr n.toNat ∧ (∀ q : Nat, (q : Int) < i → gmW (σ 2) q j fr n.toNat ≤ m) ∧ ∀ q : Nat, (q : Int) < b → gmW (σ 2) q j fr n.toNat < m))) → X 26 [xvr 0, xvi j, xvi n, xvi fr, xvi b, xvi m, xvi i, u4_7] s1 := by
      intro m26
      induction m26 using Nat.strongRecOn with
      | _ m26 ih_26 =>
      intro b m i u4_7 s1 hm_26 hv_26
      obtain ⟨hF, hE, hW, hi, hB⟩ := hv_26
      replace hB : OPQ _ := hB
      refine hX 400 26 _ _ ?_
      refine And.intro (fun c5 => ?_) (fun c5 => ?_)
      · refine And.intro rfl ?_
        exact hQ _ _ hF (Or.inl ⟨hG0, (by
          rcases hB with ⟨x, y, w⟩ | ⟨x, y, w, u⟩
          · omega
          · exact ⟨by omega, fun q hq => by rw [← y]; exact w q (by omega), fun q hq => by rw [← y]; exact u q hq⟩), hE, hW.1, hW.2.1, hW.2.2.1, hW.2.2.2⟩)
      · refine s_gamesOfF (σ := s1) (i := i) (j := j) (n := n) (fr := fr) (by rw [hE]; omega) (by rw [hE]; omega) (by rw [hE]; omega) (by omega) (by rw [hE]; exact hT2) (by rw [hE]; omega) (fun r6 σ6 f6 p6 => ?_)
        have hF := hF.tr f6 (by decide) (by decide)
        rw [hE] at p6
        have hE3 : σ6 2 = σ 2 := p6.1
        have hr3 : r6 = gmW (σ 2) i.toNat j fr n.toNat := by rw [p6.2.1, show ((i.toNat : Nat) : Int) = i from by omega]
        have hW3 : σ6 7 = σ 7 ∧ σ6 8 = σ 8 ∧ σ6 0 24 = σ 0 24 ∧ σ6 0 27 = σ 0 27 := ⟨p6.2.2.2.1.trans hW.1, (f6.1 8 (by decide) (by decide)).trans hW.2.1, p6.2.2.2.2.trans hW.2.2.1, (f6.2 27 (by decide)).trans hW.2.2.2⟩
        refine And.intro (Nat.le_of_ble_eq_true rfl) ?_
        show xw _ _ _ _ _ _ _ _ _ _ [xvr 0, xvi j, xvi n, xvi fr, xvi b, xvi m, xvi i, xvi r6] _ _
        have hi : 0 ≤ i ∧ i < 4 := by omega
        have lp_61 : ∀ (b2 : Int) (m2 : Int) (s2 : xS), (Fr [2, 7, 9, 20, 21] [0, 24, 49, 51] σ s2 ∧ s2 2 = σ 2 ∧ (s2 7 = σ 7 ∧ s2 8 = σ 8 ∧ s2 0 24 = σ 0 24 ∧ s2 0 27 = σ 0 27) ∧ (0 ≤ i ∧ i < 4) ∧ ((b2 = -1 ∧ m2 = -1 ∧ (i + 1) = 0) ∨ ((0 ≤ b2 ∧ b2 < (i + 1)) ∧ m2 = gmW (σ 2) b2 j fr n.toNat ∧ (∀ q : Nat, (q : Int) < (i + 1) → gmW (σ 2) q j fr n.toNat ≤ m2) ∧ ∀ q : Nat, (q : Int) < b2 → gmW (σ 2) q j fr n.toNat < m2))) → X 61 [xvr 0, xvi j, xvi n, xvi fr, xvi b2, xvi m2, xvi i, xvi r6] s2 := by
          intro b2 m2 s2 hv_61
          refine hX 400 61 _ _ ?_
          intro z8 t8 e8 l8 h8
          try have w8 : t8 = 0 := by omega
          show xw _ _ _ _ _ _ _ _ _ _ [xvr 0, xvi j, xvi n, xvi fr, xvi b2, xvi m2, xvi z8, xvi r6] _ _
          exact ih_26 _ (show (4 - z8).toNat < m26 from by omega) b2 m2 z8 (xvi r6) s2 rfl ⟨hv_61.1, hv_61.2.1, hv_61.2.2.1, by omega, by rw [show z8 = i + 1 from by omega]; exact hv_61.2.2.2.2⟩
        refine And.intro (fun c9 => ?_) (fun c9 => ?_)
        · refine And.intro (Nat.le_of_ble_eq_true rfl) ?_
          show xw _ _ _ _ _ _ _ _ _ _ [xvr 0, xvi j, xvi n, xvi fr, xvi b, xvi r6, xvi i, xvi r6] _ _
          refine And.intro (Nat.le_of_ble_eq_true rfl) ?_
          show xw _ _ _ _ _ _ _ _ _ _ [xvr 0, xvi j, xvi n, xvi fr, xvi i, xvi r6, xvi i, xvi r6] _ _
          exact lp_61 i r6 σ6 ⟨hF, hE3, hW3, hi, Or.inr ⟨by omega, (by rw [hr3, show ((i.toNat : Nat) : Int) = i from by omega]), fun q hq => by
                        by_cases e : (q : Int) = i
                        · rw [show (q : Nat) = i.toNat from by omega, hr3]; exact Int.le_refl _
                        · rcases hB with ⟨x, y, w⟩ | ⟨x, y, w, _⟩
                          · omega
                          · have := w q (by omega); omega, fun q hq => by
                        rcases hB with ⟨x, y, w⟩ | ⟨x, y, w, _⟩
                        · omega
                        · have := w q (by omega); omega⟩⟩
        · exact lp_61 b m σ6 ⟨hF, hE3, hW3, hi, Or.inr (by
                        rcases hB with ⟨x, y, w⟩ | ⟨x, y, w, v⟩
                        · have z := gmW_nn (f := σ 2) (i := (i.toNat : Int)) (j := j) (fr := fr) n.toNat
                          rw [← hr3] at z
                          omega
                        · refine ⟨by omega, y, fun q hq => ?_, v⟩
                          by_cases e : (q : Int) = i
                          · rw [show (q : Nat) = i.toNat from by omega, ← hr3]; omega
                          · exact w q (by omega))⟩
    exact lp_26 _ (-1) (-1) 0 (xvu) (xput σ 0 0 0) rfl ⟨hF, rfl, ⟨rfl, rfl, rfl, rfl⟩, by omega, Or.inl ⟨rfl, rfl, rfl⟩⟩
  · refine And.intro rfl ?_
    exact hQ _ _ hF (Or.inr ⟨by
      rcases p2 with z | z
      · omega
      · exact z.2, rfl, ⟨rfl, rfl, rfl, rfl, rfl⟩⟩)
set_option maxHeartbeats 4000000 in
set_option maxRecDepth 100000 in
theorem s_octetF {σ : xS} {k : Int} {Q : Option xV → xS → Prop} (hp0 : 0 ≤ k ∧ k < 940) (hp1 : -128 ≤ σ 1 k.toNat ∧ σ 1 k.toNat < 128) (hQ : ∀ r : Int, (0 ≤ r ∧ r ≤ 255 ∧ (r ≤ 3 ↔ (0 ≤ σ 1 k.toNat ∧ σ 1 k.toNat ≤ 3)) ∧ (r ≤ 3 → r = σ 1 k.toNat)) → Q (some (xvi r)) σ) : xT kX11_octet [xvr 0, xvi k] σ Q := by
  refine ⟨Nat.le_of_ble_eq_true rfl, fun X hX => ?_⟩
  show X 0 [xvr 0, xvi k] σ
  refine hX 400 0 _ _ ?_
  refine And.intro (Or.inl rfl) (And.intro (⟨by omega, by omega⟩) ?_)
  intro v1 e1 l1 h1
  have e1 : v1 = σ 1 k.toNat := e1
  -- and
  intro z2 e2 l2 h2
  have q2 := x255b v1; rw [← e2] at q2
  refine And.intro rfl ?_
  have hu := xub (x := v1) (by omega) e2
  exact hQ _ (by rw [← e1]; exact hu)
