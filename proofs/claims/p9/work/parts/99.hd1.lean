/-- reveal against learns -/
theorem GR.learn {σ σ' : xS} {f : Nat → Int} {p kind : Int} (H : GR σ f) (hp : 0 ≤ p ∧ p ≤ 5) (hk : 0 ≤ kind ∧ kind ≤ 12) (hF : Fr [9, 10, 11, 12] [] σ σ') (hR : RVX σ σ' p kind) : GR σ' (learnF f p.toNat kind) := by
  have h52 := H.w
  obtain ⟨hM, hC, ⟨hH, h7⟩, ⟨hO, hn52⟩, hX⟩ := H
  have hX' : HX σ' := hX.of (hF.2 9 (by simp)) (hF.1 4 (by decide) (by decide))
  have hp6 : p.toNat < 6 := by omega
  have pz : ((p.toNat : Nat) : Int) = p := by omega
  have h5p := h52 p.toNat hp6
  have ix : (13 * p + kind).toNat = 13 * p.toNat + kind.toNat := by omega
  have obf : ∀ i : Nat, (i : Int) < σ 9 2 → bF (σ 11 i) kind = bF (om (σ 11 i)) kind := fun i _ => (bF_o hk).symm
  rcases hR with ⟨a, b, c, d, e⟩ | ⟨q, ⟨q1, q2, q3⟩, b, c, d⟩
  · -- no other at all
    have z : f (229 + p.toNat) = 0 := by
      rw [← hO.2.1 p.toNat hp6]
      by_cases w : 0 < rk (σ 11) p.toNat (σ 9 2).toNat
      · obtain ⟨i, i1, i2, _⟩ := rk_sur (h := σ 11) (p := p.toNat) (σ 9 2).toNat 0 (Int.le_refl 0) w
        exact absurd (i2.trans pz) (a i (by have := hO.1; omega))
      · have := (rk_nn (h := σ 11) (p := p.toNat) (σ 9 2).toNat).1
        omega
    unfold learnF
    rw [if_pos z]
    exact ⟨hM.of (fun j _ => hF.2 j (by simp)) (fun j _ => by rw [hF.1 2 (by decide) (by decide)]) (fun j _ => by rw [hF.1 5 (by decide) (by decide)]) (fun j _ => by rw [c]) (fun j _ => by rw [e]) (fun j _ => by rw [hF.1 6 (by decide) (by decide)]) (fun j _ => by rw [hF.1 7 (by decide) (by decide)]) (fun j _ => by rw [hF.1 8 (by decide) (by decide)]),
      hC.of (fun j _ => by rw [hF.1 3 (by decide) (by decide)]) (fun _ _ _ => rfl), ⟨hH.of (hF.2 8 (by simp)) (hF.2 9 (by simp)) (hF.1 4 (by decide) (by decide)) h7 (fun _ _ _ => rfl), h7⟩, by rw [b, d]; exact ⟨hO, hn52⟩, hX'⟩
  · have hn0 : ¬ f (229 + p.toNat) = 0 := by
      have w := rk_lt (h := σ 11) (p := p.toNat) (i := q) (j := (σ 9 2).toNat) (by have := hO.1; omega) (q2.trans pz.symm)
      have w2 := (rk_nn (h := σ 11) (p := p.toNat) q).1
      rw [hO.2.1 p.toNat hp6] at w
      omega
    have hT := hO.take hp6 q1 (q2.trans pz.symm) (fun q hq => (h52 q hq).2)
    have hrl := rk_lt (h := σ 11) (p := p.toNat) (i := q) (j := (σ 9 2).toNat) (by have := hO.1; omega) (q2.trans pz.symm)
    rw [hO.2.1 p.toNat hp6] at hrl
    have hr0 := (rk_nn (h := σ 11) (p := p.toNat) q).1
    have rest : ∀ (g : Nat → Int) (i : Nat), (∀ j, 60 ≤ j → j < 138 → g j = takesF f p.toNat i j) → (∀ j, 7 ≤ j → j < 60 → g j = takesF f p.toNat i j) → GC σ' g ∧ (GH σ' g ∧ g 7 ≤ 52) := fun g i g1 g2 =>
      ⟨hC.of (fun j _ => by rw [hF.1 3 (by decide) (by decide)]) (fun j a b => by rw [g1 j a b]; exact takesF_far hp6 h5p.2 (Or.inl (by omega))), hH.of (hF.2 8 (by simp)) (hF.2 9 (by simp)) (hF.1 4 (by decide) (by decide)) h7 (fun j a b => by rw [g2 j a b]; exact takesF_far hp6 h5p.2 (Or.inl (by omega))), by rw [g2 7 (by decide) (by decide), takesF_far hp6 h5p.2 (Or.inl (by omega))]; exact h7⟩
    have cells : ∀ j : Nat, ∀ t : Nat, t = 2 ∨ t = 5 ∨ t = 6 ∨ t = 7 ∨ t = 8 → σ' t j = σ t j := fun j t ht => by
      rw [hF.1 t (by omega) (by simp only [List.mem_cons, List.not_mem_nil, or_false]; omega)]
    rcases q3 with ⟨b0, b1, b2⟩ | ⟨b0, b1, b2⟩
    · -- one that fits
      obtain ⟨y1, y2⟩ := hO.fit (B := fun m => bF m kind = 0) hp6 q1 (q2.trans pz.symm) (by rw [bF_o hk]; exact b0) (fun i hi w => by rw [bF_o hk]; exact b1 i hi (w.trans pz))
      have hx : ffx f p.toNat kind (f (229 + p.toNat)).toNat 0 = (rk (σ 11) p.toNat q).toNat := ffx_hit _ 0 (Nat.zero_le _) (by omega) (fun j _ hj => y2 j hj) y1
      unfold learnF
      rw [if_neg hn0, hx, if_neg (by omega)]
      have hG1 : GM (xput σ 10 (13 * p.toNat + kind.toNat) (f (151 + 13 * p.toNat + kind.toNat) + 1)) (up (takesF f p.toNat (rk (σ 11) p.toNat q).toNat) (151 + 13 * p.toNat + kind.toNat) (f (151 + 13 * p.toNat + kind.toNat) + 1)) := by
        have hm := mp_kn (j := 13 * p.toNat + kind.toNat) (by omega)
        rw [← Nat.add_assoc] at hm
        exact (hM.ag (fun i hi => takesF_far hp6 h5p.2 (by omega))).up hm (by omega)
      have hk0 : σ 10 (13 * p.toNat + kind.toNat) = f (151 + 13 * p.toNat + kind.toNat) := by
        have hm := mp_kn (j := 13 * p.toNat + kind.toNat) (by omega)
        rw [← Nat.add_assoc] at hm
        have z := hM _ _ _ _ hm
        omega
      refine ⟨hG1.of (fun j h => hF.2 j (by simp)) (fun j _ => cells j 2 (by omega)) (fun j _ => cells j 5 (by omega)) (fun j _ => ?_) (fun j _ => by rw [b2]; rfl) (fun j _ => cells j 6 (by omega)) (fun j _ => cells j 7 (by omega)) (fun j _ => cells j 8 (by omega)), ?_⟩
      · rw [c, ix, hk0, xput_up]
      · obtain ⟨r1, r2⟩ := rest (up (takesF f p.toNat (rk (σ 11) p.toNat q).toNat) (151 + 13 * p.toNat + kind.toNat) (f (151 + 13 * p.toNat + kind.toNat) + 1)) _ (fun j a b => up_n (by omega)) (fun j a b => up_n (by omega))
        refine ⟨r1, r2, ?_, hX'⟩
        rw [b]
        refine ⟨?_, by omega⟩
        exact hT.c (fun i hi => d i hi) (fun i a b => up_n (by omega)) (fun r hr => by
          by_cases e : r = p.toNat
          · subst e; rw [takesF_n]; omega
          · rw [takesF_o (by omega) (by omega)]; exact (h52 r hr).2)
    · -- none fits
      have y := hO.nofit (B := fun m => bF m kind = 0) hp6 (fun i hi w => by rw [bF_o hk]; exact b0 i hi (w.trans pz))
      have hx : ffx f p.toNat kind (f (229 + p.toNat)).toNat 0 = (f (229 + p.toNat)).toNat := by
        rw [ffx_no _ 0 (fun j _ hj => y j (by omega))]
        omega
      have hr : rk (σ 11) p.toNat q = 0 := by
        by_cases w : 0 < rk (σ 11) p.toNat q
        · obtain ⟨i, i1, i2, _⟩ := rk_sur (h := σ 11) (p := p.toNat) q 0 (Int.le_refl 0) w
          exact absurd (i2.trans pz) (b1 i i1)
        · omega
      rw [hr] at hT
      unfold learnF
      rw [if_neg hn0, hx, if_pos rfl]
      have hG1 : GM (xput (xput σ 12 p.toNat (wr (f (547 + p.toNat) + 1))) 10 (13 * p.toNat + kind.toNat) (f (151 + 13 * p.toNat + kind.toNat) + 1)) (up (up (takesF f p.toNat 0) (547 + p.toNat) (wr (f (547 + p.toNat) + 1))) (151 + 13 * p.toNat + kind.toNat) (f (151 + 13 * p.toNat + kind.toNat) + 1)) := by
        have hm := mp_kn (j := 13 * p.toNat + kind.toNat) (by omega)
        rw [← Nat.add_assoc] at hm
        exact ((hM.ag (fun i hi => takesF_far hp6 h5p.2 (by omega))).up (mp_ca hp6) (by omega)).up hm (by omega)
      have hk0 : σ 10 (13 * p.toNat + kind.toNat) = f (151 + 13 * p.toNat + kind.toNat) := by
        have hm := mp_kn (j := 13 * p.toNat + kind.toNat) (by omega)
        rw [← Nat.add_assoc] at hm
        have z := hM _ _ _ _ hm
        omega
      have hc0 : σ 12 p.toNat = f (547 + p.toNat) := by
        have z := hM _ _ _ _ (mp_ca hp6)
        omega
      refine ⟨hG1.of (fun j h => hF.2 j (by simp)) (fun j _ => cells j 2 (by omega)) (fun j _ => cells j 5 (by omega)) (fun j _ => ?_) (fun j _ => ?_) (fun j _ => cells j 6 (by omega)) (fun j _ => cells j 7 (by omega)) (fun j _ => cells j 8 (by omega)), ?_⟩
      · rw [c, ix, hk0, xput_up, xput_ne (by decide)]
      · rw [b2, hc0, xput_ne (by decide), xput_up]
      · obtain ⟨r1, r2⟩ := rest (up (up (takesF f p.toNat 0) (547 + p.toNat) (wr (f (547 + p.toNat) + 1))) (151 + 13 * p.toNat + kind.toNat) (f (151 + 13 * p.toNat + kind.toNat) + 1)) 0 (fun j a b => by rw [up_n (by omega), up_n (by omega)]) (fun j a b => by rw [up_n (by omega), up_n (by omega)])
        refine ⟨r1, r2, ?_, hX'⟩
        rw [b]
        refine ⟨?_, by omega⟩
        exact OTR.c hT (fun i hi => d i hi) (fun i a b => by rw [up_n (by omega), up_n (by omega)]; rfl) (fun r hr => by
          by_cases e : r = p.toNat
          · subst e; show takesF f p.toNat (0 : Int).toNat (229 + p.toNat) ≤ 52; rw [takesF_n]; omega
          · show takesF f p.toNat (0 : Int).toNat (229 + r) ≤ 52; rw [takesF_o (by omega) (by omega)]; exact (h52 r hr).2)

