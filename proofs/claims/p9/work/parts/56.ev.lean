def ER (rd g : Nat → Int) (n : Int) : Prop := ∀ j : Nat, (j : Int) < n → (0 ≤ rd (4 * j) ∧ rd (4 * j) < g 1) ∧ (0 ≤ rd (4 * j + 1) ∧ rd (4 * j + 1) < g 1) ∧ (0 ≤ rd (4 * j + 2) ∧ rd (4 * j + 2) < g 0)
theorem ER.z {rd g : Nat → Int} {n : Int} (h : n = 0) : ER rd g n := fun j hj => by omega
theorem ER.add {rd rd' g : Nat → Int} {n m a b c : Int} (h : ER rd g n) (hn : 0 ≤ n) (hm : m = n + 1) (e0 : rd' (4 * n.toNat) = a) (e1 : rd' (4 * n.toNat + 1) = b) (e2 : rd' (4 * n.toNat + 2) = c) (s : ∀ i : Nat, i < 4 * n.toNat → rd' i = rd i) (ha : 0 ≤ a ∧ a < g 1) (hb : 0 ≤ b ∧ b < g 1) (hc : 0 ≤ c ∧ c < g 0) : ER rd' g m := fun j hj => by
  by_cases e : j = n.toNat
  · subst e; rw [e0, e1, e2]; exact ⟨ha, hb, hc⟩
  · rw [s _ (by omega), s _ (by omega), s _ (by omega)]; exact h j (by omega)
theorem ER.o {rd rd' g : Nat → Int} {n : Int} (h : ER rd g n) {i : Nat} (hi : i % 4 = 3) (s : ∀ j : Nat, j ≠ i → rd' j = rd j) : ER rd' g n := fun j hj => by
  rw [s _ (by omega), s _ (by omega), s _ (by omega)]; exact h j hj
theorem RZ.fe {ts js : List Nat} {σ σ' : xS} (h : RI σ) (h2 : Fr ts js σ σ') (e2 : σ' 2 = σ 2) (e8 : σ' 8 = σ 8) (e27 : σ' 0 27 = σ 0 27) (t25 : 25 ∉ ts) (t27 : 27 ∉ ts) (c : 37 ∉ js) (hz : σ' 0 2 = 0) (t1 : 1 ∉ ts := by decide) (t6 : 6 ∉ ts := by decide) : RZ σ σ' := by
  refine ⟨?_, hz, h2.1 27 (by decide) t27, h2.1 1 (by decide) t1, h2.1 6 (by decide) t6⟩
  unfold RI
  rw [e2, e8, h2.1 25 (by decide) t25, h2.1 27 (by decide) t27, e27, h2.2 37 c, hz]
  exact ⟨h.1, h.2.1, by decide, h.2.2.2⟩
set_option maxHeartbeats 4000000 in
set_option maxRecDepth 100000 in
theorem s_eveningLine {σ : xS} {Q : Option xV → xS → Prop} (hp0 : 0 ≤ σ 0 4 ∧ σ 0 4 ≤ σ 0 3 ∧ σ 0 3 ≤ 940) (hp1 : 0 ≤ σ 0 52 ∧ σ 0 52 ≤ 30) (hp2 : 0 ≤ σ 2 1 ∧ σ 2 1 ≤ 6) (hp3 : 0 ≤ σ 2 0 ∧ σ 2 0 ≤ 13) (hp4 : ER (σ 4) (σ 2) (σ 0 52)) (hQ : ∀ r : Int, ∀ σ' : xS, Fr [4] [4, 11, 12, 13, 14, 15, 16, 17, 18] σ σ' → ((r = 1 ∧ ER (σ' 4) (σ 2) (σ 0 52 + 1) ∧ σ 0 52 ≤ 29 ∧ σ' 0 3 = σ 0 3 ∧ σ 0 4 ≤ σ' 0 4 ∧ σ' 0 4 ≤ σ' 0 3 ∧ (σ' 0 11 = 3 → σ 0 4 < σ' 0 4)) ∨ r = 0) → Q (some (xvi r)) σ') : xT kX11_eveningLine [xvr 0] σ Q := by
  refine ⟨Nat.le_of_ble_eq_true rfl, fun X hX => ?_⟩
  show X 0 [xvr 0, xvu, xvu, xvu] σ
  have hF : Fr [4] [4, 11, 12, 13, 14, 15, 16, 17, 18] σ σ := Fr.rf
  refine hX 400 0 _ _ ?_
  have hE := hp4
  intro v1 e1 l1 h1
  have e1 : v1 = σ 0 52 := e1
  intro z2 t2 e2 l2 h2
  try have w2 : t2 = 0 := by omega
  refine And.intro (Nat.le_of_ble_eq_true rfl) ?_
  show xw _ _ _ _ _ _ _ _ _ _ [xvr 0, xvi z2, xvu, xvu] _ _
  refine s_isName (σ := σ)   (fun r3 p3 => ?_)
  have p3 : (r3 = 1 ∧ (σ 0 11) = 1) ∨ (r3 = 0 ∧ (0 : Int) ≤ 0) := p3
  refine And.intro (fun c4 => ?_) (fun c4 => ?_)
  · replace p3 : (σ 0 11) = 1 := by
      rcases p3 with q | q
      · exact q.2
      · exact absurd q.1 (by omega)
    refine And.intro (rfl) (And.intro (⟨by omega, by omega⟩) ?_)
    intro v5 e5 l5 h5
    have e5 : v5 = σ 2 1 := e5
    refine s_find (σ := σ) (from_ := 0) (many := v5) (show (0 = 0 ∨ 0 = 6) ∧ v5 ≤ 6 from by omega) (fun r6 p6 => ?_)
    have p6 : -1 ≤ r6 ∧ (r6 = -1 ∨ r6 < v5) := p6
    refine And.intro (Nat.le_of_ble_eq_true rfl) ?_
    show xw _ _ _ _ _ _ _ _ _ _ [xvr 0, xvi z2, xvi r6, xvu] _ _
    refine And.intro (fun c7 => ?_) (fun c7 => ?_)
    · intro v8 e8 l8 h8
      have e8 : v8 = σ 0 52 := e8
      refine And.intro (fun c9 => ?_) (fun c9 => ?_)
      · refine s_next (σ := σ)  (show 0 ≤ σ 0 4 ∧ σ 0 4 ≤ σ 0 3 ∧ σ 0 3 ≤ 940 from by omega) (fun σ10 f10 p10 => ?_)
        have p10 : σ10 0 3 = (σ 0 3) ∧ (σ 0 4) ≤ σ10 0 4 ∧ σ10 0 4 ≤ σ10 0 3 ∧ (0 ≤ σ10 0 11 ∧ σ10 0 11 ≤ 4) ∧ (1 ≤ σ10 0 11 ∧ σ10 0 11 ≤ 3 → (σ 0 4) < σ10 0 4 ∧ 0 ≤ σ10 0 14) := p10
        have hF := hF.tr f10 (by decide) (by decide)
        have kt2_10 : σ10 2 = σ 2 := f10.1 2 (by decide) (by decide)
        have kt4_10 : σ10 4 = σ 4 := f10.1 4 (by decide) (by decide)
        have kp2_0_10 : σ10 2 0 = σ 2 0 := congrFun kt2_10 0
        have kp2_1_10 : σ10 2 1 = σ 2 1 := congrFun kt2_10 1
        have kf52_10 : σ10 0 52 = σ 0 52 := f10.2 52 (by decide)
        have hE : ER (σ10 4) (σ 2) (σ 0 52) := by rw [kt4_10]; exact hE
        refine s_isWord (σ := σ10) (w := 1634954099)  (fun r11 p11 => ?_)
        have p11 : (r11 = 1 ∧ (σ10 0 11) = 1) ∨ (r11 = 0 ∧ (0 : Int) ≤ 0) := p11
        refine And.intro (fun c12 => ?_) (fun c12 => ?_)
        · replace p11 : (σ10 0 11) = 1 := by
            rcases p11 with q | q
            · exact q.2
            · exact absurd q.1 (by omega)
          refine s_next (σ := σ10)  (show 0 ≤ σ10 0 4 ∧ σ10 0 4 ≤ σ10 0 3 ∧ σ10 0 3 ≤ 940 from by omega) (fun σ13 f13 p13 => ?_)
          have p13 : σ13 0 3 = (σ10 0 3) ∧ (σ10 0 4) ≤ σ13 0 4 ∧ σ13 0 4 ≤ σ13 0 3 ∧ (0 ≤ σ13 0 11 ∧ σ13 0 11 ≤ 4) ∧ (1 ≤ σ13 0 11 ∧ σ13 0 11 ≤ 3 → (σ10 0 4) < σ13 0 4 ∧ 0 ≤ σ13 0 14) := p13
          have hF := hF.tr f13 (by decide) (by decide)
          have kt2_13 : σ13 2 = σ10 2 := f13.1 2 (by decide) (by decide)
          have kt4_13 : σ13 4 = σ10 4 := f13.1 4 (by decide) (by decide)
          have kp2_0_13 : σ13 2 0 = σ10 2 0 := congrFun kt2_13 0
          have kp2_1_13 : σ13 2 1 = σ10 2 1 := congrFun kt2_13 1
          have kf52_13 : σ13 0 52 = σ10 0 52 := f13.2 52 (by decide)
          have hE : ER (σ13 4) (σ 2) (σ 0 52) := by rw [kt4_13]; exact hE
          refine s_isName (σ := σ13)   (fun r14 p14 => ?_)
          have p14 : (r14 = 1 ∧ (σ13 0 11) = 1) ∨ (r14 = 0 ∧ (0 : Int) ≤ 0) := p14
          refine And.intro (fun c15 => ?_) (fun c15 => ?_)
          · replace p14 : (σ13 0 11) = 1 := by
              rcases p14 with q | q
              · exact q.2
              · exact absurd q.1 (by omega)
            refine And.intro (rfl) (And.intro (⟨by omega, by omega⟩) ?_)
            intro v16 e16 l16 h16
            have e16 : v16 = σ13 2 1 := e16
            refine s_find (σ := σ13) (from_ := 0) (many := v16) (show (0 = 0 ∨ 0 = 6) ∧ v16 ≤ 6 from by omega) (fun r17 p17 => ?_)
            have p17 : -1 ≤ r17 ∧ (r17 = -1 ∨ r17 < v16) := p17
            refine And.intro (Nat.le_of_ble_eq_true rfl) ?_
            show xw _ _ _ _ _ _ _ _ _ _ [xvr 0, xvi z2, xvi r6, xvi r17] _ _
            refine And.intro (fun c18 => ?_) (fun c18 => ?_)
            · refine s_next (σ := σ13)  (show 0 ≤ σ13 0 4 ∧ σ13 0 4 ≤ σ13 0 3 ∧ σ13 0 3 ≤ 940 from by omega) (fun σ19 f19 p19 => ?_)
              have p19 : σ19 0 3 = (σ13 0 3) ∧ (σ13 0 4) ≤ σ19 0 4 ∧ σ19 0 4 ≤ σ19 0 3 ∧ (0 ≤ σ19 0 11 ∧ σ19 0 11 ≤ 4) ∧ (1 ≤ σ19 0 11 ∧ σ19 0 11 ≤ 3 → (σ13 0 4) < σ19 0 4 ∧ 0 ≤ σ19 0 14) := p19
              have hF := hF.tr f19 (by decide) (by decide)
              have kt2_19 : σ19 2 = σ13 2 := f19.1 2 (by decide) (by decide)
              have kt4_19 : σ19 4 = σ13 4 := f19.1 4 (by decide) (by decide)
              have kp2_0_19 : σ19 2 0 = σ13 2 0 := congrFun kt2_19 0
              have kp2_1_19 : σ19 2 1 = σ13 2 1 := congrFun kt2_19 1
              have kf52_19 : σ19 0 52 = σ13 0 52 := f19.2 52 (by decide)
              have hE : ER (σ19 4) (σ 2) (σ 0 52) := by rw [kt4_19]; exact hE
              refine And.intro (rfl) (And.intro (⟨by omega, by omega⟩) ?_)
              intro v20 e20 l20 h20
              have e20 : v20 = σ19 2 0 := e20
              intro z21 t21 e21 l21 h21
              try have w21 : t21 = 0 := by omega
              refine s_takes (σ := σ19) (low := 0) (high := z21) (show 0 ≤ σ19 0 4 ∧ σ19 0 4 ≤ σ19 0 3 ∧ σ19 0 3 ≤ 940 from by omega) (fun r22 σ22 f22 p22 => ?_)
              have p22 : (r22 = 1 ∧ (σ19 0 11) = 2 ∧ (0 ≤ σ22 0 18 ∧ σ22 0 18 ≤ z21) ∧ (σ22 0 3 = (σ19 0 3) ∧ (σ19 0 4) ≤ σ22 0 4 ∧ σ22 0 4 ≤ σ22 0 3 ∧ (0 ≤ σ22 0 11 ∧ σ22 0 11 ≤ 4) ∧ (1 ≤ σ22 0 11 ∧ σ22 0 11 ≤ 3 → (σ19 0 4) < σ22 0 4 ∧ 0 ≤ σ22 0 14))) ∨ (r22 = 0 ∧ (0 : Int) ≤ 0) := by
                rcases p22 with q | q
                · exact Or.inl q
                · exact Or.inr ⟨q, by omega⟩
              have hF := hF.tr f22 (by decide) (by decide)
              have kt2_22 : σ22 2 = σ19 2 := f22.1 2 (by decide) (by decide)
              have kt4_22 : σ22 4 = σ19 4 := f22.1 4 (by decide) (by decide)
              have kp2_0_22 : σ22 2 0 = σ19 2 0 := congrFun kt2_22 0
              have kp2_1_22 : σ22 2 1 = σ19 2 1 := congrFun kt2_22 1
              have kf52_22 : σ22 0 52 = σ19 0 52 := f22.2 52 (by decide)
              have hE : ER (σ22 4) (σ 2) (σ 0 52) := by rw [kt4_22]; exact hE
              refine And.intro (fun c23 => ?_) (fun c23 => ?_)
              · replace p22 : (σ19 0 11) = 2 ∧ (0 ≤ σ22 0 18 ∧ σ22 0 18 ≤ z21) ∧ (σ22 0 3 = (σ19 0 3) ∧ (σ19 0 4) ≤ σ22 0 4 ∧ σ22 0 4 ≤ σ22 0 3 ∧ (0 ≤ σ22 0 11 ∧ σ22 0 11 ≤ 4) ∧ (1 ≤ σ22 0 11 ∧ σ22 0 11 ≤ 3 → (σ19 0 4) < σ22 0 4 ∧ 0 ≤ σ22 0 14)) := by
                  rcases p22 with q | q
                  · exact q.2
                  · exact absurd q.1 (by omega)
                refine And.intro (rfl) (And.intro (⟨by omega, by omega⟩) ?_)
                have hF := hF.pt (t := 4) (j := z2.toNat) (v := r6) (by decide) (by decide)
                intro z25 t25 e25 l25 h25
                try have w25 : t25 = 0 := by omega
                refine And.intro (rfl) (And.intro (⟨by omega, by omega⟩) ?_)
                have hF := hF.pt (t := 4) (j := z25.toNat) (v := r17) (by decide) (by decide)
                intro z27 t27 e27 l27 h27
                try have w27 : t27 = 0 := by omega
                intro v28 e28 l28 h28
                have e28 : v28 = σ22 0 18 := e28
                refine And.intro (rfl) (And.intro (⟨by omega, by omega⟩) ?_)
                have hF := hF.pt (t := 4) (j := z27.toNat) (v := v28) (by decide) (by decide)
                intro z30 t30 e30 l30 h30
                try have w30 : t30 = 0 := by omega
                refine And.intro (rfl) (And.intro (⟨by omega, by omega⟩) ?_)
                have hF := hF.pt (t := 4) (j := z30.toNat) (v := 0) (by decide) (by decide)
                have hE : ER ((xput (xput (xput (xput σ22 4 z2.toNat r6) 4 z25.toNat r17) 4 z27.toNat v28) 4 z30.toNat 0) 4) (σ 2) (σ 0 52 + 1) := hE.add (by omega) rfl (by rw [show 4 * (σ 0 52).toNat = z2.toNat from by omega, xput_o (by omega), xput_o (by omega), xput_o (by omega), xput_s]) (by rw [show 4 * (σ 0 52).toNat + 1 = z25.toNat from by omega, xput_o (by omega), xput_o (by omega), xput_s]) (by rw [show 4 * (σ 0 52).toNat + 2 = z27.toNat from by omega, xput_o (by omega), xput_s]) (fun i hi => by rw [xput_o (by omega), xput_o (by omega), xput_o (by omega), xput_o (by omega)]) (by omega) (by omega) (by omega)
                refine s_isWord (σ := (xput (xput (xput (xput σ22 4 z2.toNat r6) 4 z25.toNat r17) 4 z27.toNat v28) 4 z30.toNat 0)) (w := 28271)  (fun r32 p32 => ?_)
                have p32 : (r32 = 1 ∧ (σ22 0 11) = 1) ∨ (r32 = 0 ∧ (0 : Int) ≤ 0) := p32
                refine And.intro (fun c33 => ?_) (fun c33 => ?_)
                · replace p32 : (0 : Int) ≤ 0 := by
                    rcases p32 with q | q
                    · exact absurd q.1 (by omega)
                    · exact q.2
                  refine s_isWord (σ := (xput (xput (xput (xput σ22 4 z2.toNat r6) 4 z25.toNat r17) 4 z27.toNat v28) 4 z30.toNat 0)) (w := 444150998387)  (fun r34 p34 => ?_)
                  have p34 : (r34 = 1 ∧ (σ22 0 11) = 1) ∨ (r34 = 0 ∧ (0 : Int) ≤ 0) := p34
                  refine And.intro (fun c35 => ?_) (fun c35 => ?_)
                  · replace p34 : (σ22 0 11) = 1 := by
                      rcases p34 with q | q
                      · exact q.2
                      · exact absurd q.1 (by omega)
                    refine s_next (σ := (xput (xput (xput (xput σ22 4 z2.toNat r6) 4 z25.toNat r17) 4 z27.toNat v28) 4 z30.toNat 0))  (show 0 ≤ σ22 0 4 ∧ σ22 0 4 ≤ σ22 0 3 ∧ σ22 0 3 ≤ 940 from by omega) (fun σ36 f36 p36 => ?_)
                    have p36 : σ36 0 3 = (σ22 0 3) ∧ (σ22 0 4) ≤ σ36 0 4 ∧ σ36 0 4 ≤ σ36 0 3 ∧ (0 ≤ σ36 0 11 ∧ σ36 0 11 ≤ 4) ∧ (1 ≤ σ36 0 11 ∧ σ36 0 11 ≤ 3 → (σ22 0 4) < σ36 0 4 ∧ 0 ≤ σ36 0 14) := p36
                    have hF := hF.tr f36 (by decide) (by decide)
                    have kt2_36 : σ36 2 = σ22 2 := f36.1 2 (by decide) (by decide)
                    have kt4_36 : σ36 4 = (xput (xput (xput (xput σ22 4 z2.toNat r6) 4 z25.toNat r17) 4 z27.toNat v28) 4 z30.toNat 0) 4 := f36.1 4 (by decide) (by decide)
                    have kp2_0_36 : σ36 2 0 = σ22 2 0 := congrFun kt2_36 0
                    have kp2_1_36 : σ36 2 1 = σ22 2 1 := congrFun kt2_36 1
                    have kf52_36 : σ36 0 52 = σ22 0 52 := f36.2 52 (by decide)
                    have hE : ER (σ36 4) (σ 2) (σ 0 52 + 1) := by rw [kt4_36]; exact hE
                    refine s_takes (σ := σ36) (low := 1) (high := 4) (show 0 ≤ σ36 0 4 ∧ σ36 0 4 ≤ σ36 0 3 ∧ σ36 0 3 ≤ 940 from by omega) (fun r37 σ37 f37 p37 => ?_)
                    have p37 : (r37 = 1 ∧ (σ36 0 11) = 2 ∧ (1 ≤ σ37 0 18 ∧ σ37 0 18 ≤ 4) ∧ (σ37 0 3 = (σ36 0 3) ∧ (σ36 0 4) ≤ σ37 0 4 ∧ σ37 0 4 ≤ σ37 0 3 ∧ (0 ≤ σ37 0 11 ∧ σ37 0 11 ≤ 4) ∧ (1 ≤ σ37 0 11 ∧ σ37 0 11 ≤ 3 → (σ36 0 4) < σ37 0 4 ∧ 0 ≤ σ37 0 14))) ∨ (r37 = 0 ∧ (0 : Int) ≤ 0) := by
                      rcases p37 with q | q
                      · exact Or.inl q
                      · exact Or.inr ⟨q, by omega⟩
                    have hF := hF.tr f37 (by decide) (by decide)
                    have kt2_37 : σ37 2 = σ36 2 := f37.1 2 (by decide) (by decide)
                    have kt4_37 : σ37 4 = σ36 4 := f37.1 4 (by decide) (by decide)
                    have kp2_0_37 : σ37 2 0 = σ36 2 0 := congrFun kt2_37 0
                    have kp2_1_37 : σ37 2 1 = σ36 2 1 := congrFun kt2_37 1
                    have kf52_37 : σ37 0 52 = σ36 0 52 := f37.2 52 (by decide)
                    have hE : ER (σ37 4) (σ 2) (σ 0 52 + 1) := by rw [kt4_37]; exact hE
                    refine And.intro (fun c38 => ?_) (fun c38 => ?_)
                    · replace p37 : (σ36 0 11) = 2 ∧ (1 ≤ σ37 0 18 ∧ σ37 0 18 ≤ 4) ∧ (σ37 0 3 = (σ36 0 3) ∧ (σ36 0 4) ≤ σ37 0 4 ∧ σ37 0 4 ≤ σ37 0 3 ∧ (0 ≤ σ37 0 11 ∧ σ37 0 11 ≤ 4) ∧ (1 ≤ σ37 0 11 ∧ σ37 0 11 ≤ 3 → (σ36 0 4) < σ37 0 4 ∧ 0 ≤ σ37 0 14)) := by
                        rcases p37 with q | q
                        · exact q.2
                        · exact absurd q.1 (by omega)
                      intro z39 t39 e39 l39 h39
                      try have w39 : t39 = 0 := by omega
                      intro v40 e40 l40 h40
                      have e40 : v40 = σ37 0 18 := e40
                      refine And.intro (rfl) (And.intro (⟨by omega, by omega⟩) ?_)
                      have hF := hF.pt (t := 4) (j := z39.toNat) (v := v40) (by decide) (by decide)
                      refine And.intro rfl ?_
                      refine And.intro (by omega) ?_
                      exact hQ _ _ hF (Or.inl ⟨by omega, hE.o (i := z39.toNat) (by omega) (fun q hq => xput_o hq), by omega, (show (σ37 0 3) = σ 0 3 ∧ σ 0 4 ≤ (σ37 0 4) ∧ (σ37 0 4) ≤ (σ37 0 3) ∧ ((σ37 0 11) = 3 → σ 0 4 < (σ37 0 4)) from by omega)⟩)
                    · replace p37 : (0 : Int) ≤ 0 := by
                        rcases p37 with q | q
                        · exact absurd q.1 (by omega)
                        · exact q.2
                      refine And.intro rfl ?_
                      refine And.intro (by omega) ?_
                      exact hQ _ _ hF (Or.inr (by omega))
                  · replace p34 : (0 : Int) ≤ 0 := by
                      rcases p34 with q | q
                      · exact absurd q.1 (by omega)
                      · exact q.2
                    refine s_badF (σ := (xput (xput (xput (xput σ22 4 z2.toNat r6) 4 z25.toNat r17) 4 z27.toNat v28) 4 z30.toNat 0)) (kind := 1) (fun r42 σ42 f42 p42 => ?_)
                    have p42 : r42 = 0 := p42
                    have hF := hF.tr f42 (by decide) (by decide)
                    refine And.intro rfl ?_
                    refine And.intro (by omega) ?_
                    exact hQ _ _ hF (Or.inr (by omega))
                · replace p32 : (σ22 0 11) = 1 := by
                    rcases p32 with q | q
                    · exact q.2
                    · exact absurd q.1 (by omega)
                  refine s_next (σ := (xput (xput (xput (xput σ22 4 z2.toNat r6) 4 z25.toNat r17) 4 z27.toNat v28) 4 z30.toNat 0))  (show 0 ≤ σ22 0 4 ∧ σ22 0 4 ≤ σ22 0 3 ∧ σ22 0 3 ≤ 940 from by omega) (fun σ43 f43 p43 => ?_)
                  have p43 : σ43 0 3 = (σ22 0 3) ∧ (σ22 0 4) ≤ σ43 0 4 ∧ σ43 0 4 ≤ σ43 0 3 ∧ (0 ≤ σ43 0 11 ∧ σ43 0 11 ≤ 4) ∧ (1 ≤ σ43 0 11 ∧ σ43 0 11 ≤ 3 → (σ22 0 4) < σ43 0 4 ∧ 0 ≤ σ43 0 14) := p43
                  have hF := hF.tr f43 (by decide) (by decide)
                  have kt2_43 : σ43 2 = σ22 2 := f43.1 2 (by decide) (by decide)
                  have kt4_43 : σ43 4 = (xput (xput (xput (xput σ22 4 z2.toNat r6) 4 z25.toNat r17) 4 z27.toNat v28) 4 z30.toNat 0) 4 := f43.1 4 (by decide) (by decide)
                  have kp2_0_43 : σ43 2 0 = σ22 2 0 := congrFun kt2_43 0
                  have kp2_1_43 : σ43 2 1 = σ22 2 1 := congrFun kt2_43 1
                  have kf52_43 : σ43 0 52 = σ22 0 52 := f43.2 52 (by decide)
                  have hE : ER (σ43 4) (σ 2) (σ 0 52 + 1) := by rw [kt4_43]; exact hE
                  refine And.intro rfl ?_
                  refine And.intro (by omega) ?_
                  exact hQ _ _ hF (Or.inl ⟨by omega, hE, by omega, (show (σ43 0 3) = σ 0 3 ∧ σ 0 4 ≤ (σ43 0 4) ∧ (σ43 0 4) ≤ (σ43 0 3) ∧ ((σ43 0 11) = 3 → σ 0 4 < (σ43 0 4)) from by omega)⟩)
              · replace p22 : (0 : Int) ≤ 0 := by
                  rcases p22 with q | q
                  · exact absurd q.1 (by omega)
                  · exact q.2
                refine And.intro rfl ?_
                refine And.intro (by omega) ?_
                exact hQ _ _ hF (Or.inr (by omega))
            · refine s_badF (σ := σ13) (kind := 3) (fun r44 σ44 f44 p44 => ?_)
              have p44 : r44 = 0 := p44
              have hF := hF.tr f44 (by decide) (by decide)
              refine And.intro rfl ?_
              refine And.intro (by omega) ?_
              exact hQ _ _ hF (Or.inr (by omega))
          · replace p14 : (0 : Int) ≤ 0 := by
              rcases p14 with q | q
              · exact absurd q.1 (by omega)
              · exact q.2
            refine s_badF (σ := σ13) (kind := 1) (fun r45 σ45 f45 p45 => ?_)
            have p45 : r45 = 0 := p45
            have hF := hF.tr f45 (by decide) (by decide)
            refine And.intro rfl ?_
            refine And.intro (by omega) ?_
            exact hQ _ _ hF (Or.inr (by omega))
        · replace p11 : (0 : Int) ≤ 0 := by
            rcases p11 with q | q
            · exact absurd q.1 (by omega)
            · exact q.2
          refine s_badF (σ := σ10) (kind := 1) (fun r46 σ46 f46 p46 => ?_)
          have p46 : r46 = 0 := p46
          have hF := hF.tr f46 (by decide) (by decide)
          refine And.intro rfl ?_
          refine And.intro (by omega) ?_
          exact hQ _ _ hF (Or.inr (by omega))
      · refine s_badF (σ := σ) (kind := 4) (fun r47 σ47 f47 p47 => ?_)
        have p47 : r47 = 0 := p47
        have hF := hF.tr f47 (by decide) (by decide)
        refine And.intro rfl ?_
        refine And.intro (by omega) ?_
        exact hQ _ _ hF (Or.inr (by omega))
    · refine s_badF (σ := σ) (kind := 3) (fun r48 σ48 f48 p48 => ?_)
      have p48 : r48 = 0 := p48
      have hF := hF.tr f48 (by decide) (by decide)
      refine And.intro rfl ?_
      refine And.intro (by omega) ?_
      exact hQ _ _ hF (Or.inr (by omega))
  · replace p3 : (0 : Int) ≤ 0 := by
      rcases p3 with q | q
      · exact absurd q.1 (by omega)
      · exact q.2
    refine s_badF (σ := σ) (kind := 1) (fun r49 σ49 f49 p49 => ?_)
    have p49 : r49 = 0 := p49
    have hF := hF.tr f49 (by decide) (by decide)
    refine And.intro rfl ?_
    refine And.intro (by omega) ?_
    exact hQ _ _ hF (Or.inr (by omega))
set_option maxHeartbeats 4000000 in
set_option maxRecDepth 100000 in
theorem s_evening {σ : xS} {lives : Int} {Q : Option xV → xS → Prop} (hp0 : RI σ) (hQ : ∀ r : Int, ∀ σ' : xS, (((lives < 0 ∨ 1 < lives) ∧ r = -1000) ∧ RK σ σ') ∨ ((0 ≤ lives ∧ lives ≤ 1) ∧ RZ σ σ') → Q (some (xvi r)) σ') : xT kX11_evening [xvr 0, xvi lives] σ Q := by
  refine ⟨Nat.le_of_ble_eq_true rfl, fun X hX => ?_⟩
  show X 0 [xvr 0, xvi lives, xvu, xvu, xvu, xvu] σ
  have hF : Fr [2, 4, 7, 8, 9, 22] [0, 2, 3, 4, 5, 11, 12, 13, 14, 15, 16, 17, 18, 24, 27, 52, 54] σ σ := Fr.rf
  refine hX 400 0 _ _ ?_
  have hl := hp0.len; have hk0 := hp0.kinds; have hk1 := hp0.persons
  have hF := hF.p (j := 0) (v := 0) (by decide)
  refine s_isIn (σ := (xput σ 0 0 0)) (v := lives) (low := 0) (high := 1)  (fun r2 p2 => ?_)
  have p2 : (r2 = 1 ∧ 0 ≤ lives ∧ lives ≤ 1) ∨ (r2 = 0 ∧ (lives < 0 ∨ 1 < lives)) := p2
  refine And.intro (fun c3 => ?_) (fun c3 => ?_)
  · replace p2 : 0 ≤ lives ∧ lives ≤ 1 := by
      rcases p2 with q | q
      · exact q.2
      · exact absurd q.1 (by omega)
    refine s_taken (σ := (xput σ 0 0 0)) (most := 500) (fun σ4 f4 p4 => ?_)
    have p4 : σ4 0 3 = (σ 0 2) ∧ σ4 0 2 = 0 ∧ σ4 0 4 = 0 ∧ σ4 0 5 = 500 := p4
    have hF := hF.tr f4 (by decide) (by decide)
    have hS2 : σ4 2 = σ 2 := f4.1 2 (by decide) (by decide)
    have hS8 : σ4 8 = σ 8 := f4.1 8 (by decide) (by decide)
    have hS27 : σ4 0 27 = σ 0 27 := f4.2 27 (by decide)
    have hS0 : σ4 0 2 = 0 := p4.2.1
    have hF := hF.p (j := 15) (v := 0) (by decide)
    have hF := hF.p (j := 52) (v := 0) (by decide)
    refine s_next (σ := (xput (xput σ4 0 15 0) 0 52 0))  (show 0 ≤ σ4 0 4 ∧ σ4 0 4 ≤ σ4 0 3 ∧ σ4 0 3 ≤ 940 from by omega) (fun σ7 f7 p7 => ?_)
    have p7 : σ7 0 3 = (σ4 0 3) ∧ (σ4 0 4) ≤ σ7 0 4 ∧ σ7 0 4 ≤ σ7 0 3 ∧ (0 ≤ σ7 0 11 ∧ σ7 0 11 ≤ 4) ∧ (1 ≤ σ7 0 11 ∧ σ7 0 11 ≤ 3 → (σ4 0 4) < σ7 0 4 ∧ 0 ≤ σ7 0 14) := p7
    have hF := hF.tr f7 (by decide) (by decide)
    have hS2 : σ7 2 = σ 2 := (f7.1 2 (by decide) (by decide)).trans hS2
    have hS8 : σ7 8 = σ 8 := (f7.1 8 (by decide) (by decide)).trans hS8
    have hS27 : σ7 0 27 = σ 0 27 := (f7.2 27 (by decide)).trans hS27
    have hS0 : σ7 0 2 = 0 := (f7.2 2 (by decide)).trans hS0
    have kt4_7 : σ7 4 = σ4 4 := f7.1 4 (by decide) (by decide)
    have k52_7 : σ7 0 52 = 0 := f7.2 52 (by decide)
    have lp_39 : ∀ (m39 : Nat) (s1 : xS), ((940 - s1 0 4).toNat) = m39 → (Fr [2, 4, 7, 8, 9, 22] [0, 2, 3, 4, 5, 11, 12, 13, 14, 15, 16, 17, 18, 24, 27, 52, 54] σ s1 ∧ s1 2 = σ 2 ∧ s1 8 = σ 8 ∧ s1 0 27 = σ 0 27 ∧ s1 0 2 = 0 ∧ ER (s1 4) (σ 2) (s1 0 52) ∧ ((0 ≤ s1 0 4 ∧ s1 0 4 ≤ s1 0 3 ∧ s1 0 3 ≤ 940) ∧ 0 ≤ s1 0 52 ∧ s1 0 52 ≤ 30)) → X 39 [xvr 0, xvi lives, xvu, xvu, xvu, xvu] s1 := by
      intro m39
      induction m39 using Nat.strongRecOn with
      | _ m39 ih_39 =>
      intro s1 hm_39 hv_39
      obtain ⟨hF, hS2, hS8, hS27, hS0, hE, hv_39⟩ := hv_39
      refine hX 400 39 _ _ ?_
      intro v9 e9 l9 h9
      have e9 : v9 = s1 0 11 := e9
      refine And.intro (fun c10 => ?_) (fun c10 => ?_)
      · have hS2s := hS2
        refine s_tries (σ := s1) (fun σ11 f11 p11 => ?_)
        have hF := hF.tr f11 (by decide) (by decide)
        have hS2 : σ11 2 = σ 2 := (f11.1 2 (by decide) (by decide)).trans hS2
        have hS8 : σ11 8 = σ 8 := (f11.1 8 (by decide) (by decide)).trans hS8
        have hS27 : σ11 0 27 = σ 0 27 := (f11.2 27 (by decide)).trans hS27
        have hS0 : σ11 0 2 = 0 := (f11.2 2 (by decide)).trans hS0
        have kt4_11 : σ11 4 = s1 4 := f11.1 4 (by decide) (by decide)
        have k52_11 : σ11 0 52 = s1 0 52 := f11.2 52 (by decide)
        have h9 : ∀ j : Nat, j < 580 → σ11 9 j = σ 2 (4 + j) := fun j hj => by have q := p11.1 j hj; rw [hS2s] at q; rw [Nat.zero_add] at q; exact q
        refine And.intro (Nat.le_of_ble_eq_true rfl) ?_
        show xw _ _ _ _ _ _ _ _ _ _ [xvr 0, xvi lives, xvi 0, xvu, xvu, xvu] _ _
        have lp_89 : ∀ (m89 : Nat) (j : Int) (s2 : xS), ((4 - j).toNat) = m89 → (Fr [2, 4, 7, 8, 9, 22] [0, 2, 3, 4, 5, 11, 12, 13, 14, 15, 16, 17, 18, 24, 27, 52, 54] σ s2 ∧ s2 2 = σ 2 ∧ s2 8 = σ 8 ∧ s2 0 27 = σ 0 27 ∧ s2 0 2 = 0 ∧ ER (s2 4) (σ 2) (s2 0 52) ∧ (∀ j : Nat, j < 580 → s2 9 j = σ 2 (4 + j)) ∧ (0 ≤ j ∧ j ≤ 4 ∧ s2 0 52 ≤ 30)) → X 89 [xvr 0, xvi lives, xvi j, xvu, xvu, xvu] s2 := by
          intro m89
          induction m89 using Nat.strongRecOn with
          | _ m89 ih_89 =>
          intro j s2 hm_89 hv_89
          obtain ⟨hF, hS2, hS8, hS27, hS0, hE9, h9, hv_89⟩ := hv_89
          refine hX 400 89 _ _ ?_
          refine And.intro (fun c13 => ?_) (fun c13 => ?_)
          · have hRt : RI s2 := (RZ.fe hp0 hF hS2 hS8 hS27 (by decide) (by decide) (by decide) hS0).1
            have h27z := (RZ.fe hp0 hF hS2 hS8 hS27 (by decide) (by decide) (by decide) hS0).2.2
            refine And.intro (Nat.le_of_ble_eq_true rfl) ?_
            show xw _ _ _ _ _ _ _ _ _ _ [xvr 0, xvi lives, xvi (-1), xvu, xvu, xvu] _ _
            refine And.intro (Nat.le_of_ble_eq_true rfl) ?_
            show xw _ _ _ _ _ _ _ _ _ _ [xvr 0, xvi lives, xvi (-1), xvi 0, xvu, xvu] _ _
            have lp_111 : ∀ (m111 : Nat) (wrong : Int) (i : Int) (u14_4 : xV) (u14_5 : xV) (s3 : xS), ((30 - i).toNat) = m111 → (Fr [2, 4, 7, 8, 9, 22] [0, 2, 3, 4, 5, 11, 12, 13, 14, 15, 16, 17, 18, 24, 27, 52, 54] σ s3 ∧ RK s2 s3 ∧ LPx (σ 2) (s3 2) ∧ s3 4 = s2 4 ∧ s3 9 = s2 9 ∧ s3 0 52 = s2 0 52 ∧ (0 ≤ i ∧ i ≤ 30)) → X 111 [xvr 0, xvi lives, xvi wrong, xvi i, u14_4, u14_5] s3 := by
              intro m111
              induction m111 using Nat.strongRecOn with
              | _ m111 ih_111 =>
              intro wrong i u14_4 u14_5 s3 hm_111 hv_111
              obtain ⟨hF, hR, hL, h4, h9s, h52, hv_111⟩ := hv_111
              have q0 : s3 2 0 = σ 2 0 := hL 0 (by omega) (by omega)
              have q1 : s3 2 1 = σ 2 1 := hL 1 (by omega) (by omega)
              have hvn := hR.1.vain; have htn := hR.1.turn; have hb0 := hR.1.kinds; have hb1 := hR.1.persons
              refine hX 400 111 _ _ ?_
              intro v15 e15 l15 h15
              have e15 : v15 = s3 0 52 := e15
              refine And.intro (fun c16 => ?_) (fun c16 => ?_)
              · refine hX 400 290 _ _ ?_
                refine s_allBooks (σ := s3)   (fun r17 => ?_)
                refine And.intro (rfl) (And.intro (⟨by omega, by omega⟩) ?_)
                have hF := hF.pt (t := 22) (j := 2) (v := r17) (by decide) (by decide)
                have hR := hR.pt (t := 22) (j := 2) (v := r17) (by decide) (by decide) (by decide) (by decide) (by decide)
                refine And.intro (rfl) (And.intro (⟨by omega, by omega⟩) ?_)
                intro v19 e19 l19 h19
                have e19 : v19 = s3 2 4 := e19
                refine And.intro (rfl) (And.intro (⟨by omega, by omega⟩) ?_)
                have hF := hF.pt (t := 22) (j := 3) (v := v19) (by decide) (by decide)
                have hR := hR.pt (t := 22) (j := 3) (v := v19) (by decide) (by decide) (by decide) (by decide) (by decide)
                refine And.intro (by omega) ?_
                have hF := hF.p (j := 54) (v := 1) (by decide)
                have hR := hR.p0 (j := 54) (v := 1) (by decide) (by decide) (by decide)
                refine And.intro (fun c22 => ?_) (fun c22 => ?_)
                · refine hX 400 325 _ _ ?_
                  refine And.intro rfl ?_
                  exact hQ _ _ (Or.inr ⟨by omega, hR.1, hR.2.1.trans hS0, hR.2.2.1.trans h27z.1, hR.2.2.2.1.trans h27z.2.1, hR.2.2.2.2.1.trans h27z.2.2⟩)
                · refine s_back (σ := (xput (xput (xput s3 22 2 r17) 22 3 v19) 0 54 1)) (fun σ23 f23 p23 => ?_)
                  have hF := hF.tr f23 (by decide) (by decide)
                  have hR := hR.g f23 (hp0.1.ag8 (fun q h1 h2 => by
                      by_cases c : q < 4
                      · rw [p23.2 q (by omega)]; exact hL q (by omega) (fun e => h2 (Or.inl e))
                      · have z := p23.1 (q - 4) (by omega)
                        rw [show 4 + (q - 4) = q from by omega, Nat.zero_add] at z
                        rw [z]
                        show s3 9 _ = _
                        rw [h9s, h9 _ (by omega), show 4 + (q - 4) = q from by omega])) (fun q h1 h2 => p23.2 q (by omega)) (by decide) (by decide) (by decide) (by decide) (by decide) (by decide)
                  refine hX 400 325 _ _ ?_
                  refine And.intro rfl ?_
                  exact hQ _ _ (Or.inr ⟨by omega, hR.1, hR.2.1.trans hS0, hR.2.2.1.trans h27z.1, hR.2.2.2.1.trans h27z.2.1, hR.2.2.2.2.1.trans h27z.2.2⟩)
              · refine And.intro (fun c24 => ?_) (fun c24 => ?_)
                · refine hX 400 290 _ _ ?_
                  refine s_allBooks (σ := s3)   (fun r25 => ?_)
                  refine And.intro (rfl) (And.intro (⟨by omega, by omega⟩) ?_)
                  have hF := hF.pt (t := 22) (j := 2) (v := r25) (by decide) (by decide)
                  have hR := hR.pt (t := 22) (j := 2) (v := r25) (by decide) (by decide) (by decide) (by decide) (by decide)
                  refine And.intro (rfl) (And.intro (⟨by omega, by omega⟩) ?_)
                  intro v27 e27 l27 h27
                  have e27 : v27 = s3 2 4 := e27
                  refine And.intro (rfl) (And.intro (⟨by omega, by omega⟩) ?_)
                  have hF := hF.pt (t := 22) (j := 3) (v := v27) (by decide) (by decide)
                  have hR := hR.pt (t := 22) (j := 3) (v := v27) (by decide) (by decide) (by decide) (by decide) (by decide)
                  refine And.intro (by omega) ?_
                  have hF := hF.p (j := 54) (v := 1) (by decide)
                  have hR := hR.p0 (j := 54) (v := 1) (by decide) (by decide) (by decide)
                  refine And.intro (fun c30 => ?_) (fun c30 => ?_)
                  · refine hX 400 325 _ _ ?_
                    refine And.intro rfl ?_
                    exact hQ _ _ (Or.inr ⟨by omega, hR.1, hR.2.1.trans hS0, hR.2.2.1.trans h27z.1, hR.2.2.2.1.trans h27z.2.1, hR.2.2.2.2.1.trans h27z.2.2⟩)
                  · refine s_back (σ := (xput (xput (xput s3 22 2 r25) 22 3 v27) 0 54 1)) (fun σ31 f31 p31 => ?_)
                    have hF := hF.tr f31 (by decide) (by decide)
                    have hR := hR.g f31 (hp0.1.ag8 (fun q h1 h2 => by
                        by_cases c : q < 4
                        · rw [p31.2 q (by omega)]; exact hL q (by omega) (fun e => h2 (Or.inl e))
                        · have z := p31.1 (q - 4) (by omega)
                          rw [show 4 + (q - 4) = q from by omega, Nat.zero_add] at z
                          rw [z]
                          show s3 9 _ = _
                          rw [h9s, h9 _ (by omega), show 4 + (q - 4) = q from by omega])) (fun q h1 h2 => p31.2 q (by omega)) (by decide) (by decide) (by decide) (by decide) (by decide) (by decide)
                    refine hX 400 325 _ _ ?_
                    refine And.intro rfl ?_
                    exact hQ _ _ (Or.inr ⟨by omega, hR.1, hR.2.1.trans hS0, hR.2.2.1.trans h27z.1, hR.2.2.2.1.trans h27z.2.1, hR.2.2.2.2.1.trans h27z.2.2⟩)
                · have hr := hE9 i.toNat (by omega)
                  intro z32 t32 e32 l32 h32
                  try have w32 : t32 = 0 := by omega
                  refine And.intro (Nat.le_of_ble_eq_true rfl) ?_
                  show xw _ _ _ _ _ _ _ _ _ _ [xvr 0, xvi lives, xvi wrong, xvi i, xvi z32, u14_5] _ _
                  refine And.intro (rfl) (And.intro (⟨by omega, by omega⟩) ?_)
                  intro v33 e33 l33 h33
                  have e33 : v33 = s3 4 z32.toNat := e33
                  intro z34 t34 e34 l34 h34
                  try have w34 : t34 = 0 := by omega
                  refine And.intro (rfl) (And.intro (⟨by omega, by omega⟩) ?_)
                  intro v35 e35 l35 h35
                  have e35 : v35 = s3 4 z34.toNat := e35
                  intro z36 t36 e36 l36 h36
                  try have w36 : t36 = 0 := by omega
                  refine And.intro (rfl) (And.intro (⟨by omega, by omega⟩) ?_)
                  intro v37 e37 l37 h37
                  have e37 : v37 = s3 4 z36.toNat := e37
                  rw [show 4 * i.toNat = z32.toNat from by omega, show z32.toNat + 1 = (z32 + 1).toNat from by omega, show z32.toNat + 2 = (z32 + 2).toNat from by omega] at hr
                  rw [← h4] at hr
                  rw [show (z32 + 1).toNat = z34.toNat from by omega, show (z32 + 2).toNat = z36.toNat from by omega] at hr
                  refine s_whyOf (σ := s3) (a := v33) (b := v35) (kind := v37) hR.1 (by omega) (by omega) (fun r38 p38 => ?_)
                  have p38 : (r38 = 0 ∧ s3 2 4 = v33 ∧ 1 ≤ s3 2 (60 + 13 * v33 + v37).toNat ∧ ¬ v33 = v35) ∨ 1 ≤ r38 := p38
                  refine And.intro (Nat.le_of_ble_eq_true rfl) ?_
                  show xw _ _ _ _ _ _ _ _ _ _ [xvr 0, xvi lives, xvi wrong, xvi i, xvi z32, xvi r38] _ _
                  have lp_202 : ∀ (why : Int), ((why = 0 ∧ s3 2 4 = v33 ∧ 1 ≤ s3 2 (60 + 13 * v33 + v37).toNat ∧ ¬ v33 = v35) ∨ 1 ≤ why) → X 202 [xvr 0, xvi lives, xvi wrong, xvi i, xvi z32, xvi why] s3 := by
                    intro why hv_202
                    refine hX 400 202 _ _ ?_
                    refine And.intro (fun c40 => ?_) (fun c40 => ?_)
                    · have lp_233 : ∀ (s4 : xS), (Fr [2, 4, 7, 8, 9, 22] [0, 2, 3, 4, 5, 11, 12, 13, 14, 15, 16, 17, 18, 24, 27, 52, 54] σ s4 ∧ RK s2 s4 ∧ s4 2 = s3 2 ∧ s4 4 = s3 4 ∧ s4 9 = s3 9 ∧ s4 0 52 = s3 0 52) → X 233 [xvr 0, xvi lives, xvi wrong, xvi i, xvi z32, xvi why] s4 := by
                        intro s4 hv_233
                        obtain ⟨hF, hR, k2, k4, k9, k52⟩ := hv_233
                        refine hX 400 233 _ _ ?_
                        refine And.intro (rfl) (And.intro (⟨by omega, by omega⟩) ?_)
                        intro v42 e42 l42 h42
                        have e42 : v42 = s4 4 z32.toNat := e42
                        have wv42 : v42 = v33 := by rw [e42, k4, e33, show z32.toNat = z32.toNat from by omega]
                        intro z43 t43 e43 l43 h43
                        try have w43 : t43 = 0 := by omega
                        refine And.intro (rfl) (And.intro (⟨by omega, by omega⟩) ?_)
                        intro v44 e44 l44 h44
                        have e44 : v44 = s4 4 z43.toNat := e44
                        have wv44 : v44 = v35 := by rw [e44, k4, e35, show z43.toNat = z34.toNat from by omega]
                        intro z45 t45 e45 l45 h45
                        try have w45 : t45 = 0 := by omega
                        refine And.intro (rfl) (And.intro (⟨by omega, by omega⟩) ?_)
                        intro v46 e46 l46 h46
                        have e46 : v46 = s4 4 z45.toNat := e46
                        have wv46 : v46 = v37 := by rw [e46, k4, e37, show z45.toNat = z36.toNat from by omega]
                        refine And.intro (fun c47 => ?_) (fun c47 => ?_)
                        · have hvo : s3 2 (60 + 13 * v42 + v46).toNat = s3 2 (60 + 13 * v33 + v37).toNat := by rw [wv42, wv46]
                          refine s_asks (σ := s4) (a := v42) (b := v44) (kind := v46) (lies := 0) (told := 0) (VG_iff.mp hR.1.1).1 (by rw [k2]; omega) (by rw [k2]; omega) (by rw [k2]; omega) (by omega) (by rw [k2]; omega) (by rw [k2]; omega) (fun r48 σ48 f48 p48 => ?_)
                          have hF := hF.tr f48 (by decide) (by decide)
                          have hR := hR.g f48 p48.1 p48.2 (by decide) (by decide) (by decide) (by decide) (by decide) (by decide)
                          have x111 : LPx (σ 2) (σ48 2) ∧ σ48 4 = s2 4 ∧ σ48 9 = s2 9 ∧ σ48 0 52 = s2 0 52 := ⟨hL.tr (by have q := p48.2; rw [k2] at q; exact q), ((f48.1 4 (by decide) (by decide)).trans k4).trans h4, ((f48.1 9 (by decide) (by decide)).trans k9).trans h9s, ((f48.2 52 (by decide)).trans k52).trans h52⟩
                          refine And.intro (rfl) (And.intro (⟨by omega, by omega⟩) ?_)
                          intro v49 e49 l49 h49
                          have e49 : v49 = σ48 22 1 := e49
                          intro z50 t50 e50 l50 h50
                          try have w50 : t50 = 0 := by omega
                          refine And.intro (rfl) (And.intro (⟨by omega, by omega⟩) ?_)
                          have hF := hF.pt (t := 22) (j := 1) (v := z50) (by decide) (by decide)
                          have hR := hR.pt (t := 22) (j := 1) (v := z50) (by decide) (by decide) (by decide) (by decide) (by decide)
                          refine hX 400 284 _ _ ?_
                          intro z52 t52 e52 l52 h52
                          try have w52 : t52 = 0 := by omega
                          show xw _ _ _ _ _ _ _ _ _ _ [xvr 0, xvi lives, xvi wrong, xvi z52, xvi z32, xvi why] _ _
                          exact ih_111 _ (show (30 - z52).toNat < m111 from by omega) wrong z52 (xvi z32) (xvi why) (xput σ48 22 1 z50) rfl ⟨hF, hR, x111.1, x111.2.1, x111.2.2.1, x111.2.2.2, by omega⟩
                        · have hvo : s3 2 (60 + 13 * v42 + v46).toNat = s3 2 (60 + 13 * v33 + v37).toNat := by rw [wv42, wv46]
                          refine s_asks (σ := s4) (a := v42) (b := v44) (kind := v46) (lies := 0) (told := 1) (VG_iff.mp hR.1.1).1 (by rw [k2]; omega) (by rw [k2]; omega) (by rw [k2]; omega) (by omega) (by rw [k2]; omega) (by rw [k2]; omega) (fun r53 σ53 f53 p53 => ?_)
                          have hF := hF.tr f53 (by decide) (by decide)
                          have hR := hR.g f53 p53.1 p53.2 (by decide) (by decide) (by decide) (by decide) (by decide) (by decide)
                          have x111 : LPx (σ 2) (σ53 2) ∧ σ53 4 = s2 4 ∧ σ53 9 = s2 9 ∧ σ53 0 52 = s2 0 52 := ⟨hL.tr (by have q := p53.2; rw [k2] at q; exact q), ((f53.1 4 (by decide) (by decide)).trans k4).trans h4, ((f53.1 9 (by decide) (by decide)).trans k9).trans h9s, ((f53.2 52 (by decide)).trans k52).trans h52⟩
                          refine And.intro (rfl) (And.intro (⟨by omega, by omega⟩) ?_)
                          intro v54 e54 l54 h54
                          have e54 : v54 = σ53 22 1 := e54
                          intro z55 t55 e55 l55 h55
                          try have w55 : t55 = 0 := by omega
                          refine And.intro (rfl) (And.intro (⟨by omega, by omega⟩) ?_)
                          have hF := hF.pt (t := 22) (j := 1) (v := z55) (by decide) (by decide)
                          have hR := hR.pt (t := 22) (j := 1) (v := z55) (by decide) (by decide) (by decide) (by decide) (by decide)
                          refine hX 400 284 _ _ ?_
                          intro z57 t57 e57 l57 h57
                          try have w57 : t57 = 0 := by omega
                          show xw _ _ _ _ _ _ _ _ _ _ [xvr 0, xvi lives, xvi wrong, xvi z57, xvi z32, xvi why] _ _
                          exact ih_111 _ (show (30 - z57).toNat < m111 from by omega) wrong z57 (xvi z32) (xvi why) (xput σ53 22 1 z55) rfl ⟨hF, hR, x111.1, x111.2.1, x111.2.2.1, x111.2.2.2, by omega⟩
                      refine And.intro (fun c58 => ?_) (fun c58 => ?_)
                      · exact lp_233 s3 ⟨hF, hR, rfl, rfl, rfl, rfl⟩
                      · refine And.intro (fun c59 => ?_) (fun c59 => ?_)
                        · exact lp_233 s3 ⟨hF, hR, rfl, rfl, rfl, rfl⟩
                        · refine s_keep (σ := s3) hR.1 (fun σ60 f60 p60 => ?_)
                          have hF := hF.tr f60 (by decide) (by decide)
                          have hR := hR.keep f60 p60
                          have x233 : Fr [2, 4, 7, 8, 9, 22] [0, 2, 3, 4, 5, 11, 12, 13, 14, 15, 16, 17, 18, 24, 27, 52, 54] σ σ60 ∧ RK s2 σ60 ∧ σ60 2 = s3 2 ∧ σ60 4 = s3 4 ∧ σ60 9 = s3 9 ∧ σ60 0 52 = s3 0 52 := ⟨hF, hR, f60.1 2 (by decide) (by decide), f60.1 4 (by decide) (by decide), f60.1 9 (by decide) (by decide), f60.2 52 (by decide)⟩
                          exact lp_233 σ60 x233
                    · refine And.intro (rfl) (And.intro (⟨by omega, by omega⟩) ?_)
                      have hF := hF.pt (t := 22) (j := 0) (v := why) (by decide) (by decide)
                      have hR := hR.pt (t := 22) (j := 0) (v := why) (by decide) (by decide) (by decide) (by decide) (by decide)
                      refine And.intro (Nat.le_of_ble_eq_true rfl) ?_
                      show xw _ _ _ _ _ _ _ _ _ _ [xvr 0, xvi lives, xvi i, xvi i, xvi z32, xvi why] _ _
                      refine hX 400 284 _ _ ?_
                      intro z62 t62 e62 l62 h62
                      try have w62 : t62 = 0 := by omega
                      show xw _ _ _ _ _ _ _ _ _ _ [xvr 0, xvi lives, xvi i, xvi z62, xvi z32, xvi why] _ _
                      exact ih_111 _ (show (30 - z62).toNat < m111 from by omega) i z62 (xvi z32) (xvi why) (xput s3 22 0 why) rfl ⟨hF, hR, hL, h4, h9s, h52, by omega⟩
                  refine And.intro (fun c63 => ?_) (fun c63 => ?_)
                  · exact lp_202 r38 (show (r38 = 0 ∧ s3 2 4 = v33 ∧ 1 ≤ s3 2 (60 + 13 * v33 + v37).toNat ∧ ¬ v33 = v35) ∨ 1 ≤ r38 from by first | trivial | omega | (refine ⟨by assumption, ?_⟩; omega) | (refine ⟨?_, ?_⟩ <;> omega))
                  · intro z64 t64 e64 l64 h64
                    try have w64 : t64 = 0 := by omega
                    refine And.intro (rfl) (And.intro (⟨by omega, by omega⟩) ?_)
                    intro v65 e65 l65 h65
                    have e65 : v65 = s3 4 z64.toNat := e65
                    have wv65 : v65 = v35 := by rw [e65, e35, show z64.toNat = z34.toNat from by omega]
                    intro z66 t66 e66 l66 h66
                    try have w66 : t66 = 0 := by omega
                    refine And.intro (rfl) (And.intro (⟨by omega, by omega⟩) ?_)
                    intro v67 e67 l67 h67
                    have e67 : v67 = s3 4 z66.toNat := e67
                    have wv67 : v67 = v37 := by rw [e67, e37, show z66.toNat = z36.toNat from by omega]
                    refine s_hand0 (σ := s3) (k := v65) (kind := v67) hR.1 (by omega) (by omega) (fun r68 p68 => ?_)
                    intro z69 t69 e69 l69 h69
                    try have w69 : t69 = 0 := by omega
                    refine And.intro (rfl) (And.intro (⟨by omega, by omega⟩) ?_)
                    intro v70 e70 l70 h70
                    have e70 : v70 = s3 4 z69.toNat := e70
                    refine And.intro (fun c71 => ?_) (fun c71 => ?_)
                    · exact lp_202 r38 (show (r38 = 0 ∧ s3 2 4 = v33 ∧ 1 ≤ s3 2 (60 + 13 * v33 + v37).toNat ∧ ¬ v33 = v35) ∨ 1 ≤ r38 from by first | trivial | omega | (refine ⟨by assumption, ?_⟩; omega) | (refine ⟨?_, ?_⟩ <;> omega))
                    · refine And.intro (Nat.le_of_ble_eq_true rfl) ?_
                      show xw _ _ _ _ _ _ _ _ _ _ [xvr 0, xvi lives, xvi wrong, xvi i, xvi z32, xvi 5] _ _
                      exact lp_202 5 (show (5 = 0 ∧ s3 2 4 = v33 ∧ 1 ≤ s3 2 (60 + 13 * v33 + v37).toNat ∧ ¬ v33 = v35) ∨ 1 ≤ 5 from by first | trivial | omega | (refine ⟨by assumption, ?_⟩; omega) | (refine ⟨?_, ?_⟩ <;> omega))
            exact lp_111 _ (-1) 0 (xvu) (xvu) s2 rfl ⟨hF, RK.rf hRt, (by show LPx (σ 2) (s2 2); rw [hS2]; exact LPx.rf), rfl, rfl, rfl, by omega⟩
          · refine And.intro (rfl) (And.intro (⟨by omega, by omega⟩) ?_)
            have hF := hF.pt (t := 22) (j := j.toNat) (v := 0) (by decide) (by decide)
            intro z73 t73 e73 l73 h73
            try have w73 : t73 = 0 := by omega
            show xw _ _ _ _ _ _ _ _ _ _ [xvr 0, xvi lives, xvi z73, xvu, xvu, xvu] _ _
            exact ih_89 _ (show (4 - z73).toNat < m89 from by omega) z73 (xput s2 22 j.toNat 0) rfl ⟨hF, hS2, hS8, hS27, hS0, hE9, h9, (show 0 ≤ z73 ∧ z73 ≤ 4 ∧ s2 0 52 ≤ 30 from by omega)⟩
        exact lp_89 _ 0 σ11 rfl ⟨hF, hS2, hS8, hS27, hS0, (by rw [kt4_11, k52_11]; exact hE), h9, by omega⟩
      · have hS2o := hS2
        refine s_eveningLine (σ := s1)  (show 0 ≤ s1 0 4 ∧ s1 0 4 ≤ s1 0 3 ∧ s1 0 3 ≤ 940 from by omega) (by omega) (by rw [hS2]; exact hp0.persons) (by rw [hS2]; exact hp0.kinds) (by rw [hS2]; exact hE) (fun r74 σ74 f74 p74 => ?_)
        have p74 : (r74 = 1 ∧ ER (σ74 4) (s1 2) ((s1 0 52) + 1) ∧ (s1 0 52) ≤ 29 ∧ σ74 0 3 = (s1 0 3) ∧ (s1 0 4) ≤ σ74 0 4 ∧ σ74 0 4 ≤ σ74 0 3 ∧ (σ74 0 11 = 3 → (s1 0 4) < σ74 0 4)) ∨ (r74 = 0 ∧ (0 : Int) ≤ 0) := by
          rcases p74 with q | q
          · exact Or.inl q
          · exact Or.inr ⟨q, by omega⟩
        have hF := hF.tr f74 (by decide) (by decide)
        have hS2 : σ74 2 = σ 2 := (f74.1 2 (by decide) (by decide)).trans hS2
        have hS8 : σ74 8 = σ 8 := (f74.1 8 (by decide) (by decide)).trans hS8
        have hS27 : σ74 0 27 = σ 0 27 := (f74.2 27 (by decide)).trans hS27
        have hS0 : σ74 0 2 = 0 := (f74.2 2 (by decide)).trans hS0
        have k52_74 : σ74 0 52 = s1 0 52 := f74.2 52 (by decide)
        refine And.intro (fun c75 => ?_) (fun c75 => ?_)
        · replace p74 : (0 : Int) ≤ 0 := by
            rcases p74 with q | q
            · exact absurd q.1 (by omega)
            · exact q.2
          refine hX 400 62 _ _ ?_
          intro v76 e76 l76 h76
          have e76 : v76 = σ74 0 16 := e76
          intro z77 t77 e77 l77 h77
          try have w77 : t77 = 0 := by omega
          refine And.intro rfl ?_
          exact hQ _ _ (Or.inr ⟨by omega, RZ.fe hp0 hF hS2 hS8 hS27 (by decide) (by decide) (by decide) hS0⟩)
        · replace p74 : ER (σ74 4) (s1 2) ((s1 0 52) + 1) ∧ (s1 0 52) ≤ 29 ∧ σ74 0 3 = (s1 0 3) ∧ (s1 0 4) ≤ σ74 0 4 ∧ σ74 0 4 ≤ σ74 0 3 ∧ (σ74 0 11 = 3 → (s1 0 4) < σ74 0 4) := by
            rcases p74 with q | q
            · exact q.2
            · exact absurd q.1 (by omega)
          refine s_sign (σ := σ74) (c := 59) (show 0 ≤ σ74 0 4 ∧ σ74 0 4 ≤ σ74 0 3 ∧ σ74 0 3 ≤ 940 from by omega) (fun r78 σ78 f78 p78 => ?_)
          have p78 : (r78 = 1 ∧ (σ74 0 11) = 3 ∧ (σ74 0 14) = 59 ∧ (σ78 0 3 = (σ74 0 3) ∧ (σ74 0 4) ≤ σ78 0 4 ∧ σ78 0 4 ≤ σ78 0 3 ∧ (0 ≤ σ78 0 11 ∧ σ78 0 11 ≤ 4) ∧ (1 ≤ σ78 0 11 ∧ σ78 0 11 ≤ 3 → (σ74 0 4) < σ78 0 4 ∧ 0 ≤ σ78 0 14))) ∨ (r78 = 0 ∧ (0 : Int) ≤ 0) := by
            rcases p78 with q | q
            · exact Or.inl q
            · exact Or.inr ⟨q, by omega⟩
          have hF := hF.tr f78 (by decide) (by decide)
          have hS2 : σ78 2 = σ 2 := (f78.1 2 (by decide) (by decide)).trans hS2
          have hS8 : σ78 8 = σ 8 := (f78.1 8 (by decide) (by decide)).trans hS8
          have hS27 : σ78 0 27 = σ 0 27 := (f78.2 27 (by decide)).trans hS27
          have hS0 : σ78 0 2 = 0 := (f78.2 2 (by decide)).trans hS0
          have kt4_78 : σ78 4 = σ74 4 := f78.1 4 (by decide) (by decide)
          have k52_78 : σ78 0 52 = σ74 0 52 := f78.2 52 (by decide)
          have hE2 : ER (σ78 4) (σ 2) (s1 0 52 + 1) := by rw [kt4_78]; have q := p74.1; rw [hS2o] at q; exact q
          refine And.intro (fun c79 => ?_) (fun c79 => ?_)
          · replace p78 : (σ74 0 11) = 3 ∧ (σ74 0 14) = 59 ∧ (σ78 0 3 = (σ74 0 3) ∧ (σ74 0 4) ≤ σ78 0 4 ∧ σ78 0 4 ≤ σ78 0 3 ∧ (0 ≤ σ78 0 11 ∧ σ78 0 11 ≤ 4) ∧ (1 ≤ σ78 0 11 ∧ σ78 0 11 ≤ 3 → (σ74 0 4) < σ78 0 4 ∧ 0 ≤ σ78 0 14)) := by
              rcases p78 with q | q
              · exact q.2
              · exact absurd q.1 (by omega)
            intro v80 e80 l80 h80
            have e80 : v80 = σ78 0 52 := e80
            intro z81 t81 e81 l81 h81
            try have w81 : t81 = 0 := by omega
            have hF := hF.p (j := 52) (v := z81) (by decide)
            exact ih_39 _ (show (940 - (σ78 0 4)).toNat < m39 from by omega) (xput σ78 0 52 z81) rfl ⟨hF, hS2, hS8, hS27, hS0, (show ER (σ78 4) (σ 2) z81 from by rw [show z81 = s1 0 52 + 1 from by omega]; exact hE2), (show (0 ≤ σ78 0 4 ∧ σ78 0 4 ≤ σ78 0 3 ∧ σ78 0 3 ≤ 940) ∧ 0 ≤ z81 ∧ z81 ≤ 30 from by omega)⟩
          · replace p78 : (0 : Int) ≤ 0 := by
              rcases p78 with q | q
              · exact absurd q.1 (by omega)
              · exact q.2
            refine hX 400 62 _ _ ?_
            intro v83 e83 l83 h83
            have e83 : v83 = σ78 0 16 := e83
            intro z84 t84 e84 l84 h84
            try have w84 : t84 = 0 := by omega
            refine And.intro rfl ?_
            exact hQ _ _ (Or.inr ⟨by omega, RZ.fe hp0 hF hS2 hS8 hS27 (by decide) (by decide) (by decide) hS0⟩)
    exact lp_39 _ σ7 rfl ⟨hF, hS2, hS8, hS27, hS0, ER.z (by omega), by omega⟩
  · replace p2 : (lives < 0 ∨ 1 < lives) := by
      rcases p2 with q | q
      · exact absurd q.1 (by omega)
      · exact q.2
    refine And.intro rfl ?_
    exact hQ _ _ (Or.inl ⟨⟨by omega, rfl⟩, (RK.rf hp0).p0 (by decide) (by decide) (by decide)⟩)
