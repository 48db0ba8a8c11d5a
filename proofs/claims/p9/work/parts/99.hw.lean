/-! Playing on: who has the turn asks by his bent. -/
/-- what holds of a game between askings -/
def TV (f : Nat → Int) : Prop := VX f ∧ (f 2 = 0 ∨ f 2 = 1) ∧ (0 ≤ f 6 ∧ f 6 ≤ f 1) ∧ (f 4 = -1 ∨ ((0 ≤ f 4 ∧ f 4 < f 1 ∧ 0 < cd f (f 4).toNat) ∧ f 6 < f 1))
theorem TV.ask {f : Nat → Int} {a b kind : Nat} {lies : Int} (h : TV f) (ha : (a : Int) = f 4) (hb : (b : Int) < f 1) (hab : a ≠ b) (hk : kind < 13) (h4 : ¬ f 4 = -1) (h1 : 1 ≤ f (60 + 13 * a + kind)) : TV (askF f a b kind lies) ∧ ∀ i, i < 4 ∨ 571 ≤ i → askF f a b kind lies i = f i := by
  obtain ⟨v, ag, h6, ht⟩ := h
  have ht : (0 ≤ f 4 ∧ f 4 < f 1 ∧ 0 < cd f (f 4).toNat) ∧ f 6 < f 1 := by
    rcases ht with q | q
    · exact absurd q h4
    · exact q
  have m := v.1.1.2.1
  obtain ⟨vm, om, o6, oN⟩ := v.akm (a := a) (b := b) (kind := kind) (lies := lies) (by omega) (by omega) hab hk (by omega) h1 (by omega)
  have m1 := om 1 (by omega)
  obtain ⟨vf, of, ot⟩ := vm.fin (p := akN f a b kind lies) (by omega)
  rw [askF_m]
  have f1 := of 1 (by omega) (by omega)
  have f6 := of 6 (by omega) (by omega)
  refine ⟨⟨vf, by rw [of 2 (by omega) (by omega), om 2 (by omega)]; exact ag, by omega, ?_⟩, fun i hi => (of i (by omega) (by omega)).trans (om i (by omega))⟩
  rcases ot with q | q
  · exact Or.inl q
  · exact Or.inr ⟨⟨q.1, by omega, q.2.2.1⟩, by omega⟩
/-- one asking by the asker's bent -/
noncomputable def bto (f R : Nat → Int) : Int := bentF f (f 4).toNat (R (f 4).toNat)
noncomputable def stA (f R : Nat → Int) : Nat → Int := askF f (f 4).toNat (bto f R / 100).toNat (bto f R % 100).toNat 0
noncomputable def stR (f R : Nat → Int) : Nat → Int := askR f (f 4).toNat (bto f R / 100).toNat (bto f R % 100).toNat 0
theorem TV.bok {f R : Nat → Int} {r : Int} (h : TV f) (h2 : 2 ≤ f 1) (h4 : ¬ f 4 = -1) (hr : BNT f (f 4).toNat (R (f 4).toNat) r) : r = bto f R ∧ (0 ≤ r / 100 ∧ r / 100 < f 1 ∧ ¬ r / 100 = f 4) ∧ (0 ≤ r % 100 ∧ r % 100 ≤ 12) ∧ 1 ≤ f (60 + 13 * (f 4).toNat + (r % 100).toNat) := by
  obtain ⟨v, _, _, ht⟩ := h
  have ht : (0 ≤ f 4 ∧ f 4 < f 1 ∧ 0 < cd f (f 4).toNat) ∧ f 6 < f 1 := by
    rcases ht with q | q
    · exact absurd q h4
    · exact q
  have hn : ¬ r = -1 := fun e => by
    rcases id hr with ⟨_, q⟩ | ⟨_, q⟩
    · omega
    · rcases q with ⟨_, q, k, q1, q2, q3⟩ | ⟨_, _, q⟩ | ⟨_, k, q1, q2⟩
      · have := q1.1; have := q2.1; omega
      · exact q e
      · have w := nwF_r (f := f) (p := (((f 4).toNat : Nat) : Int)) (by omega) (by omega)
        rcases q1 with ⟨_, y2, y3⟩ | ⟨_, y2⟩
        · have := y2.1; omega
        · have := y2.1; omega
  obtain ⟨a, b, c⟩ := hr.ok v.1 (by omega) hn
  exact ⟨hr.e, ⟨a.1, a.2.1, by have := a.2.2; omega⟩, b, c⟩
noncomputable def plyN (f R : Nat → Int) : Nat → Nat → Int
  | 0 => f
  | n + 1 => if f 4 = -1 then f else plyN (stA f R) R n
noncomputable def plyD (f R : Nat → Int) : Nat → Int
  | 0 => 0
  | n + 1 => if f 4 = -1 then 0 else 1 + plyD (stA f R) R n
noncomputable def plyR (r f R : Nat → Int) : Nat → Nat → Int
  | 0 => r
  | n + 1 => if f 4 = -1 then r else plyR (stR f R) (stA f R) R n
theorem plyN_s {f R : Nat → Int} {n : Nat} : plyN f R (n + 1) = if f 4 = -1 then f else plyN (stA f R) R n := rfl
theorem plyD_s {f R : Nat → Int} {n : Nat} : plyD f R (n + 1) = if f 4 = -1 then 0 else 1 + plyD (stA f R) R n := rfl
theorem plyR_s {r f R : Nat → Int} {n : Nat} : plyR r f R (n + 1) = if f 4 = -1 then r else plyR (stR f R) (stA f R) R n := rfl
theorem ply_e {r f R : Nat → Int} {n : Nat} (h : n = 0 ∨ f 4 = -1) : plyN f R n = f ∧ plyD f R n = 0 ∧ plyR r f R n = r := by
  cases n with
  | zero => exact ⟨rfl, rfl, rfl⟩
  | succ n =>
    have h : f 4 = -1 := by omega
    exact ⟨by rw [plyN_s, if_pos h], by rw [plyD_s, if_pos h], by rw [plyR_s, if_pos h]⟩
set_option maxHeartbeats 4000000 in
set_option maxRecDepth 100000 in
theorem s_playsF {R : Nat → Int} {σ : xS} {n told : Int} {Q : Option xV → xS → Prop} (hp0 : TV (σ 2)) (hp1 : 2 ≤ σ 2 1) (hp2 : 0 ≤ n ∧ n ≤ 400) (hp3 : ∀ k : Nat, (k : Int) < σ 2 1 → σ 20 k = R k) (hQ : ∀ r : Int, ∀ σ' : xS, Fr [2, 7] [24] σ σ' → ((TV (σ' 2) ∧ (∀ i : Nat, i < 4 ∨ 571 ≤ i → σ' 2 i = σ 2 i) ∧ (0 ≤ r ∧ r ≤ n)) ∧ σ' 2 = plyN (σ 2) R n.toNat ∧ r = plyD (σ 2) R n.toNat ∧ ((told = 0 ∧ σ' 7 = σ 7 ∧ σ' 0 24 = σ 0 24) ∨ (¬ told = 0 ∧ (∀ i : Nat, i < 8 → σ' 7 i = plyR (σ 7) (σ 2) R n.toNat i) ∧ ((r = 0 ∧ σ' 0 24 = σ 0 24) ∨ (0 < r ∧ σ' 0 24 = 1))))) → Q (some (xvi r)) σ') : xT kX11_plays [xvr 0, xvi n, xvi told] σ Q := by
  refine ⟨Nat.le_of_ble_eq_true rfl, fun X hX => ?_⟩
  show X 0 [xvr 0, xvi n, xvi told, xvu, xvu, xvu] σ
  have hF : Fr [2, 7] [24] σ σ := Fr.rf
  refine hX 400 0 _ _ ?_
  refine And.intro (Nat.le_of_ble_eq_true rfl) ?_
  show xw _ _ _ _ _ _ _ _ _ _ [xvr 0, xvi n, xvi told, xvi 0, xvu, xvu] _ _
  have lp_2 : ∀ (m2 : Nat) (done : Int) (u1_4 : xV) (u1_5 : xV) (s1 : xS), ((n - done).toNat) = m2 → (Fr [2, 7] [24] σ s1 ∧ (0 ≤ done ∧ done ≤ n) ∧ TV (s1 2) ∧ (∀ i : Nat, i < 4 ∨ 571 ≤ i → s1 2 i = σ 2 i) ∧ plyN (s1 2) R (n - done).toNat = plyN (σ 2) R n.toNat ∧ done + plyD (s1 2) R (n - done).toNat = plyD (σ 2) R n.toNat ∧ ((told = 0 ∧ s1 7 = σ 7 ∧ s1 0 24 = σ 0 24) ∨ (¬ told = 0 ∧ (∃ rp : Nat → Int, (∀ i : Nat, i < 8 → s1 7 i = rp i) ∧ plyR rp (s1 2) R (n - done).toNat = plyR (σ 7) (σ 2) R n.toNat) ∧ ((done = 0 ∧ s1 0 24 = σ 0 24) ∨ (0 < done ∧ s1 0 24 = 1))))) → X 2 [xvr 0, xvi n, xvi told, xvi done, u1_4, u1_5] s1 := by
    intro m2
    induction m2 using Nat.strongRecOn with
    | _ m2 ih_2 =>
    intro done u1_4 u1_5 s1 hm_2 hv_2
    obtain ⟨hF, hv_2, hT, hsA, hN, hD, hR⟩ := hv_2
    have hs1 := hsA 1 (by omega)
    have m1 := hp0.1.1.1.2.1
    have hT1 := hT.2.2.2
    have hT6 := hT.2.2.1
    refine hX 400 2 _ _ ?_
    refine And.intro (fun c2 => ?_) (fun c2 => ?_)
    · refine hX 400 65 _ _ ?_
      refine And.intro rfl ?_
      obtain ⟨g1, g2, _⟩ := ply_e (r := σ 7) (f := s1 2) (R := R) (n := (n - done).toNat) (by omega)
      refine hQ _ _ hF ⟨⟨hT, hsA, by omega⟩, by rw [← hN, g1], by rw [g2] at hD; omega, ?_⟩
      rcases hR with z | ⟨z1, ⟨rp, z2, z4⟩, z3⟩
      · exact Or.inl z
      · obtain ⟨_, _, g3⟩ := ply_e (r := rp) (f := s1 2) (R := R) (n := (n - done).toNat) (by omega)
        exact Or.inr ⟨z1, (fun i hi => by rw [← z4, g3]; exact z2 i hi), z3⟩
    · refine And.intro (rfl) (And.intro (⟨by omega, by omega⟩) ?_)
      intro v3 e3 l3 h3
      have e3 : v3 = s1 2 4 := e3
      refine And.intro (fun c4 => ?_) (fun c4 => ?_)
      · refine hX 400 65 _ _ ?_
        refine And.intro rfl ?_
        obtain ⟨g1, g2, _⟩ := ply_e (r := σ 7) (f := s1 2) (R := R) (n := (n - done).toNat) (by omega)
        refine hQ _ _ hF ⟨⟨hT, hsA, by omega⟩, by rw [← hN, g1], by rw [g2] at hD; omega, ?_⟩
        rcases hR with z | ⟨z1, ⟨rp, z2, z4⟩, z3⟩
        · exact Or.inl z
        · obtain ⟨_, _, g3⟩ := ply_e (r := rp) (f := s1 2) (R := R) (n := (n - done).toNat) (by omega)
          exact Or.inr ⟨z1, (fun i hi => by rw [← z4, g3]; exact z2 i hi), z3⟩
      · refine And.intro (rfl) (And.intro (⟨by omega, by omega⟩) ?_)
        intro v5 e5 l5 h5
        have e5 : v5 = s1 2 4 := e5
        refine And.intro (Nat.le_of_ble_eq_true rfl) ?_
        show xw _ _ _ _ _ _ _ _ _ _ [xvr 0, xvi n, xvi told, xvi done, xvi v5, u1_5] _ _
        refine And.intro (rfl) (And.intro (⟨by omega, by omega⟩) ?_)
        intro v6 e6 l6 h6
        have e6 : v6 = s1 20 v5.toNat := e6
        have hta : v5 = s1 2 4 := by omega
        have hrl : v6 = R (s1 2 4).toNat := by rw [e6, hF.1 20 (by decide) (by decide), show v5.toNat = (s1 2 4).toNat from by omega]; exact hp3 _ (by omega)
        refine s_bentOfF (σ := s1) (a := v5) (rule := v6) hT.1 (by omega) (fun r7 p7 => ?_)
        rw [show v5.toNat = (s1 2 4).toNat from by omega, hrl] at p7
        obtain ⟨hto, hb1, hb2, hb3⟩ := hT.bok (R := R) (by omega) (by omega) p7
        refine And.intro (Nat.le_of_ble_eq_true rfl) ?_
        show xw _ _ _ _ _ _ _ _ _ _ [xvr 0, xvi n, xvi told, xvi done, xvi v5, xvi r7] _ _
        refine And.intro (by omega) ?_
        intro z8 e8 f8 l8 h8
        replace f8 := f8 (by omega) (by omega)
        refine And.intro (by omega) ?_
        intro z9 e9 f9 l9 h9
        replace f9 := f9 (by omega) (by omega)
        have hbb : z8 = r7 / 100 := by omega
        have hkk : z9 = r7 % 100 := by omega
        refine s_asksF (σ := s1) (a := v5) (b := z8) (kind := z9) (lies := 0) (told := told) hT.1 (by omega) (by omega) (by omega) (by omega) (by omega) (by rw [show v5.toNat = (s1 2 4).toNat from by omega, hkk]; exact hb3) (Or.inl rfl) (fun r10 σ10 f10 p10 => ?_)
        rw [show v5.toNat = (s1 2 4).toNat from by omega, hbb, hkk, hto] at p10
        have hst : σ10 2 = stA (s1 2) R := p10.1
        obtain ⟨hT2, hO2⟩ := hT.ask (a := (s1 2 4).toNat) (b := (bto (s1 2) R / 100).toNat) (kind := (bto (s1 2) R % 100).toNat) (lies := 0) (by omega) (by rw [← hto]; omega) (by rw [← hto]; omega) (by rw [← hto]; omega) (by omega) (by rw [← hto]; exact hb3)
        have hT2 : TV (stA (s1 2) R) := hT2
        have hO21 : stA (s1 2) R 1 = s1 2 1 := hO2 1 (by omega)
        have hF := hF.tr f10 (by decide) (by decide)
        intro z11 t11 e11 l11 h11
        try have w11 : t11 = 0 := by omega
        show xw _ _ _ _ _ _ _ _ _ _ [xvr 0, xvi n, xvi told, xvi z11, xvi v5, xvi r7] _ _
        exact ih_2 _ (show (n - z11).toNat < m2 from by omega) z11 (xvi v5) (xvi r7) σ10 rfl (by
                    rw [show (n - done).toNat = (n - z11).toNat + 1 from by omega, plyN_s, if_neg (by omega)] at hN
                    rw [show (n - done).toNat = (n - z11).toNat + 1 from by omega, plyD_s, if_neg (by omega)] at hD
                    refine ⟨hF, by omega, by rw [hst]; exact hT2, (fun i hi => by rw [hst]; exact (hO2 i hi).trans (hsA i hi)), by rw [hst]; exact hN, by rw [hst]; omega, ?_⟩
                    rcases p10.2.2 with ⟨y1, y2, y3⟩ | ⟨y1, y2, y3⟩
                    · rcases hR with ⟨z1, z2, z3⟩ | ⟨z1, _⟩
                      · exact Or.inl ⟨z1, y2.trans z2, y3.trans z3⟩
                      · exact absurd y1 z1
                    · rcases hR with ⟨z1, _⟩ | ⟨z1, ⟨rp, z2, z4⟩, z3⟩
                      · exact absurd z1 y1
                      · rw [show (n - done).toNat = (n - z11).toNat + 1 from by omega, plyR_s, if_neg (by omega)] at z4
                        exact Or.inr ⟨z1, ⟨stR (s1 2) R, y3, by rw [hst]; exact z4⟩, Or.inr ⟨by omega, y2⟩⟩)
  exact lp_2 _ 0 (xvu) (xvu) σ rfl ⟨hF, by omega, hp0, (fun _ _ => rfl), by rw [Int.sub_zero], by rw [Int.sub_zero]; omega, by
        by_cases c : told = 0
        · exact Or.inl ⟨c, rfl, rfl⟩
        · exact Or.inr ⟨c, ⟨σ 7, (fun _ _ => rfl), by rw [Int.sub_zero]⟩, Or.inl ⟨rfl, rfl⟩⟩⟩

