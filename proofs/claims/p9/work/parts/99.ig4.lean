set_option maxHeartbeats 4000000 in
set_option maxRecDepth 100000 in
theorem s_openK {σ : xS} {Q : Option xV → xS → Prop} (hI : RI σ) (hQ : ∀ r : Int, ∀ σ' : xS, RKs σ σ' → Q (some (xvi r)) σ') : xT kX11_open [xvr 0] σ Q := by
  refine ⟨Nat.le_of_ble_eq_true rfl, fun X hX => ?_⟩
  show X 0 [xvr 0] σ
  have hI : RKs σ σ := RKs.rf hI
  have hb0 := hI.1.kinds; have hb1 := hI.1.persons
  refine hX 400 0 _ _ ?_
  have hI := hI.p0 (j := 0) (v := 0) (by decide) (by decide) (by decide)
  refine s_openOf (σ := (xput σ 0 0 0)) hI.1 (fun r2 σ2 f2 => ?_)
  have hI := hI.fr f2 (by decide) (by decide) (by decide) (by decide) (by decide) (by decide) (by decide)
  refine And.intro rfl ?_
  exact hQ _ _ hI 
set_option maxHeartbeats 4000000 in
set_option maxRecDepth 100000 in
theorem s_firstK {σ : xS} {Q : Option xV → xS → Prop} (hI : RI σ) (hQ : ∀ r : Int, ∀ σ' : xS, RKs σ σ' → Q (some (xvi r)) σ') : xT kX11_first [xvr 0] σ Q := by
  refine ⟨Nat.le_of_ble_eq_true rfl, fun X hX => ?_⟩
  show X 0 [xvr 0] σ
  have hI : RKs σ σ := RKs.rf hI
  have hb0 := hI.1.kinds; have hb1 := hI.1.persons
  refine hX 400 0 _ _ ?_
  have hI := hI.p0 (j := 0) (v := 0) (by decide) (by decide) (by decide)
  refine s_openOf (σ := (xput σ 0 0 0)) hI.1 (fun r2 σ2 f2 => ?_)
  have hI := hI.fr f2 (by decide) (by decide) (by decide) (by decide) (by decide) (by decide) (by decide)
  refine And.intro (fun c3 => ?_) (fun c3 => ?_)
  · intro v4 e4 l4 h4
    have e4 : v4 = σ2 0 47 := e4
    refine And.intro rfl ?_
    exact hQ _ _ hI 
  · refine And.intro rfl ?_
    exact hQ _ _ hI 

set_option maxHeartbeats 4000000 in
set_option maxRecDepth 100000 in
theorem s_saidK {σ : xS} {k : Int} {Q : Option xV → xS → Prop} (hI : RI σ) (hQ : ∀ r : Int, ∀ σ' : xS, RKs σ σ' → Q (some (xvi r)) σ') : xT kX11_said [xvr 0, xvi k] σ Q := by
  refine ⟨Nat.le_of_ble_eq_true rfl, fun X hX => ?_⟩
  show X 0 [xvr 0, xvi k, xvu, xvu] σ
  have hI : RKs σ σ := RKs.rf hI
  have hb0 := hI.1.kinds; have hb1 := hI.1.persons
  refine hX 400 0 _ _ ?_
  have hco := hI.1.2.1.1
  have hI := hI.p0 (j := 0) (v := 0) (by decide) (by decide) (by decide)
  refine And.intro (rfl) (And.intro (⟨by omega, by omega⟩) ?_)
  intro v2 e2 l2 h2
  have e2 : v2 = σ 2 584 := e2
  refine And.intro (fun c3 => ?_) (fun c3 => ?_)
  · refine hX 400 21 _ _ ?_
    refine And.intro rfl ?_
    exact hQ _ _ hI 
  · refine And.intro (fun c4 => ?_) (fun c4 => ?_)
    · refine And.intro (Nat.le_of_ble_eq_true rfl) ?_
      show xw _ _ _ _ _ _ _ _ _ _ [xvr 0, xvi k, xvi 0, xvu] _ _
      refine And.intro (Nat.le_of_ble_eq_true rfl) ?_
      show xw _ _ _ _ _ _ _ _ _ _ [xvr 0, xvi k, xvi 0, xvi 0] _ _
      have lp_27 : ∀ (m27 : Nat) (n : Int) (i : Int) (s1 : xS), ((13 - i).toNat) = m27 → (RKs σ s1 ∧ s1 2 584 = σ 2 584 ∧ (0 ≤ i ∧ i ≤ 13)) → X 27 [xvr 0, xvi k, xvi n, xvi i] s1 := by
        intro m27
        induction m27 using Nat.strongRecOn with
        | _ m27 ih_27 =>
        intro n i s1 hm_27 hv_27
        obtain ⟨hI, h584, hv_27⟩ := hv_27
        have hk0 := hI.1.kinds
        refine hX 400 27 _ _ ?_
        refine And.intro (rfl) (And.intro (⟨by omega, by omega⟩) ?_)
        intro v6 e6 l6 h6
        have e6 : v6 = s1 2 0 := e6
        have rv6 : 0 ≤ (s1 2 0) ∧ (s1 2 0) ≤ 13 := hI.1.kinds
        refine And.intro (fun c7 => ?_) (fun c7 => ?_)
        · refine And.intro (fun c8 => ?_) (fun c8 => ?_)
          · refine And.intro rfl ?_
            exact hQ _ _ hI 
          · refine And.intro rfl ?_
            exact hQ _ _ hI 
        · refine s_isSaid (σ := s1) (k := i) hI.1 (by omega) (by omega) (fun r9 σ9 f9 p9 => ?_)
          have hI := hI.fr f9 (by decide) (by decide) (by decide) (by decide) (by decide) (by decide) (by decide)
          have w584 : σ9 2 584 = σ 2 584 := (congrFun (f9.1 2 (by decide) (by decide)) 584).trans h584
          refine And.intro (fun c10 => ?_) (fun c10 => ?_)
          · refine And.intro (fun c11 => ?_) (fun c11 => ?_)
            · intro z12 t12 e12 l12 h12
              try have w12 : t12 = 0 := by omega
              show xw _ _ _ _ _ _ _ _ _ _ [xvr 0, xvi k, xvi z12, xvi i] _ _
              refine hX 400 58 _ _ ?_
              intro z13 t13 e13 l13 h13
              try have w13 : t13 = 0 := by omega
              show xw _ _ _ _ _ _ _ _ _ _ [xvr 0, xvi k, xvi z12, xvi z13] _ _
              exact ih_27 _ (show (13 - z13).toNat < m27 from by omega) z12 z13 σ9 rfl ⟨hI, w584, by omega⟩
            · refine And.intro rfl ?_
              exact hQ _ _ hI 
          · refine hX 400 58 _ _ ?_
            intro z14 t14 e14 l14 h14
            try have w14 : t14 = 0 := by omega
            show xw _ _ _ _ _ _ _ _ _ _ [xvr 0, xvi k, xvi n, xvi z14] _ _
            exact ih_27 _ (show (13 - z14).toNat < m27 from by omega) n z14 σ9 rfl ⟨hI, w584, by omega⟩
      exact lp_27 _ 0 0 (xput σ 0 0 0) rfl ⟨hI, rfl, by omega⟩
    · refine hX 400 21 _ _ ?_
      refine And.intro rfl ?_
      exact hQ _ _ hI 

def RZS (σ σ' : xS) : Prop := RZ σ σ' ∧ Fr [2, 4, 23] [0, 2, 3, 4, 5, 11, 12, 13, 14, 15, 16, 17, 56, 57, 58, 59, 60] σ σ' ∧ ∀ j : Nat, j < 584 → σ' 2 j = σ 2 j
theorem RZS.co {σ σ' : xS} (h : RI σ) (hF : Fr [2, 4, 23] [0, 2, 3, 4, 5, 11, 12, 13, 14, 15, 16, 17, 56, 57, 58, 59, 60] σ σ') (hO : ∀ j : Nat, j < 584 → σ' 2 j = σ 2 j) (hC : CO (σ' 2)) (t8 : 8 ∉ [2, 4, 23] := by decide) (t25 : 25 ∉ [2, 4, 23] := by decide) (t27 : 27 ∉ [2, 4, 23] := by decide) (b : 27 ∉ [0, 2, 3, 4, 5, 11, 12, 13, 14, 15, 16, 17, 56, 57, 58, 59, 60] := by decide) (c : 37 ∉ [0, 2, 3, 4, 5, 11, 12, 13, 14, 15, 16, 17, 56, 57, 58, 59, 60] := by decide) (hz : σ' 0 2 = 0) : RZS σ σ' := ⟨RZ.co h hF hO hC t8 t25 t27 b c hz, hF, hO⟩
