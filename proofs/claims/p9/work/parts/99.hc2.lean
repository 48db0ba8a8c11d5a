set_option maxHeartbeats 4000000 in
set_option maxRecDepth 100000 in
theorem sX3_barAllF {σ : xS} {p kind : Int} {Q : Option xV → xS → Prop} (hp0 : 0 ≤ p ∧ p ≤ 5) (hp1 : 0 ≤ kind ∧ kind ≤ 12) (hp2 : 0 ≤ σ 9 2 ∧ σ 9 2 ≤ 52) (hp3 : ∀ i : Nat, (i : Int) < σ 9 2 → 0 ≤ σ 11 i ∧ σ 11 i < 49152) (hQ : ∀ σ' : xS, Fr [11] [] σ σ' → ((∀ j : Nat, (j : Int) < σ 9 2 → σ' 11 j = if ow (σ 11 j) = p then orF (σ 11 j) kind else σ 11 j) ∧ (∀ j : Nat, σ 9 2 ≤ (j : Int) → σ' 11 j = σ 11 j)) → Q none σ') : xT kX3_barAll [xvr 9, xvi p, xvi kind] σ Q := by
  refine ⟨Nat.le_of_ble_eq_true rfl, fun X hX => ?_⟩
  show X 0 [xvr 9, xvi p, xvi kind, xvu] σ
  have hF : Fr [11] [] σ σ := Fr.rf
  refine hX 400 0 _ _ ?_
  have hK := hp3
  refine And.intro (Nat.le_of_ble_eq_true rfl) ?_
  show xw _ _ _ _ _ _ _ _ _ _ [xvr 9, xvi p, xvi kind, xvi 0] _ _
  have lp_2 : ∀ (m2 : Nat) (i : Int) (s1 : xS), ((52 - i).toNat) = m2 → (Fr [11] [] σ s1 ∧ (0 ≤ i ∧ i ≤ σ 9 2) ∧ (∀ j : Nat, (j : Int) < i → s1 11 j = if ow (σ 11 j) = p then orF (σ 11 j) kind else σ 11 j) ∧ (∀ j : Nat, i ≤ (j : Int) → s1 11 j = σ 11 j)) → X 2 [xvr 9, xvi p, xvi kind, xvi i] s1 := by
    intro m2
    induction m2 using Nat.strongRecOn with
    | _ m2 ih_2 =>
    intro i s1 hm_2 hv_2
    obtain ⟨hF, hv_2, hlo, hhi⟩ := hv_2
    have h29 : s1 9 2 = σ 9 2 := congrFun (hF.1 9 (by decide) (by decide)) 2
    refine hX 400 2 _ _ ?_
    intro v2 e2 l2 h2
    have e2 : v2 = s1 9 2 := e2
    refine And.intro (fun c3 => ?_) (fun c3 => ?_)
    · refine And.intro rfl (And.intro rfl ?_)
      exact hQ _ hF ⟨(fun j hj => hlo j (by omega)), (fun j hj => hhi j (by omega))⟩
    · have lp_35 : ∀ (s3 : xS), (Fr [11] [] σ s3 ∧ s3 9 2 = σ 9 2 ∧ (∀ j : Nat, (j : Int) < i + 1 → s3 11 j = if ow (σ 11 j) = p then orF (σ 11 j) kind else σ 11 j) ∧ (∀ j : Nat, i + 1 ≤ (j : Int) → s3 11 j = σ 11 j)) → X 35 [xvr 9, xvi p, xvi kind, xvi i] s3 := by
        intro s3 hv_35
        obtain ⟨hF, h29, hlo3, hhi3⟩ := hv_35
        refine hX 400 35 _ _ ?_
        intro z5 t5 e5 l5 h5
        try have w5 : t5 = 0 := by omega
        show xw _ _ _ _ _ _ _ _ _ _ [xvr 9, xvi p, xvi kind, xvi z5] _ _
        exact ih_2 _ (show (52 - z5).toNat < m2 from by omega) z5 s3 rfl ⟨hF, by omega, (fun j hj => hlo3 j (by omega)), (fun j hj => hhi3 j (by omega))⟩
      refine And.intro (rfl) (And.intro (⟨by omega, by omega⟩) ?_)
      intro v6 e6 l6 h6
      have e6 : v6 = s1 11 i.toNat := e6
      have hb_1 : 0 ≤ v6 ∧ v6 < 49152 := by rw [e6]; rw [hhi _ (by omega)]; exact hK _ (by omega)
      intro z7 e7 l7 h7
      have ho0 : z7 = ow (s1 11 i.toNat) := by rw [← e6]; exact xown (by omega) e7
      have ho : z7 = ow (σ 11 i.toNat) := by rw [← hhi _ (by omega)]; exact ho0
      refine And.intro (fun c8 => ?_) (fun c8 => ?_)
      · exact lp_35 s1 ⟨hF, h29, (fun j hj => by
                  by_cases e : (j : Int) = i
                  · rw [hhi j (by omega), show j = i.toNat from by omega, if_neg (by omega)]
                  · exact hlo j (by omega)), (fun j hj => hhi j (by omega))⟩
      · refine And.intro (rfl) (And.intro (⟨by omega, by omega⟩) ?_)
        intro v9 e9 l9 h9
        have e9 : v9 = s1 11 i.toNat := e9
        intro z10 e10 l10 h10
        -- or
        intro z11 e11 l11 h11
        refine And.intro (rfl) (And.intro (⟨by omega, by omega⟩) ?_)
        have hF := hF.pt (t := 11) (j := i.toNat) (v := z11) (by decide) (by decide)
        exact lp_35 (xput s1 11 i.toNat z11) ⟨hF, h29, (fun j hj => by
                  show xput s1 11 i.toNat z11 11 j = _
                  by_cases e : (j : Int) = i
                  · rw [show j = i.toNat from by omega, xput_s, if_pos (by rw [show i.toNat = i.toNat from by omega]; omega)]
                    exact xorb (by have := hK i.toNat (by omega); rw [show i.toNat = i.toNat from by omega]; omega) (by omega) e10 (by rw [e11, e9, hhi _ (by omega)])
                  · rw [xput_o (by omega)]; exact hlo j (by omega)), (fun j hj => by
                  show xput s1 11 i.toNat z11 11 j = _
                  rw [xput_o (by omega)]; exact hhi j (by omega))⟩
  exact lp_2 _ 0 σ rfl ⟨hF, by omega, (fun j hj => by omega), (fun _ _ => rfl)⟩

