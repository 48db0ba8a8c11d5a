set_option maxHeartbeats 4000000 in
set_option maxRecDepth 100000 in
theorem mvX5_keepF (l : Launch) (D : va_G) (yv : Nat → ClassId) : vMt l D yv yX5_keep cX5_keep 2 none 3 (fun _ => 13) (fun _ => 331) keepEF := by
  intro a ρ w sz as σ Q hE hLK hσ has
  obtain ⟨g, f, rfl, hg, hPV, hJ, hf, hQ⟩ := hE
  refine vEnter (N := 194) (sh := vsh w) (by decide +kernel) (Nat.le_of_ble_eq_true rfl) hσ has (fun p e s m below meth c hsz hXX hC => ?_)
  generalize va_A (xws a yv ρ 194 (vsh w) σ) sz = A at hC ⊢
  show XA (0, 0) p l e (vroom 3 13 331) s m _ below meth c D yv a ρ 194 (vsh w) A 2 _ 0 [xvr 39, xvr g] [] σ
  obtain ⟨⟨ht0, ht7⟩, hs8, hkg⟩ := hPV
  obtain ⟨i, hi, htop⟩ : ∃ i : Nat, i < 8 ∧ σ 39 1 = i := ⟨(σ 39 1).toNat, by omega, by omega⟩
  have hgs : ∀ (w : Nat → Bool) u, xvr u ∈ [xvr 39, xvr g] → (vsh w u).isSome = true := by
    intro w u hu
    simp only [List.mem_cons, List.not_mem_nil, or_false] at hu
    rcases hu with hu | hu
    · cases hu; rw [sh39]; rfl
    · cases hu; rcases hg with rfl | rfl <;> rfl
  refine xs_aload hC (i := 0) (x := 39) dX5_keep_0 rfl ?_
  refine xs_get hC (vfi w) (foX5 11 5 0 rfl) (cd := 44) (v := xvr 40) (sh39 w) rfl rfl (fun _ => trivial) dX5_keep_1 ?_
  refine xs_aload hC (i := 0) (x := 39) dX5_keep_4 rfl ?_
  refine xs_get hC (vfi w) (foX5 15 5 1 rfl) (cd := 0) (v := xvi (σ 39 1)) (sh39 w) rfl rfl (fun hσ => (hσ.1 39 5 _ (sh39 w) 1 0 rfl).1 (Or.inl rfl)) dX5_keep_5 ?_
  have hfin : ∀ (w' : Nat → Bool) (σ1 σ' : xS), w' (1 + i) = true → (∀ c, c ≠ 1 + i → w' c = w c) → (∀ t, blkV t ≠ 1 + i → σ1 t = σ t) → (∀ t, t ≠ 39 → t ∉ g13 (47 + 13 * i) → σ' t = σ1 t) → JG (xsel (g13 (47 + 13 * i)) σ') → (gmC (47 + 13 * i) σ' f ∧ ∀ j : Nat, j < 6 → σ' (47 + 13 * i + 1) j = σ1 (g + 1) j) → (((σ1 39 1 = 7 ∧ σ' 39 1 = 0) ∨ (σ1 39 1 < 7 ∧ σ' 39 1 = σ1 39 1 + 1)) ∧ ((σ1 39 2 = 8 ∧ σ' 39 2 = 8) ∨ (σ1 39 2 < 8 ∧ σ' 39 2 = σ1 39 2 + 1))) → Q none w' σ' := by
    intro w' σ1 σ' h1 h2 h3 h4 h5 hgm h67
    have h139 : σ1 39 = σ 39 := h3 39 (by show 0 ≠ 1 + i; omega)
    rw [h139] at h67
    have h6 : 0 ≤ σ' 39 1 ∧ σ' 39 1 ≤ 7 := by omega
    have h7 : 0 ≤ σ' 39 2 ∧ σ' 39 2 ≤ 8 := by omega
    have hbl : ∀ k, k < 13 → blkV (47 + 13 * i + k) = 1 + i := fun k hk => by rw [((cpB_e (cpK i hi).1).2.2.2 k hk).2.1, bk1 hi]
    have hgb : blkV (g + 1) ≠ 1 + i := by
      have : blkV (g + 1) = 0 := by unfold blkV; rw [if_pos (by rcases hg with rfl | rfl <;> omega)]
      omega
    refine hQ w' σ' ⟨⟨h6, h7, fun i2 hi2 hw2 => ?_⟩, fun c hc => h2 c (by omega), fun t ht1 ht2 => ?_⟩ ⟨i, hi, htop, h1, h2, fun t ht1 ht2 => (h4 t ht1 (fun hm => by obtain ⟨k3, hk3, rfl⟩ := g13_mem hm; exact ht2 (hbl k3 hk3))).trans (h3 t ht2), ⟨hgm.1, fun j hj => (hgm.2 j hj).trans (congrFun (h3 _ hgb) j)⟩, h67⟩
    · by_cases he : i2 = i
      · rw [he]; exact h5
      · have hbl2 : ∀ k, k < 13 → blkV (47 + 13 * i2 + k) = 1 + i2 := fun k hk => by rw [((cpB_e (cpK i2 hi2).1).2.2.2 k hk).2.1, bk1 hi2]
        refine jg_sel (hkg i2 hi2 (by rw [← h2 (1 + i2) (by omega)]; exact hw2)) (fun k hk => ?_)
        rw [h4 _ (by omega) (fun hm => ?_), h3 _ (by rw [hbl2 k hk]; omega)]
        obtain ⟨k3, hk3, hm⟩ := g13_mem hm
        have := hbl2 k hk
        rw [hm, hbl k3 hk3] at this
        omega
    · have hb : blkV t ≠ 1 + i := by
        unfold blkV
        rcases ht2 with h | h
        · rw [if_pos h]; omega
        · rw [if_neg (by omega), if_neg (by omega)]
          split
          · omega
          · split
            · omega
            · split <;> omega
      rw [h4 t ht1 (fun hm => ?_), h3 t hb]
      obtain ⟨k3, hk3, rfl⟩ := g13_mem hm
      exact hb (hbl k3 hk3)
  cases hwi : w (1 + i) with
  | true =>
    refine xs_aaload hC (vfi w) (k := 4) (v := xvr (47 + 13 * i)) (Or.inl rfl) (sh40 w) ⟨by omega, by omega⟩ ⟨by omega, by omega⟩ (by rw [show (σ 39 1).toNat = i by omega, hLK.1 i hi, if_pos hwi]; rfl) trivial dX5_keep_8 ?_
    refine xs_ifnonnull hC (tgt := 28) dX5_keep_9 rfl ?_
    exact vKeep28F hC (Nat.le_of_ble_eq_true rfl) ⟨(Nat.le_of_ble_eq_true rfl), (Nat.le_of_ble_eq_true rfl)⟩ (Nat.le_of_ble_eq_true rfl) (Nat.le_of_ble_eq_true rfl) hi hg hwi htop hs8 hLK (fun _ _ => rfl) hJ hf (fun σ' h4 h5 h6 h7 => hfin w σ σ' hwi (fun _ _ => rfl) (fun _ _ => rfl) h4 h5 h6 h7)
  | false =>
    refine xs_aaload hC (vfi w) (k := 4) (v := xvu) (Or.inl rfl) (sh40 w) ⟨by omega, by omega⟩ ⟨by omega, by omega⟩ (by rw [show (σ 39 1).toNat = i by omega, hLK.1 i hi, if_neg (by rw [hwi]; decide)]; rfl) trivial dX5_keep_8 ?_
    refine xs_ifnonnullN hC dX5_keep_9 ?_
    refine xs_aload hC (i := 0) (x := 39) dX5_keep_12 rfl ?_
    refine xs_get hC (vfi w) (foX5 11 5 0 rfl) (cd := 44) (v := xvr 40) (sh39 w) rfl rfl (fun _ => trivial) dX5_keep_13 ?_
    refine xs_aload hC (i := 0) (x := 39) dX5_keep_16 rfl ?_
    refine xs_get hC (vfi w) (foX5 15 5 1 rfl) (cd := 0) (v := xvi (σ 39 1)) (sh39 w) rfl rfl (fun hσ => (hσ.1 39 5 _ (sh39 w) 1 0 rfl).1 (Or.inl rfl)) dX5_keep_17 ?_
    refine vs_new (mc := 12) (ms := 313) hC hXX (vBg hi) hwi q_2_88 q_1_33 q_1_2 (C := RX2) (T := TX2) (NN := 18) (ci := 2) (fs0 := fsX2) (ty0 := tyX2) rfl inGX2 tyX2_ok px_fsX2v dX5_keep_20 dX5_keep_23 (Nat.le_of_ble_eq_true rfl) (Nat.le_of_ble_eq_true rfl) (Nat.le_of_ble_eq_true rfl)
      (fun H1 locs1 ls g2 rest h1 h2 h3 => va_runI (As := []) (n := 0) ⟨hC.1, hC.2.1, hC.2.2.1, hC.2.2.2.1, hC.2.2.2.2.1⟩ (ctX2 l D yv H1.size g2) (cwI 0 hC.2.2.2.2.1 (px_gI q_1_36) rfl rfl rfl (hC.2.2.2.2.1 _ q_1_2) (hC.2.2.2.2.1 _ q_3_181) (hC.2.2.2.2.1 _ q_1_35) rfl (by decide +kernel) ⟨(Nat.le_of_ble_eq_true rfl), (Nat.le_of_ble_eq_true rfl)⟩) h2 rfl rfl h1 rfl (by simpa using h3) dX5_keep_24 ⟨(Nat.le_of_ble_eq_true rfl), (Nat.le_of_ble_eq_true rfl)⟩) (hgs w) (fun u hu => by
        simp only [List.mem_cons, List.not_mem_nil, or_false] at hu
        rcases hu with hu | hu
        · cases hu
        · cases hu; rw [sh40]; rfl) (fun a1 ρ1 σ1 hout => ?_)
    have hout2 : ∀ t, blkV t ≠ 1 + i → a1 t = a t ∧ ρ1 t = ρ t ∧ σ1 t = σ t := fun t ht => hout t (vB_out (vBg hi) ht)
    have h39 : σ1 39 = σ 39 := (hout2 39 (by show 0 ≠ 1 + i; omega)).2.2
    have htn : (σ 39 1).toNat = i := by omega
    obtain ⟨codes, hcd⟩ := vGame (w := wOn w (1 + i)) (cpK i hi).1 (Or.inr (by rw [bk1 hi]; exact if_pos rfl))
    refine vs_aastore (k := 4) (n := 8) (ci := 2) hC (Or.inl rfl) (sh40 _) hcd rfl rfl ⟨by omega, by omega⟩ ⟨by omega, by omega⟩ dX5_keep_27 ?_
    rw [htn]
    refine vKeep28F hC (Nat.le_of_ble_eq_true rfl) ⟨(Nat.le_of_ble_eq_true rfl), (Nat.le_of_ble_eq_true rfl)⟩ (Nat.le_of_ble_eq_true rfl) (Nat.le_of_ble_eq_true rfl) hi hg (w := wOn w (1 + i)) (if_pos rfl) (by rw [h39]; exact htop) (by rw [h39]; exact hs8) (LK_on hLK (fun t ht => ⟨(hout2 t ht).1, (hout2 t ht).2.1⟩) (Or.inl ⟨i, hi, rfl, rfl, rfl, rfl⟩)) (fun t ht => ?_) (jg_sel hJ (fun k hk => (hout2 _ ?_).2.2)) (hf.eq (fun t h5 h6 => (hout2 t ?_).2.2)) (fun σ' h4 h5 h6 h7 => hfin _ σ1 σ' (if_pos rfl) (fun c hc => if_neg hc) (fun t ht => (hout2 t ht).2.2) h4 h5 h6 h7)
    · exact (hout t (vOn_none (vBg hi) hwi ht)).1
    · have : blkV (g + k) = 0 := by
        unfold blkV
        rw [if_pos (by rcases hg with rfl | rfl <;> omega)]
      rw [this]; omega
    · have : blkV t = 0 := by
        unfold blkV
        rw [if_pos (by rcases hg with rfl | rfl <;> omega)]
      rw [this]; omega

