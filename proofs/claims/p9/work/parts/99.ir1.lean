set_option maxHeartbeats 4000000 in
set_option maxRecDepth 100000 in
theorem mvX10_imageF (l : Launch) (D : va_G) (yv : Nat → ClassId) : vMt l D yv yX10_image cX10_image 2 (some .boolean) 3 (fun _ => 15) (fun _ => 373) imageEF := by
  intro a ρ w sz as σ Q hE hLK hσ has
  obtain ⟨k, f, rfl, hJ, hf, hQ⟩ := hE
  refine vEnter (N := 194) (sh := vsh w) (by decide +kernel) (Nat.le_of_ble_eq_true rfl) hσ has (fun p e s m below meth c hsz hXX hC => ?_)
  generalize va_A (xws a yv ρ 194 (vsh w) σ) sz = A at hC ⊢
  show XA (0, 0) p l e (vroom 3 15 373) s m _ below meth c D yv a ρ 194 (vsh w) A 2 _ 0 [xvr 0, xvi k] [] σ
  refine vTE (C := kX10_image_a w) (w := w) (w0 := w) (a0 := a) (mc := 15) (ms := 373) (Z := fun c L σ1 => (0 ≤ k ∧ k < 2) ∧ c = 11 ∧ L = [xvr 0, xvi k] ∧ σ = σ1) ⟨(Nat.le_of_ble_eq_true rfl), (Nat.le_of_ble_eq_true rfl)⟩ hC (zX10_image_a w) (fun v i n E he => (hX10_image_a w l D yv v i n E he).up (Nat.le_of_ble_eq_true rfl)) (Nat.le_of_ble_eq_true rfl) (Nat.le_of_ble_eq_true rfl) rfl hLK (fun _ _ => rfl) (pX10_image_a (fun r σ1 f9 hr => ⟨(fun _ h => by cases h), by obtain ⟨rfl, hr⟩ := hr; exact hQ 0 w σ1 (frJW hJ f9) ⟨fr0 f9 (by simp), kt_fr f9⟩ (Or.inr ⟨hr, rfl, rfl⟩) ⟨fun t _ => fr0 f9 (by simp), Or.inr ⟨by omega, fun t => fr0 f9 (by simp)⟩⟩⟩) (fun h1 => ⟨h1, rfl, rfl, rfl⟩)) ?_
  rintro _ _ _ ⟨hk, rfl, rfl, rfl⟩
  obtain ⟨kn, hkn, rfl⟩ : ∃ kn : Nat, kn < 2 ∧ k = kn := ⟨k.toNat, by omega, by omega⟩
  have htn : ((kn : Int)).toNat = kn := by omega
  have hfin : ∀ (w1 : Nat → Bool) (σ1 σ2 : xS), (∀ c, w1 c = if c = 9 + kn ∨ c = 11 + kn then true else w c) → (∀ t, blkV t ≠ 9 + kn → blkV t ≠ 11 + kn → σ1 t = σ t) → (∀ t, t ∉ g13 (151 + 13 * kn) → t ∉ g2 (177 + 2 * kn) → σ2 t = σ1 t) → JG (xsel (g13 (151 + 13 * kn)) σ2) → (gmC (151 + 13 * kn) σ2 f ∧ ∀ j : Nat, j < 6 → σ2 (151 + 13 * kn + 1) j = σ1 (2 + 1) j) → (σ2 (177 + 2 * kn) 1 = σ1 28 1 ∧ ∀ i : Nat, i < 40 → σ2 (177 + 2 * kn + 1) i = σ1 29 i) → Q (some (xvi 1)) w1 σ2 := by
    intro w1 σ1 σ2 h1 h2 h3 h4 h4g h5c
    have h5 := h5c.1
    have hlow : ∀ t, t < 151 → σ2 t = σ t := by
      intro t ht
      have hb : blkV t < 9 := by
        unfold blkV
        split
        · omega
        · first | omega | (rw [if_pos ht]; omega)
      rw [h3 t (fun hm => by obtain ⟨k3, hk3, hm⟩ := g13_mem hm; omega) (fun hm => by obtain ⟨k3, hk3, hm⟩ := g2_mem hm; omega), h2 t (by omega) (by omega)]
    have hg : ∀ k2, k2 < 2 → k2 ≠ kn → ∀ j, j < 13 → σ2 (151 + 13 * k2 + j) = σ (151 + 13 * k2 + j) := by
      intro k2 hk2 hne j hj
      have hb : blkV (151 + 13 * k2 + j) = 9 + k2 := by rw [((cpB_e (cpI k2 hk2).1).2.2.2 j hj).2.1, bk2 hk2]
      rw [h3 _ (fun hm => by obtain ⟨k3, hk3, hm⟩ := g13_mem hm; omega) (fun hm => by obtain ⟨k3, hk3, hm⟩ := g2_mem hm; omega), h2 _ (by rw [hb]; omega) (by rw [hb]; omega)]
    have hs : ∀ k2, k2 < 2 → k2 ≠ kn → σ2 (177 + 2 * k2) = σ (177 + 2 * k2) := by
      intro k2 hk2 hne
      have hb := bk3 hk2
      rw [h3 _ (fun hm => by obtain ⟨k3, hk3, hm⟩ := g13_mem hm; omega) (fun hm => by obtain ⟨k3, hk3, hm⟩ := g2_mem hm; omega), h2 _ (by rw [hb]; omega) (by rw [hb]; omega)]
    have hs2 : ∀ k2, k2 < 2 → k2 ≠ kn → ∀ j, j < 2 → σ2 (177 + 2 * k2 + j) = σ (177 + 2 * k2 + j) := by
      intro k2 hk2 hne j hj
      have hb : blkV (177 + 2 * k2 + j) = 11 + k2 := by rw [((cpN_e (cpS k2 hk2).1).2.2.2 j hj).2.1, bk3 hk2]
      rw [h3 _ (fun hm => by obtain ⟨k3, hk3, hm⟩ := g13_mem hm; omega) (fun hm => by obtain ⟨k3, hk3, hm⟩ := g2_mem hm; omega), h2 _ (by rw [hb]; omega) (by rw [hb]; omega)]
    have hw1 : ∀ c, c ≠ 9 + kn → c ≠ 11 + kn → w1 c = w c := fun c h6 h7 => by rw [h1, if_neg (by omega)]
    have h28 : σ1 28 = σ 28 := h2 28 (by show 0 ≠ 9 + kn; omega) (by show 0 ≠ 11 + kn; omega)
    refine hQ 1 w1 σ2 (JW.of (by rw [hlow 0 (by omega)]; exact hJ.1.1) (jg_sel hJ.g (fun j hj => hlow _ (by omega))) (by rw [hlow 28 (by omega)]; exact hJ.1.2.2.1) (by rw [hlow 0 (by omega)]; exact hJ.1.2.2.2.1) ⟨by rw [hlow 39 (by omega)]; exact hJ.p.1, by rw [hlow 39 (by omega)]; exact hJ.p.2.1, fun i hi hw => jg_sel (hJ.p.2.2 i hi (by rw [← hw1 _ (by omega) (by omega)]; exact hw)) (fun j hj => hlow _ (by omega))⟩ (fun k2 hk2 hw => ?_) (fun k2 hk2 hw => ?_) (fun k2 hk2 => ?_)) ⟨hlow 0 (by omega), hlow 1 (by omega), hlow 31 (by omega)⟩ (Or.inl ⟨hk, rfl, by rw [htn]; exact h1⟩) ⟨hlow, Or.inl ⟨hk, by rw [htn]; exact h4g.1, fun j hj => by rw [htn, h4g.2 j hj, h2 _ (by show 0 ≠ 9 + kn; omega) (by show 0 ≠ 11 + kn; omega)], by rw [htn]; exact ⟨h5.trans (congrFun (h2 28 (by show 0 ≠ 9 + kn; omega) (by show 0 ≠ 11 + kn; omega)) 1), fun i hi => (h5c.2 i hi).trans (congrFun (h2 29 (by show 0 ≠ 9 + kn; omega) (by show 0 ≠ 11 + kn; omega)) i)⟩, fun k2 hk2 hne => by rw [htn] at hne; exact ⟨hg k2 hk2 hne, fun j hj => hs2 k2 hk2 hne j hj⟩⟩⟩
    · by_cases he : k2 = kn
      · rw [he]; exact h4
      · exact jg_sel (hJ.im k2 hk2 (by rw [← hw1 _ (by omega) (by omega)]; exact hw)) (hg k2 hk2 he)
    · by_cases he : k2 = kn
      · rw [he, h5, h28]; exact hJ.1.2.2.1
      · rw [hs k2 hk2 he]; exact hJ.sn k2 hk2 (by rw [← hw1 _ (by omega) (by omega)]; exact hw)
    · by_cases he : k2 = kn
      · rw [h1, h1, if_pos (by omega), if_pos (by omega)]
      · rw [hw1 _ (by omega) (by omega), hw1 _ (by omega) (by omega)]; exact hJ.2 k2 hk2
  refine xs_aload hC (i := 0) (x := 0) dX10_image_11 rfl ?_
  refine xs_get hC (vfi w) (foX10 74 10 11 rfl) (cd := 45) (v := xvr 41) (sh0 w) rfl rfl (fun _ => trivial) dX10_image_12 ?_
  refine xs_iload hC (i := 1) (x := (kn : Int)) dX10_image_15 rfl ?_
  cases hw9 : w (9 + kn) with
  | true =>
    have hw11 : w (11 + kn) = true := by rw [← hJ.2 kn hkn]; exact hw9
    refine xs_aaload hC (vfi w) (k := 4) (v := xvr (151 + 13 * kn)) (Or.inl rfl) (sh41 w) ⟨by omega, by omega⟩ ⟨by omega, by omega⟩ (by rw [show ((kn : Int)).toNat = kn by omega, hLK.2.1 kn hkn, if_pos hw9]; rfl) trivial dX10_image_16 ?_
    refine xs_ifnull hC dX10_image_17 ?_
    refine xs_aload hC (i := 0) (x := 0) dX10_image_20 rfl ?_
    refine xs_get hC (vfi w) (foX10 78 10 12 rfl) (cd := 46) (v := xvr 42) (sh0 w) rfl rfl (fun _ => trivial) dX10_image_21 ?_
    refine xs_iload hC (i := 1) (x := (kn : Int)) dX10_image_24 rfl ?_
    refine xs_aaload hC (vfi w) (k := 5) (v := xvr (177 + 2 * kn)) (Or.inr rfl) (sh42 w) ⟨by omega, by omega⟩ ⟨by omega, by omega⟩ (by rw [show ((kn : Int)).toNat = kn by omega, hLK.2.2.1 kn hkn, if_pos hw11]; rfl) trivial dX10_image_25 ?_
    refine xs_ifnonnull hC (tgt := 55) dX10_image_26 rfl ?_
    exact vImage55F hC (Nat.le_of_ble_eq_true rfl) ⟨(Nat.le_of_ble_eq_true rfl), (Nat.le_of_ble_eq_true rfl)⟩ (Nat.le_of_ble_eq_true rfl) (Nat.le_of_ble_eq_true rfl) hkn hw9 hw11 hLK (fun _ _ => rfl) hJ.g hf (fun σ2 h3 h4 h4g h5 => hfin w σ σ2 (fun c => img_w hw9 hw11 c) (fun _ _ _ => rfl) h3 h4 h4g h5)
  | false =>
    have hw11 : w (11 + kn) = false := by rw [← hJ.2 kn hkn]; exact hw9
    refine xs_aaload hC (vfi w) (k := 4) (v := xvu) (Or.inl rfl) (sh41 w) ⟨by omega, by omega⟩ ⟨by omega, by omega⟩ (by rw [htn, hLK.2.1 kn hkn, if_neg (by rw [hw9]; decide)]; rfl) trivial dX10_image_16 ?_
    refine xs_ifnullN hC (tgt := 29) dX10_image_17 rfl ?_
    refine xs_aload hC (i := 0) (x := 0) dX10_image_29 rfl ?_
    refine xs_get hC (vfi w) (foX10 74 10 11 rfl) (cd := 45) (v := xvr 41) (sh0 w) rfl rfl (fun _ => trivial) dX10_image_30 ?_
    refine xs_iload hC (i := 1) (x := (kn : Int)) dX10_image_33 rfl ?_
    refine vs_new (mc := 12) (ms := 313) hC hXX (vBi hkn) hw9 q_1_32 q_1_33 q_1_2 (C := RX2) (T := TX2) (NN := 18) (ci := 2) (fs0 := fsX2) (ty0 := tyX2) rfl inGX2 tyX2_ok px_fsX2v dX10_image_34 dX10_image_37 (Nat.le_of_ble_eq_true rfl) (Nat.le_of_ble_eq_true rfl) (Nat.le_of_ble_eq_true rfl)
      (fun H1 locs1 ls g2 rest h1 h2 h3 => va_runI (As := []) (n := 0) ⟨hC.1, hC.2.1, hC.2.2.1, hC.2.2.2.1, hC.2.2.2.2.1⟩ (ctX2 l D yv H1.size g2) (cwI 0 hC.2.2.2.2.1 (px_gI q_1_36) rfl rfl rfl (hC.2.2.2.2.1 _ q_1_2) (hC.2.2.2.2.1 _ q_1_34) (hC.2.2.2.2.1 _ q_1_35) rfl (by decide +kernel) ⟨(Nat.le_of_ble_eq_true rfl), (Nat.le_of_ble_eq_true rfl)⟩) h2 rfl rfl h1 rfl (by simpa using h3) dX10_image_38 ⟨(Nat.le_of_ble_eq_true rfl), (Nat.le_of_ble_eq_true rfl)⟩) (fun u hu => by
        simp only [List.mem_cons, List.not_mem_nil, or_false] at hu
        rcases hu with hu | hu
        · cases hu; rw [sh0]; rfl
        · cases hu) (fun u hu => by
        simp only [List.mem_cons, List.not_mem_nil, or_false] at hu
        rcases hu with hu | hu
        · cases hu
        · cases hu; rw [sh41]; rfl) (fun a1 ρ1 σ1 hout => ?_)
    have hout2 : ∀ t, blkV t ≠ 9 + kn → a1 t = a t ∧ ρ1 t = ρ t ∧ σ1 t = σ t := fun t ht => hout t (vB_out (vBi hkn) ht)
    obtain ⟨codes, hcd⟩ := vGame (w := wOn w (9 + kn)) (cpI kn hkn).1 (Or.inr (by rw [bk2 hkn]; exact if_pos rfl))
    refine vs_aastore (k := 4) (n := 2) (ci := 2) hC (Or.inl rfl) (sh41 _) hcd rfl rfl ⟨by omega, by omega⟩ ⟨by omega, by omega⟩ dX10_image_41 ?_
    rw [htn]
    have hLK1 := LK_on (b := 9 + kn) (x0 := 41) (j0 := kn) (tb := 151 + 13 * kn) hLK (fun t ht => ⟨(hout2 t ht).1, (hout2 t ht).2.1⟩) (Or.inr (Or.inl ⟨kn, hkn, rfl, rfl, rfl, rfl⟩))
    generalize hρ2 : (fun x j => if x = 41 ∧ j = kn then some (a1 (151 + 13 * kn)) else ρ1 x j) = ρ2 at hLK1
    show XA _ p l e _ s m _ below meth c D yv a1 (fun x j => if x = 41 ∧ j = kn then some (a1 (151 + 13 * kn)) else ρ1 x j) 194 (vsh (wOn w (9 + kn))) A 2 _ 42 [xvr 0, xvi (kn : Int)] [] σ1
    rw [hρ2]
    refine xs_aload hC (i := 0) (x := 0) dX10_image_42 rfl ?_
    refine xs_get hC (vfi (wOn w (9 + kn))) (foX10 78 10 12 rfl) (cd := 46) (v := xvr 42) (sh0 (wOn w (9 + kn))) rfl rfl (fun _ => trivial) dX10_image_43 ?_
    refine xs_iload hC (i := 1) (x := (kn : Int)) dX10_image_46 rfl ?_
    refine vs_new (mc := 1) (ms := 40) hC hXX (vBs hkn) (show wOn w (9 + kn) (11 + kn) = false from by rw [← hw11]; exact if_neg (by omega)) q_1_151 q_1_152 q_1_5 (C := RX7) (T := TX7) (NN := 2) (ci := 7) (fs0 := fsX7) (ty0 := tyX7) rfl inGX7 tyX7_ok px_fsX7v dX10_image_47 dX10_image_50 (Nat.le_of_ble_eq_true rfl) (Nat.le_of_ble_eq_true rfl) (Nat.le_of_ble_eq_true rfl)
      (fun H1 locs1 ls g2 rest h1 h2 h3 => va_runIN (As := []) (n := 0) ⟨hC.1, hC.2.1, hC.2.2.1, hC.2.2.2.1, hC.2.2.2.2.1⟩ (ctX7 l D yv H1.size g2) ⟨va_cnB 0 hC.2.2.2.2.1 (px_gI q_1_155) rfl rfl rfl hXX.1.2.2.2.1 (hC.2.2.2.2.1 _ q_1_5) (by decide +kernel) ⟨(Nat.le_of_ble_eq_true rfl), (Nat.le_of_ble_eq_true rfl)⟩, rfl, (hC.2.2.2.2.1 _ q_1_154)⟩ h2 rfl rfl h1 rfl (by simpa using h3) dX10_image_51 ⟨(Nat.le_of_ble_eq_true rfl), (Nat.le_of_ble_eq_true rfl)⟩) (fun u hu => by
        simp only [List.mem_cons, List.not_mem_nil, or_false] at hu
        rcases hu with hu | hu
        · cases hu; rw [sh0]; rfl
        · cases hu) (fun u hu => by
        simp only [List.mem_cons, List.not_mem_nil, or_false] at hu
        rcases hu with hu | hu
        · cases hu
        · cases hu; rw [sh42]; rfl) (fun a2 ρ3 σ2 hout3 => ?_)
    have hout4 : ∀ t, blkV t ≠ 11 + kn → a2 t = a1 t ∧ ρ3 t = ρ2 t ∧ σ2 t = σ1 t := fun t ht => hout3 t (vB_out (vBs hkn) ht)
    obtain ⟨codes2, hcd2⟩ := vSent (w := wOn (wOn w (9 + kn)) (11 + kn)) (cpS kn hkn).1 (Or.inr (by rw [bk3 hkn]; exact if_pos rfl))
    refine vs_aastore (k := 5) (n := 2) (ci := 7) hC (Or.inr rfl) (sh42 _) hcd2 rfl rfl ⟨by omega, by omega⟩ ⟨by omega, by omega⟩ dX10_image_54 ?_
    rw [htn]
    have hLK2 := LK_on (b := 11 + kn) (x0 := 42) (j0 := kn) (tb := 177 + 2 * kn) hLK1 (fun t ht => ⟨(hout4 t ht).1, (hout4 t ht).2.1⟩) (Or.inr (Or.inr (Or.inl ⟨kn, hkn, rfl, rfl, rfl, rfl⟩)))
    refine vImage55F hC (Nat.le_of_ble_eq_true rfl) ⟨(Nat.le_of_ble_eq_true rfl), (Nat.le_of_ble_eq_true rfl)⟩ (Nat.le_of_ble_eq_true rfl) (Nat.le_of_ble_eq_true rfl) hkn (w := wOn (wOn w (9 + kn)) (11 + kn)) ((if_neg (by omega)).trans (if_pos rfl)) (if_pos rfl) hLK2 (fun t ht => ?_) (jg_sel hJ.g (fun j hj => ?_)) (hf.eq (fun t h5 h6 => ?_)) (fun σ3 h3 h4 h4g h5 => hfin _ σ2 σ3 (fun c => ?_) (fun t h6 h7 => ((hout4 t h7).2.2).trans (hout2 t h6).2.2) h3 h4 h4g h5)
    · have h6 := vOn_none (vBi hkn) hw9 ht
      have h7 : (vsh (wOn w (9 + kn)) t).isSome = true := by rw [vOn_out (vBi hkn) t h6]; exact ht
      exact ((hout3 t (vOn_none (vBs hkn) (show wOn w (9 + kn) (11 + kn) = false from by rw [← hw11]; exact if_neg (by omega)) h7)).1).trans (hout t h6).1
    · have hb : blkV (2 + j) = 0 := by unfold blkV; rw [if_pos (by omega)]
      rw [(hout4 (2 + j) (by rw [hb]; omega)).2.2, (hout2 (2 + j) (by rw [hb]; omega)).2.2]
    · have hb : blkV t = 0 := by unfold blkV; rw [if_pos (by omega)]
      rw [(hout4 t (by rw [hb]; omega)).2.2, (hout2 t (by rw [hb]; omega)).2.2]
    · unfold wOn
      by_cases hc1 : c = 11 + kn
      · rw [if_pos hc1, if_pos (Or.inr hc1)]
      · by_cases hc2 : c = 9 + kn
        · rw [if_neg hc1, if_pos hc2, if_pos (Or.inl hc2)]
        · rw [if_neg hc1, if_neg hc2, if_neg (by omega)]
