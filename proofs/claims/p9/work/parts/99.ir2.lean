set_option maxHeartbeats 4000000 in
set_option maxRecDepth 100000 in
theorem mvX10_restoreF (l : Launch) (D : va_G) (yv : Nat → ClassId) : vMt l D yv yX10_restore cX10_restore 2 (some .boolean) 3 (fun _ => 0) (fun _ => 0) restoreEF := by
  intro a ρ w sz as σ Q hE hLK hσ has
  obtain ⟨k, f, rfl, hJ, hkf, hQ⟩ := hE
  refine vEnter (N := 194) (sh := vsh w) (by decide +kernel) (Nat.le_of_ble_eq_true rfl) hσ has (fun p e s m below meth c hsz hXX hC => ?_)
  generalize va_A (xws a yv ρ 194 (vsh w) σ) sz = A at hC ⊢
  show XA (0, 0) p l e (vroom 3 0 0) s m _ below meth c D yv a ρ 194 (vsh w) A 2 _ 0 [xvr 0, xvi k] [] σ
  refine vTE (C := kX10_restore_a w) (w := w) (w0 := w) (a0 := a) (mc := 0) (ms := 0) (Z := fun c L σ1 => (0 ≤ k ∧ k < 2) ∧ c = 9 ∧ L = [xvr 0, xvi k] ∧ σ = σ1) ⟨(Nat.le_of_ble_eq_true rfl), (Nat.le_of_ble_eq_true rfl)⟩ hC (zX10_restore_a w) (fun v i n E he => (hX10_restore_a w l D yv v i n E he).up (Nat.le_of_ble_eq_true rfl)) (Nat.le_of_ble_eq_true rfl) (Nat.le_of_ble_eq_true rfl) rfl hLK (fun _ _ => rfl) (pX10_restore_a (fun r σ1 f9 hr => ⟨(fun _ h => by cases h), by obtain ⟨rfl, hr⟩ := hr; exact hQ 0 σ1 (frJW hJ f9) ⟨fr0 f9 (by simp), kt_fr f9⟩ (by unfold restR; rw [if_neg (by omega)]) (Or.inr ⟨by omega, fun t => fr0 f9 (by simp)⟩)⟩) (fun h1 => ⟨h1, rfl, rfl, rfl⟩)) ?_
  rintro _ _ _ ⟨hk, rfl, rfl, rfl⟩
  obtain ⟨kn, hkn, rfl⟩ : ∃ kn : Nat, kn < 2 ∧ k = kn := ⟨k.toNat, by omega, by omega⟩
  have htn : ((kn : Int)).toNat = kn := by omega
  refine xs_aload hC (i := 0) (x := 0) dX10_restore_9 rfl ?_
  refine xs_get hC (vfi w) (foX10 74 10 11 rfl) (cd := 45) (v := xvr 41) (sh0 w) rfl rfl (fun _ => trivial) dX10_restore_10 ?_
  refine xs_iload hC (i := 1) (x := (kn : Int)) dX10_restore_13 rfl ?_
  cases hw9 : w (9 + kn) with
  | false =>
    refine xs_aaload hC (vfi w) (k := 4) (v := xvu) (Or.inl rfl) (sh41 w) ⟨by omega, by omega⟩ ⟨by omega, by omega⟩ (by rw [htn, hLK.2.1 kn hkn, if_neg (by rw [hw9]; decide)]; rfl) trivial dX10_restore_14 ?_
    refine xs_ifnullN hC (tgt := 27) dX10_restore_15 rfl ?_
    exact vTE (C := kX10_restore_c w) (w := w) (Z := fun _ _ _ => False) ⟨(Nat.le_of_ble_eq_true rfl), (Nat.le_of_ble_eq_true rfl)⟩ hC (zX10_restore_c w) (fun v i n E he => (hX10_restore_c w l D yv v i n E he).up (Nat.le_of_ble_eq_true rfl)) (Nat.le_of_ble_eq_true rfl) (Nat.le_of_ble_eq_true rfl) rfl hLK (fun _ _ => rfl) (pX10_restore_c (fun r σ1 f9 hr => ⟨(fun _ h => by cases h), by subst hr; exact hQ 0 σ1 (frJW hJ f9) ⟨fr0 f9 (by simp), kt_fr f9⟩ (by unfold restR; rw [htn, hw9, if_neg (fun h => Bool.noConfusion h.2)]) (Or.inr ⟨fun z => by rw [htn, hw9] at z; exact Bool.noConfusion z.2, fun t => fr0 f9 (by simp)⟩)⟩)) (fun _ _ _ h => h.elim)
  | true =>
    have hw11 : w (11 + kn) = true := by rw [← hJ.2 kn hkn]; exact hw9
    refine xs_aaload hC (vfi w) (k := 4) (v := xvr (151 + 13 * kn)) (Or.inl rfl) (sh41 w) ⟨by omega, by omega⟩ ⟨by omega, by omega⟩ (by rw [htn, hLK.2.1 kn hkn, if_pos hw9]; rfl) trivial dX10_restore_14 ?_
    refine xs_ifnull hC dX10_restore_15 ?_
    refine xs_aload hC (i := 0) (x := 0) dX10_restore_18 rfl ?_
    refine xs_get hC (vfi w) (foX10 78 10 12 rfl) (cd := 46) (v := xvr 42) (sh0 w) rfl rfl (fun _ => trivial) dX10_restore_19 ?_
    refine xs_iload hC (i := 1) (x := (kn : Int)) dX10_restore_22 rfl ?_
    refine xs_aaload hC (vfi w) (k := 5) (v := xvr (177 + 2 * kn)) (Or.inr rfl) (sh42 w) ⟨by omega, by omega⟩ ⟨by omega, by omega⟩ (by rw [htn, hLK.2.2.1 kn hkn, if_pos hw11]; rfl) trivial dX10_restore_23 ?_
    refine xs_ifnonnull hC (tgt := 29) dX10_restore_24 rfl ?_
    refine xs_aload hC (i := 0) (x := 0) dX10_restore_29 rfl ?_
    refine xs_get hC (vfi w) (foX10 23 10 3 rfl) (cd := 6) (v := xvr 2) (sh0 w) rfl rfl (fun _ => trivial) dX10_restore_30 ?_
    refine xs_aload hC (i := 0) (x := 0) dX10_restore_33 rfl ?_
    refine xs_get hC (vfi w) (foX10 74 10 11 rfl) (cd := 45) (v := xvr 41) (sh0 w) rfl rfl (fun _ => trivial) dX10_restore_34 ?_
    refine xs_iload hC (i := 1) (x := (kn : Int)) dX10_restore_37 rfl ?_
    refine xs_aaload hC (vfi w) (k := 4) (v := xvr (151 + 13 * kn)) (Or.inl rfl) (sh41 w) ⟨by omega, by omega⟩ ⟨by omega, by omega⟩ (by rw [htn, hLK.2.1 kn hkn, if_pos hw9]; rfl) trivial dX10_restore_38 ?_
    have hgk : gmC (151 + 13 * kn) σ f := by
      have z := hkf ⟨hk, by rw [htn]; exact hw9⟩
      rw [htn] at z; exact z
    have hcp := (cpI kn hkn).2
    have hcn := (cpS kn hkn).2
    have hbt : blkV (151 + 13 * kn) = 0 ∨ w (blkV (151 + 13 * kn)) = true := Or.inr (by rw [bk2 hkn]; exact hw9)
    have hbn : blkV (177 + 2 * kn) = 0 ∨ w (blkV (177 + 2 * kn)) = true := Or.inr (by rw [bk3 hkn]; exact hw11)
    refine xs_ck (v := true) (i := 127) (n := 2) (as := [xvr 2, xvr (151 + 13 * kn)]) (rest := []) (K := fun r σ' => r = none ∧ (∀ t, t ∉ g13 2 → σ' t = σ t) ∧ JG (xsel (g13 2) σ') ∧ gmC 2 σ' f ∧ ∀ j : Nat, j < 6 → σ' (2 + 1) j = σ (151 + 13 * kn + 1) j) hC (vCopyC hcp q_3_87 (Or.inl rfl) hbt) (Nat.le_of_ble_eq_true rfl) (Nat.le_of_ble_eq_true rfl) dX10_restore_39 (vCopyEF hcp (Or.inl rfl) (hJ.im kn hkn hw9) hgk (fun σ' h1 h2 h3 => ⟨rfl, h1, h2, h3⟩)) rfl (by decide) (fun r σ1 hk => ?_)
    obtain ⟨rfl, h1, h2, h2g, h2n⟩ := hk
    refine xs_aload hC (i := 0) (x := 0) dX10_restore_42 rfl ?_
    refine xs_get hC (vfi w) (foX10 33 10 5 rfl) (cd := 32) (v := xvr 28) (sh0 w) rfl rfl (fun _ => trivial) dX10_restore_43 ?_
    refine xs_aload hC (i := 0) (x := 0) dX10_restore_46 rfl ?_
    refine xs_get hC (vfi w) (foX10 78 10 12 rfl) (cd := 46) (v := xvr 42) (sh0 w) rfl rfl (fun _ => trivial) dX10_restore_47 ?_
    refine xs_iload hC (i := 1) (x := (kn : Int)) dX10_restore_50 rfl ?_
    refine xs_aaload hC (vfi w) (k := 5) (v := xvr (177 + 2 * kn)) (Or.inr rfl) (sh42 w) ⟨by omega, by omega⟩ ⟨by omega, by omega⟩ (by rw [htn, hLK.2.2.1 kn hkn, if_pos hw11]; rfl) trivial dX10_restore_51 ?_
    refine xs_ck (v := true) (i := 348) (n := 2) (as := [xvr 28, xvr (177 + 2 * kn)]) (rest := []) (K := fun r σ' => r = none ∧ (∀ t, t ∉ g2 28 → σ' t = σ1 t) ∧ (σ' 28 1 = σ1 (177 + 2 * kn) 1 ∧ ∀ i : Nat, i < 40 → σ' (28 + 1) i = σ1 (177 + 2 * kn + 1) i)) hC ((vCopyNC hcn (Or.inl rfl) hbn).up (Nat.le_of_ble_eq_true rfl)) (Nat.le_of_ble_eq_true rfl) (Nat.le_of_ble_eq_true rfl) dX10_restore_52 (vCopyNEF hcn (Or.inl rfl) (fun σ' h1 h2 => ⟨rfl, h1, h2⟩)) rfl (by decide) (fun r σ2 hk => ?_)
    obtain ⟨rfl, h3, h4⟩ := hk
    have h12 : ∀ t, t ∉ g13 2 → t ∉ g2 28 → σ2 t = σ t := fun t h5 h6 => (h3 t h6).trans (h1 t h5)
    refine vTE (C := kX10_restore_d w) (w := w) (Z := fun _ _ _ => False) ⟨(Nat.le_of_ble_eq_true rfl), (Nat.le_of_ble_eq_true rfl)⟩ hC (zX10_restore_d w) (fun v i n E he => (hX10_restore_d w l D yv v i n E he).up (Nat.le_of_ble_eq_true rfl)) (Nat.le_of_ble_eq_true rfl) (Nat.le_of_ble_eq_true rfl) rfl hLK (fun _ _ => rfl) (pX10_restore_d (by rw [h12 39 (by decide) (by decide)]; exact hJ.p.1) (fun r σ3 f9 hr => ⟨(fun _ h => by cases h), ?_⟩)) (fun _ _ _ h => h.elim)
    obtain ⟨rfl, p1, p2⟩ := hr
    have hu : ∀ t, t ≠ 39 → σ3 t = σ2 t := fun t ht => fr0 f9 (by simp [ht])
    have h0 : σ3 0 = σ 0 := (hu 0 (by omega)).trans (h12 0 (by decide) (by decide))
    refine hQ 1 σ3 (JW.fr hJ (fun t h5 h6 => (hu t (by omega)).trans (h12 t (fun hm => by obtain ⟨k3, hk3, hm⟩ := g13_mem hm; omega) (fun hm => by obtain ⟨k3, hk3, hm⟩ := g2_mem hm; omega))) (by rw [h0]; exact hJ.1.1) (jg_sel h2 (fun j hj => (hu _ (by omega)).trans (h3 _ (fun hm => by obtain ⟨k3, hk3, hm⟩ := g2_mem hm; omega)))) (by rw [hu 28 (by omega), h4.1, h1 _ (fun hm => by obtain ⟨k3, hk3, hm⟩ := g13_mem hm; omega)]; exact hJ.sn kn hkn hw11) (by rw [h0]; exact hJ.1.2.2.2.1) ⟨p1, by omega⟩) ⟨h0, (hu 1 (by omega)).trans (h12 1 (by decide) (by decide)), (hu 31 (by omega)).trans (h12 31 (by decide) (by decide))⟩ (by unfold restR; rw [htn, if_pos ⟨hk, hw9⟩]) (Or.inl ⟨hk, by rw [htn]; exact hw9, h2g.eq (fun t h5 h6 => (hu t (by omega)).trans (h3 t (fun hm => by obtain ⟨k3, hk3, hm⟩ := g2_mem hm; omega))), fun j hj => by rw [htn]; exact (congrFun ((hu 3 (by decide)).trans (h3 3 (by decide))) j).trans (h2n j hj), by rw [htn]; exact ⟨(congrFun (hu 28 (by decide)) 1).trans (h4.1.trans (congrFun (h1 _ (fun hm => by obtain ⟨k3, hk3, hm⟩ := g13_mem hm; omega)) 1)), fun i hi => (congrFun (hu 29 (by decide)) i).trans ((h4.2 i hi).trans (congrFun (h1 _ (fun hm => by obtain ⟨k3, hk3, hm⟩ := g13_mem hm; omega)) i))⟩, p2, fun t h5 h6 h7 h8 => (hu t h7).trans (h12 t (fun hm => by obtain ⟨k3, hk3, hm⟩ := g13_mem hm; omega) (fun hm => by obtain ⟨k3, hk3, hm⟩ := g2_mem hm; omega))⟩)

