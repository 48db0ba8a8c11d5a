/-- where the latest kept game lies -/
def lstF (top : Int) : Int := if 0 < top then top - 1 else 7
/-- the kept game comes back -/
def tbF (σ : xS) (r : Int) (σ' : xS) (i : Nat) (f : Nat → Int) : Prop := (σ 39 2 = 0 ∧ r = 0 ∧ ∀ t, σ' t = σ t) ∨ (1 ≤ σ 39 2 ∧ r = 1 ∧ gmC 2 σ' f ∧ (∀ j : Nat, j < 6 → σ' 3 j = σ (47 + 13 * i + 1) j) ∧ σ' 39 1 = i ∧ σ' 39 2 = σ 39 2 - 1)
def takeBackEF : vE := fun w as σ Q => ∃ i : Nat, ∃ f : Nat → Int, as = [xvr 39, xvr 2] ∧ PV w σ ∧ JG (xsel (g13 2) σ) ∧ (i < 8 ∧ (i : Int) = lstF (σ 39 1)) ∧ (1 ≤ σ 39 2 → w (1 + i) = true ∧ gmC (47 + 13 * i) σ f) ∧ ∀ (r : Int) σ', (∀ t, t ∉ g13 2 → t ≠ 39 → σ' t = σ t) → PV w σ' → JG (xsel (g13 2) σ') → tbF σ r σ' i f → Q (some (xvi r)) w σ'
set_option maxHeartbeats 4000000 in
set_option maxRecDepth 100000 in
theorem pX5_takeBack_aF {w : Nat → Bool} {σ : xS} {Q : Option xV → xS → Prop} {Z : Nat → List xV → xS → Prop} (hp0 : (0 ≤ σ 39 1 ∧ σ 39 1 ≤ 7)) (hp1 : (0 ≤ σ 39 2 ∧ σ 39 2 ≤ 8)) (hQ : ∀ r : Int, ∀ σ' : xS, Fr [] [] σ σ' → (r = 0 ∧ σ 39 2 = 0) → Q (some (xvi r)) σ')(hZ : ∀ last : Int, (0 ≤ last ∧ last ≤ 7) → last = lstF (σ 39 1) → 1 ≤ σ 39 2 → Z 26 [xvr 39, xvr 2, xvi last] σ) : xTE (kX5_takeBack_a w) Q Z 0 [xvr 39, xvr 2, xvu] σ := by
  intro X hX hZZ
  have hF : Fr [] [] σ σ := Fr.rf
  refine hX 400 0 _ _ ?_
  intro v1 e1 l1 h1
  have e1 : v1 = σ 39 1 := e1
  refine And.intro (fun c2 => ?_) (fun c2 => ?_)
  · refine And.intro (Nat.le_of_ble_eq_true rfl) ?_
    show xw _ _ _ _ _ _ _ _ _ _ [xvr 39, xvr 2, xvi 7] _ _
    intro v3 e3 l3 h3
    have e3 : v3 = σ 39 2 := e3
    refine And.intro (fun c4 => ?_) (fun c4 => ?_)
    · refine hX 400 35 _ _ ?_
      refine And.intro rfl ?_
      refine And.intro (by omega) ?_
      exact hQ _ _ hF ⟨by omega, by omega⟩
    · exact hZZ _ _ _ (hZ _ (by omega) (by unfold lstF; first | (rw [if_pos (by omega)]; omega) | (rw [if_neg (by omega)])) (by omega))
  · intro v5 e5 l5 h5
    have e5 : v5 = σ 39 1 := e5
    intro z6 t6 e6 l6 h6
    try have w6 : t6 = 0 := by omega
    refine And.intro (Nat.le_of_ble_eq_true rfl) ?_
    show xw _ _ _ _ _ _ _ _ _ _ [xvr 39, xvr 2, xvi z6] _ _
    intro v7 e7 l7 h7
    have e7 : v7 = σ 39 2 := e7
    refine And.intro (fun c8 => ?_) (fun c8 => ?_)
    · refine hX 400 35 _ _ ?_
      refine And.intro rfl ?_
      refine And.intro (by omega) ?_
      exact hQ _ _ hF ⟨by omega, by omega⟩
    · exact hZZ _ _ _ (hZ _ (by omega) (by unfold lstF; first | (rw [if_pos (by omega)]; omega) | (rw [if_neg (by omega)])) (by omega))
set_option maxHeartbeats 4000000 in
set_option maxRecDepth 100000 in
theorem pX5_takeBack_dF {w : Nat → Bool} {σ : xS} {last : Int} {Q : Option xV → xS → Prop} {Z : Nat → List xV → xS → Prop} (hp0 : 0 ≤ last ∧ last ≤ 7) (hp1 : 1 ≤ σ 39 2 ∧ σ 39 2 ≤ 8) (hQ : ∀ r : Int, ∀ σ' : xS, Fr [39] [] σ σ' → (r = 1 ∧ σ' 39 1 = last ∧ σ' 39 2 = σ 39 2 - 1) → Q (some (xvi r)) σ') : xTE (kX5_takeBack_d w) Q Z 47 [xvr 39, xvr 2, xvi last] σ := by
  intro X hX hZZ
  have hF : Fr [39] [] σ σ := Fr.rf
  refine hX 400 47 _ _ ?_
  have hF := hF.pt (t := 39) (j := 1) (v := last) (by decide) (by decide)
  intro v2 e2 l2 h2
  have e2 : v2 = σ 39 2 := e2
  intro z3 t3 e3 l3 h3
  try have w3 : t3 = 0 := by omega
  have hF := hF.pt (t := 39) (j := 2) (v := z3) (by decide) (by decide)
  refine And.intro rfl ?_
  refine And.intro (by omega) ?_
  exact hQ _ _ hF (show 1 = 1 ∧ (last) = last ∧ (z3) = σ 39 2 - 1 from by first | trivial | omega)
set_option maxHeartbeats 4000000 in
set_option maxRecDepth 100000 in
theorem mvX5_takeBackF (l : Launch) (D : va_G) (yv : Nat → ClassId) : vMt l D yv yX5_takeBack cX5_takeBack 3 (some .boolean) 3 (fun _ => 0) (fun _ => 0) takeBackEF := by
  intro a ρ w sz as σ Q hE hLK hσ has
  obtain ⟨i0, f0, rfl, ⟨ht, hs8, hkg⟩, hJ, hi0, hkf, hQ⟩ := hE
  refine vEnter (N := 194) (sh := vsh w) (by decide +kernel) (Nat.le_of_ble_eq_true rfl) hσ has (fun p e s m below meth c hsz hXX hC => ?_)
  generalize va_A (xws a yv ρ 194 (vsh w) σ) sz = A at hC ⊢
  show XA (0, 0) p l e (vroom 3 0 0) s m _ below meth c D yv a ρ 194 (vsh w) A 3 _ 0 [xvr 39, xvr 2, xvu] [] σ
  have hret0 : ∀ σ1, Fr [] [] σ σ1 → σ 39 2 = 0 → Q (some (xvi 0)) w σ1 := fun σ1 f hz0 => hQ 0 σ1 (fun t _ _ => fr0 f (by simp)) ⟨by rw [fr0 f (t := 39) (by simp)]; exact ht, by rw [fr0 f (t := 39) (by simp)]; exact hs8, fun i hi hw => jg_sel (hkg i hi hw) (fun k hk => fr0 f (by simp))⟩ (jg_sel hJ (fun k hk => fr0 f (by simp))) (Or.inl ⟨hz0, rfl, fun t => fr0 f (by simp)⟩)
  refine vTE (C := kX5_takeBack_a w) (w := w) (w0 := w) (a0 := a) (mc := 0) (ms := 0) (Z := fun c L σ1 => ∃ last : Int, (0 ≤ last ∧ last ≤ 7) ∧ last = lstF (σ 39 1) ∧ 1 ≤ σ 39 2 ∧ c = 26 ∧ L = [xvr 39, xvr 2, xvi last] ∧ σ = σ1) ⟨(Nat.le_of_ble_eq_true rfl), (Nat.le_of_ble_eq_true rfl)⟩ hC (zX5_takeBack_a w) (fun v i n E he => (hX5_takeBack_a w l D yv v i n E he).up (Nat.le_of_ble_eq_true rfl)) (Nat.le_of_ble_eq_true rfl) (Nat.le_of_ble_eq_true rfl) rfl hLK (fun _ _ => rfl) (pX5_takeBack_aF ht hs8 (fun r σ1 f hr => ⟨(fun _ h => by cases h), by obtain ⟨hr, hz0⟩ := hr; subst hr; exact hret0 σ1 f hz0⟩) (fun last h1 hl9 h2 => ⟨last, h1, hl9, h2, rfl, rfl, rfl⟩)) ?_
  rintro _ _ _ ⟨last, hl, hl9, hs1, rfl, rfl, rfl⟩
  obtain ⟨i, hi, hli⟩ : ∃ i : Nat, i < 8 ∧ last = i := ⟨last.toNat, by omega, by omega⟩
  have hii : i0 = i := by omega
  subst hii
  obtain ⟨hwt, hgm⟩ := hkf hs1
  refine xs_aload hC (i := 0) (x := 39) dX5_takeBack_26 rfl ?_
  refine xs_get hC (vfi w) (foX5 11 5 0 rfl) (cd := 44) (v := xvr 40) (sh39 w) rfl rfl (fun _ => trivial) dX5_takeBack_27 ?_
  refine xs_iload hC (i := 2) (x := last) dX5_takeBack_30 rfl ?_
  cases hwi : w (1 + i0) with
  | false => rw [hwt] at hwi; exact absurd hwi (by decide)
  | true =>
    refine xs_aaload hC (vfi w) (k := 4) (v := xvr (47 + 13 * i0)) (Or.inl rfl) (sh40 w) ⟨by omega, by omega⟩ ⟨by omega, by omega⟩ (by rw [show last.toNat = i0 by omega, hLK.1 i0 hi, if_pos hwi]; rfl) trivial dX5_takeBack_31 ?_
    refine xs_ifnonnull hC (tgt := 37) dX5_takeBack_32 rfl ?_
    refine xs_aload hC (i := 1) (x := 2) dX5_takeBack_37 rfl ?_
    refine xs_aload hC (i := 0) (x := 39) dX5_takeBack_38 rfl ?_
    refine xs_get hC (vfi w) (foX5 11 5 0 rfl) (cd := 44) (v := xvr 40) (sh39 w) rfl rfl (fun _ => trivial) dX5_takeBack_39 ?_
    refine xs_iload hC (i := 2) (x := last) dX5_takeBack_42 rfl ?_
    refine xs_aaload hC (vfi w) (k := 4) (v := xvr (47 + 13 * i0)) (Or.inl rfl) (sh40 w) ⟨by omega, by omega⟩ ⟨by omega, by omega⟩ (by rw [show last.toNat = i0 by omega, hLK.1 i0 hi, if_pos hwi]; rfl) trivial dX5_takeBack_43 ?_
    have hcp := (cpK i0 hi).2.2
    have hbs : blkV (47 + 13 * i0) = 0 ∨ w (blkV (47 + 13 * i0)) = true := Or.inr (by rw [bk1 hi]; exact hwi)
    refine xs_ck (v := true) (i := 23) (n := 2) (as := [xvr 2, xvr (47 + 13 * i0)]) (rest := []) (K := fun r σ' => r = none ∧ (∀ t, t ∉ g13 2 → σ' t = σ t) ∧ JG (xsel (g13 2) σ') ∧ gmC 2 σ' f0 ∧ ∀ j : Nat, j < 6 → σ' (2 + 1) j = σ (47 + 13 * i0 + 1) j) hC (vCopyC hcp q_3_182 (Or.inl rfl) hbs) (Nat.le_of_ble_eq_true rfl) (Nat.le_of_ble_eq_true rfl) dX5_takeBack_44 (vCopyEF hcp (Or.inl rfl) (hkg i0 hi hwi) hgm (fun σ' h1 h2 h3 => ⟨rfl, h1, h2, h3⟩)) rfl (by decide) (fun r σ1 hk => ?_)
    obtain ⟨rfl, h1, h2, h3g, h3n⟩ := hk
    have h39 : σ1 39 = σ 39 := h1 39 (by decide)
    refine vTE (C := kX5_takeBack_d w) (w := w) (Z := fun _ _ _ => False) ⟨(Nat.le_of_ble_eq_true rfl), (Nat.le_of_ble_eq_true rfl)⟩ hC (zX5_takeBack_d w) (fun v i0 n E he => (hX5_takeBack_d w l D yv v i0 n E he).up (Nat.le_of_ble_eq_true rfl)) (Nat.le_of_ble_eq_true rfl) (Nat.le_of_ble_eq_true rfl) rfl hLK (fun _ _ => rfl) (pX5_takeBack_dF hl (by rw [h39]; omega) (fun r σ2 f hr => ⟨(fun _ h => by cases h), ?_⟩)) (fun _ _ _ h => h.elim)
    obtain ⟨rfl, q1, q2⟩ := hr
    rw [h39] at q2
    have p1 : 0 ≤ σ2 39 1 ∧ σ2 39 1 ≤ 7 := by omega
    have p2 : 0 ≤ σ2 39 2 ∧ σ2 39 2 ≤ 8 := by omega
    have hu : ∀ t, t ≠ 39 → σ2 t = σ1 t := fun t ht => fr0 f (by simp [ht])
    refine hQ 1 σ2 (fun t h3 h4 => (hu t h4).trans (h1 t h3)) ⟨p1, p2, fun i2 hi2 hw2 => jg_sel (hkg i2 hi2 hw2) (fun k hk => (hu _ (by omega)).trans (h1 _ (fun hm => ?_)))⟩ (jg_sel h2 (fun k hk => hu _ (by omega))) (Or.inr ⟨hs1, rfl, h3g.eq (fun t h5 h6 => hu t (by omega)), fun j hj => (congrFun (hu 3 (by decide)) j).trans (h3n j hj), by omega, q2⟩)
    obtain ⟨k3, hk3, hm⟩ := g13_mem hm
    omega

