set_option maxHeartbeats 4000000 in
set_option maxRecDepth 100000 in
theorem mvX10_eveningF (l : Launch) (D : va_G) (yv : Nat → ClassId) : vMt l D yv yX10_evening cX10_evening 4 (some .int) 7 (fun _ => 13) (fun _ => 331) eveningEF := by
  intro a ρ w sz as σ Q hE hLK hσ has
  obtain ⟨l0, nm, f0, rfl, hJ, hf, hT, hZf, hw31, hN0, hQ⟩ := hE
  have n0 : σ 2 0 = f0 0 := hf.1.n0 (i := 0) (by decide)
  have n1 : σ 2 1 = f0 1 := hf.1.n0 (i := 1) (by decide)
  have m0 := hT.1.1.1.1
  have m1 := hT.1.1.1.2.1
  refine vEnter (N := 194) (sh := vsh w) (by decide +kernel) (Nat.le_of_ble_eq_true rfl) hσ has (fun p e s m below meth c hsz hXX hC => ?_)
  generalize va_A (xws a yv ρ 194 (vsh w) σ) sz = A at hC ⊢
  show XA (0, 0) p l e (vroom 7 ((fun _ => 13) w) ((fun _ => 331) w)) s m _ below meth c D yv a ρ 194 (vsh w) A 4 _ 0 [xvr 0, xvi l0, xvu, xvu] [] σ
  refine vTE (C := kX10_evening_a w) (w := w) (w0 := w) (a0 := a) (mc := 13) (ms := 331) (Z := fun c L σ1 => (0 ≤ l0 ∧ l0 ≤ 1) ∧ c = 13 ∧ L = [xvr 0, xvi l0, xvu, xvu] ∧ σ = σ1) ⟨(Nat.le_of_ble_eq_true rfl), (Nat.le_of_ble_eq_true rfl)⟩ hC (zX10_evening_a w) (fun v i n E he => (hX10_evening_a w l D yv v i n E he).up (Nat.le_of_ble_eq_true rfl)) (Nat.le_of_ble_eq_true rfl) (Nat.le_of_ble_eq_true rfl) rfl hLK (fun _ _ => rfl) (pX10_evening_aF (fun r σ1 f hr => ⟨(fun _ h => by cases h), hQ _ w σ1 (frJW hJ f) (kt_fr f) (Or.inl ⟨by omega, hr.2, rfl, fun t => fr0 f (by simp)⟩)⟩) (fun h1 => ⟨h1, rfl, rfl, rfl⟩)) ?_
  rintro _ _ _ ⟨hl0, rfl, rfl, rfl⟩
  refine xs_aload hC (i := 0) (x := 0) dX10_evening_13 rfl ?_
  refine xs_get hC (vfi w) (foX10 56 10 8 rfl) (cd := 38) (v := xvr 34) (sh0 w) rfl rfl (fun _ => trivial) dX10_evening_14 ?_
  refine xs_aload hC (i := 0) (x := 0) dX10_evening_17 rfl ?_
  refine xs_get hC (vfi w) (foX10 9 10 0 rfl) (cd := 5) (v := xvr 1) (sh0 w) rfl rfl (fun _ => trivial) dX10_evening_18 ?_
  refine xs_aload hC (i := 0) (x := 0) dX10_evening_21 rfl ?_
  refine xs_get hC (vfi w) (foX10 13 10 1 rfl) (cd := 0) (v := xvi (σ 0 1)) (sh0 w) rfl rfl (fun hσ => (hσ.1 0 10 _ (sh0 w) 1 0 rfl).1 (Or.inl rfl)) dX10_evening_22 ?_
  refine xs_aload hC (i := 0) (x := 0) dX10_evening_25 rfl ?_
  refine xs_get hC (vfi w) (foX10 23 10 3 rfl) (cd := 6) (v := xvr 2) (sh0 w) rfl rfl (fun _ => trivial) dX10_evening_26 ?_
  refine xs_call2 (y := yX1_read) (τ := [34, 35, 30, 31, 1, 2, 3, 4, 5, 6, 7, 8, 9, 10, 11, 12, 13, 14]) (N' := 18) (sh' := shE0) (sh'2 := shE) (sh2 := shW wlVF1 w) (t := 34) (as' := [xvr 1, xvi (σ 0 1), xvr 2]) (rest := []) (n := 3) (ci := 1) (E := EREF) (K := fun r σ2 => ∃ z : Int, r = some (xvi z) ∧ Fr [30, 34, 35] [] σ σ2 ∧ ENX (xsel [34, 35, 30, 31, 1, 2, 3, 4, 5, 6, 7, 8, 9, 10, 11, 12, 13, 14] σ2) nm (f0 1) (f0 0) (σ 1) (σ 0 1) 500 z) hC (mX1_readF l D yv) (Nat.le_of_ble_eq_true rfl) (subW0 (xsubB_ok (l' := wlE0) (l := wlVF0) (by decide +kernel)) (by decide)) (subW0 (xsubB_ok (l' := wlE) (l := wlVF1) (by decide +kernel)) (by decide)) (v1_out (by decide)) q_5_93 q_5_94 q_5_95 q_1_12 q_5_96 rfl rfl (by decide +kernel) (by decide) (vfi w) (Nat.le_of_ble_eq_true rfl) (Nat.le_of_ble_eq_true rfl) dX10_evening_29 (shW_of rfl (Or.inl rfl)) (by rfl) rfl (by decide) ?_ ?_
  · exact EREF_i (nm := nm) (ps := f0 1) (kd := f0 0) hJ.1.1 (by exact hw31) ⟨hJ.g.1.1.1, n0⟩ ⟨m1, n1⟩ (by exact hN0) (fun r σ' f p => ⟨r, rfl, f.bk (by decide) (by decide), p⟩)
  rintro r σ2 ⟨z, rfl, f2, hEX⟩
  have hf2 : gmC 2 σ2 f0 := hf.eq (fun t _ _ => f2.1 t (by omega) (by simp; omega))
  have hST2 : STC σ σ2 := stc_fr f2 (by decide)
  have h452 : σ2 45 = σ 45 := f2.1 45 (by decide) (by decide)
  have h442 : σ2 44 = σ 44 := f2.1 44 (by decide) (by decide)
  have h32 : σ2 3 = σ 3 := f2.1 3 (by decide) (by decide)
  have hz01 : z = 0 ∨ z = 1 := by
    rcases hEX with q | q
    · exact Or.inr q.1
    · exact Or.inl q.1
  have hTx : ∃ t : EVx, z = 1 → (EEND nm (f0 1) (f0 0) (σ 1) (σ 0 1) 500 es0 (.inr t) ∧ σ2 30 9 = 0) ∧ EVO f0 t.rd t.l ∧ (∀ j : Nat, (j : Int) < 4 * t.l → σ2 35 j = t.rd j) ∧ σ2 34 2 = t.l ∧ (0 ≤ t.l ∧ t.l ≤ 30) := by
    rcases hEX with ⟨q1, i, t, q2, q3, q4, q5, q6⟩ | ⟨q1, _⟩
    · have hW := ERW.n ERW.z m1.1 i t q2
      exact ⟨t, fun _ => ⟨⟨⟨i, t, q2, Or.inl ⟨q3, rfl⟩⟩, q5⟩, hW.o rfl rfl, q6, q4, hW.1⟩⟩
    · exact ⟨es0, fun h => absurd h (by omega)⟩
  obtain ⟨t, hTx⟩ := hTx
  have hJ2 : JW w σ2 := hJ.ga f2 (by decide) (JG.fr2 hJ.g f2 (by decide))
  have hk9 : ∀ l9 : Int, [xvr 0, xvi l0] = [xvr 0, xvi l9] → ¬ (l9 < 0 ∨ 1 < l9) := fun l9 h9 => by cases h9; omega
  refine xTS_sG (C := kX10_evening_b w) (Q := fun _ _ => False) (Qc := vQ D yv a w A Q) (kq := (13, 331)) (Z := fun c L σ3 => Fr [15, 16, 17, 18, 19, 20, 21, 22, 23, 24, 25, 26, 27, 44, 45] [1, 2] σ2 σ3 ∧ JG (xsel (g13 2) σ3) ∧ σ3 0 1 = 0 ∧ σ3 0 2 = σ2 30 9 ∧ ((c = 53 ∧ L = [xvr 0, xvi l0, xvi z, xvu] ∧ z = 0 ∧ σ3 45 = σ2 45) ∨ ∃ (r : Int) (n : Nat) (wr : Int), z = 1 ∧ JPX f0 t.rd t.l σ2 σ3 r n wr ∧ ((c = 78 ∧ L = [xvr 0, xvi l0, xvi z, xvi r] ∧ JG (xsel (g13 15) σ3) ∧ (l0 = 1 ∧ 0 < n)) ∨ (c = 115 ∧ L = [xvr 0, xvi l0, xvi z, xvi r] ∧ ¬ (l0 = 1 ∧ 0 < n))))) ⟨(Nat.le_of_ble_eq_true rfl), (Nat.le_of_ble_eq_true rfl)⟩ hC (zX10_evening_b w) (fun v i n E he => (hX10_evening_b w l D yv v i n E he).up (Nat.le_of_ble_eq_true rfl)) (Nat.le_of_ble_eq_true rfl) (Nat.le_of_ble_eq_true rfl) (fun _ _ _ h => h.elim) (pX10_evening_bF (f := f0) (rd := t.rd) (l := t.l) hJ2.g hf2 hT hZf hz01 (fun h => (hTx h).2) (fun σ3 g1 g2 g3 g4 g5 g6 => ⟨g1, g2, g3, g5, Or.inl ⟨rfl, rfl, g4, g6⟩⟩) (fun r σ3 n wr g1 g2 g4 g3 g5 g6 g7 g8 => ⟨g1, g2, g3, g6, Or.inr ⟨r, n, wr, g5, g7, Or.inl ⟨rfl, rfl, g4, g8⟩⟩⟩) (fun r σ3 n wr g1 g2 g3 g5 g6 g7 g8 => ⟨g1, g2, g3, g6, Or.inr ⟨r, n, wr, g5, g7, Or.inr ⟨rfl, rfl, g8⟩⟩⟩)) ?_
  rintro _ _ σ3 ⟨g1, g2, g3, g5, hZ⟩
  have hST3 : STC σ σ3 := hST2.tr (stc_fr g1 (by decide))
  have hJ3 : JW w σ3 := hJ2.ga1 g1 (by decide) g3 g2
  have hK3 : KT σ σ3 := (kt_fr f2).tr (kt_fr g1)
  have hLK3 := vTx_LK hLK
  refine vView ?_
  rcases hZ with ⟨rfl, rfl, hz0, hv45⟩ | ⟨r, n, wr, hz1, hJP, ⟨rfl, rfl, g4, hlv⟩ | ⟨rfl, rfl, hlv⟩⟩
  · refine vTE (C := kX10_evening_c w) (w := w) (w0 := w) (a0 := a) (mc := 13) (ms := 331) (Z := fun _ _ _ => False) ⟨(Nat.le_of_ble_eq_true rfl), (Nat.le_of_ble_eq_true rfl)⟩ hC (zX10_evening_c w) (fun v i n E he => (hX10_evening_c w l D yv v i n E he).up (Nat.le_of_ble_eq_true rfl)) (Nat.le_of_ble_eq_true rfl) (Nat.le_of_ble_eq_true rfl) rfl hLK3 (fun _ _ => rfl) (by
      have hE0 : ∃ y : Int × Int, EEND nm (f0 1) (f0 0) (σ 1) (σ 0 1) 500 es0 (.inl y) ∧ σ2 30 9 = y.1 ∧ σ2 30 10 = y.2 := by
        rcases hEX with ⟨q1, _⟩ | ⟨q1, i, t, q2, q3, q4⟩
        · exact absurd q1 (by omega)
        · exact ⟨(σ2 30 9, σ2 30 10), ⟨i, t, q2, Or.inr ⟨q3, _, q4, rfl⟩⟩, rfl, rfl⟩
      obtain ⟨y, y1, y2, y3⟩ := hE0
      have h30 : σ3 30 10 = y.2 := (congrFun (g1.1 30 (by decide) (by decide)) 10).trans y3
      refine pX10_evening_cF (by rw [h30]; have z := EEND.pl hJ.1.1.1 (by decide) y1; have z9 := hJ.1.1.2; omega) (fun r σ4 f4 hr => ⟨(fun _ h => by cases h), hQ _ w σ4 (frJW hJ3 f4) (hK3.tr (kt_fr f4)) (Or.inr ⟨hl0, (f4.2 1 (by simp)).trans g3, _, y1, Or.inl ⟨y, rfl, by rw [hr, h30], (f4.2 2 (by simp)).trans (g5.trans y2), rfl, hST3.tr (stc_fr f4 (by decide)), (f4.1 45 (by decide) (by decide)).trans (hv45.trans h452)⟩⟩)⟩)) (fun _ _ _ h => h.elim)
  · have hf3 : gmC 2 σ3 f0 := hf2.eq (fun t _ _ => g1.1 t (by omega) (by simp; omega))
    refine xs_aload hC (i := 0) (x := 0) dX10_evening_78 rfl ?_
    refine xs_get hC (vfi w) (foX10 70 10 10 rfl) (cd := 43) (v := xvr 39) (sh0 w) rfl rfl (fun _ => trivial) dX10_evening_79 ?_
    refine xs_aload hC (i := 0) (x := 0) dX10_evening_82 rfl ?_
    refine xs_get hC (vfi w) (foX10 23 10 3 rfl) (cd := 6) (v := xvr 2) (sh0 w) rfl rfl (fun _ => trivial) dX10_evening_83 ?_
    refine vs_callV (rest := []) (as' := [xvr 2]) (t := 39) (ci := 5) (n := 1) (codes := [44, 0, 0]) (K := fun r w' σ' => r = none ∧ keepR w σ3 w' σ' ∧ kpF w σ3 w' σ' 2 f0) hC hXX (mvX5_keepF l D yv) (Nat.le_of_ble_eq_true rfl) q_3_177 q_3_178 q_3_179 q_1_14 q_3_180 rfl rfl (by decide +kernel) (by decide) (Nat.le_of_ble_eq_true rfl) (Nat.le_of_ble_eq_true rfl) dX10_evening_86 (sh39 _) rfl (by decide) hLK3 (vLp (by rfl)) (fun u hu => by cases hu) ⟨2, f0, rfl, Or.inl rfl, hJ3.p, hJ3.g, hf3, fun w' σ' h h9 => ⟨rfl, h, h9⟩⟩ (fun r w1 a1 ρ1 σ1 hk hLK1 hag1 => ?_)
    obtain ⟨rfl, hR, hkp⟩ := hk
    obtain ⟨hE1, hEo, hEr, hEl, hl30⟩ := hTx hz1
    obtain ⟨j1, j2, j3, j4, j5, j6⟩ := hJP
    have hg15 : gmC 15 σ1 (evF f0 t.rd n) := j4.eq (fun t _ _ => hkp.lo (by omega) (by omega))
    refine vTE (C := kX10_evening_d w1) (w := w1) (w0 := w) (a0 := a) (mc := 13) (ms := 331) (Z := fun _ _ _ => False) ⟨(Nat.le_of_ble_eq_true rfl), (Nat.le_of_ble_eq_true rfl)⟩ hC (zX10_evening_d w1) (fun v i n E he => (hX10_evening_d w1 l D yv v i n E he).up (Nat.le_of_ble_eq_true rfl)) (Nat.le_of_ble_eq_true rfl) (Nat.le_of_ble_eq_true rfl) rfl hLK1 hag1 (by
      refine pX10_evening_dF (g := evF f0 t.rd n) (jg_sel (tb := 15) g4 (fun j hj => hR.2.2 _ (by omega) (by omega))) hg15 (fun r2 σ4 f4 hg => ⟨(fun _ h => by cases h), ?_⟩)
      obtain ⟨k1, k2, k3, k4, k5⟩ := hg
      have hlo : ∀ t : Nat, t < 47 → t ≠ 39 → ¬ (2 ≤ t ∧ t ≤ 14) → t ≠ 43 → t ≠ 0 → σ4 t = σ3 t := fun t a b c d e => (f4.1 t e (fun hm => by simp only [List.mem_cons, List.not_mem_nil, or_false] at hm; omega)).trans (hkp.lo a b)
      have h34 : σ1 34 2 = t.l := by
        rw [hkp.lo (t := 34) (by decide) (by decide), g1.1 34 (by decide) (by decide)]; exact hEl
      have hs3 : ∀ j : Nat, j < 6 → σ3 (2 + 1) j = σ 3 j := fun j _ => congrFun (hST3 3 (by omega)) j
      refine hQ _ w1 σ4 ((hJ3.keep hR).ga f4 (by decide) k1) (KT.tr hK3 ⟨hlo 1 (by decide) (by decide) (by decide) (by decide) (by decide), hlo 31 (by decide) (by decide) (by decide) (by decide) (by decide)⟩) (Or.inr ⟨hl0, ?_, _, hE1.1, Or.inr ⟨t, n, wr, rfl, j2, ?_, ?_, ?_, Or.inl ⟨hlv, ?_, k2, fun j hj => ?_, fun i hi => ?_, fun u hu => ?_⟩⟩⟩)
      · exact ((f4.2 1 (by simp)).trans (congrFun (hkp.lo (t := 0) (by decide) (by decide)) 1)).trans g3
      · rw [k5, h34, j1]
      · exact ((f4.2 2 (by simp)).trans (congrFun (hkp.lo (t := 0) (by decide) (by decide)) 2)).trans (g5.trans hE1.2)
      · rw [hlo 45 (by decide) (by decide) (by decide) (by decide) (by decide)]; exact j3
      · exact (hkp.g (σ' := σ4) (fun j hj => rfl) (fun t ht => f4.1 t (by omega) (fun hm => by simp only [List.mem_cons, List.not_mem_nil, or_false] at hm; omega)) (f4.1 39 (by decide) (by decide))).base (hST3 39 (by omega)) (fun j _ => congrFun (hST3 3 (by omega)) j) (fun t ht => (g1.1 t (by omega) (by simp; omega)).trans (f2.1 t (by omega) (by simp; omega)))
      · rw [k3 j hj, hkp.lo (t := 16) (by decide) (by decide), j5 j hj, h32]
      · rw [k4 i hi, hkp.lo (t := 44) (by decide) (by decide), j6 i hi, h442]
      · rw [hlo u (by omega) (by omega) (by omega) (by omega) (by omega)]; exact hST3 u (by omega)) (fun _ _ _ h => h.elim)
  · refine vTE (C := kX10_evening_e w) (w := w) (w0 := w) (a0 := a) (mc := 13) (ms := 331) (Z := fun _ _ _ => False) ⟨(Nat.le_of_ble_eq_true rfl), (Nat.le_of_ble_eq_true rfl)⟩ hC (zX10_evening_e w) (fun v i n E he => (hX10_evening_e w l D yv v i n E he).up (Nat.le_of_ble_eq_true rfl)) (Nat.le_of_ble_eq_true rfl) (Nat.le_of_ble_eq_true rfl) rfl hLK3 (fun _ _ => rfl) (by
      obtain ⟨hE1, hEo, hEr, hEl, hl30⟩ := hTx hz1
      obtain ⟨j1, j2, j3, j4, j5, j6⟩ := hJP
      have h34 : σ3 34 2 = t.l := by
        rw [g1.1 34 (by decide) (by decide)]; exact hEl
      refine pX10_evening_eF (fun r2 σ4 f4 hr => ⟨(fun _ h => by cases h), hQ _ w σ4 (frJW hJ3 f4) (hK3.tr (kt_fr f4)) (Or.inr ⟨hl0, (f4.2 1 (by simp)).trans g3, _, hE1.1, Or.inr ⟨t, n, wr, rfl, j2, by rw [hr, h34, j1], (f4.2 2 (by simp)).trans (g5.trans hE1.2), by rw [f4.1 45 (by decide) (by decide)]; exact j3, Or.inr ⟨hlv, rfl, hST3.tr (stc_fr f4 (by decide))⟩⟩⟩)⟩)) (fun _ _ _ h => h.elim)

