set_option maxHeartbeats 4000000 in
set_option maxRecDepth 100000 in
theorem pX10_play_bF {w : Nat → Bool} {gv gu : xV} {σ : xS} {n done : Int} {Q : Option xV → xS → Prop} {Z : Nat → List xV → xS → Prop} (hQ : ∀ r : Int, ∀ σ' : xS, Fr [] [] σ σ' → (r = done) → Q (some (xvi r)) σ') : xTE (kX10_play_b w) Q Z 158 [xvr 0, xvi n, gv, xvi done, gu] σ := by
  intro X hX hZZ
  have hF : Fr [] [] σ σ := Fr.rf
  refine hX 400 158 _ _ ?_
  refine And.intro rfl ?_
  exact hQ _ _ hF (by omega)
set_option maxHeartbeats 4000000 in
set_option maxRecDepth 100000 in
theorem mvX10_playF (l : Launch) (D : va_G) (yv : Nat → ClassId) : vMt l D yv yX10_play cX10_play 5 (some .int) 6 (fun _ => 13) (fun _ => 331) playEF := by
  intro a ρ w sz as σ Q hE hLK hσ has
  obtain ⟨n0, f0, R0, rfl, hJ, hf, hT, hR0, hQ⟩ := hE
  refine vEnter (N := 194) (sh := vsh w) (by decide +kernel) (Nat.le_of_ble_eq_true rfl) hσ has (fun p e s m below meth c hsz hXX hC => ?_)
  generalize va_A (xws a yv ρ 194 (vsh w) σ) sz = A at hC ⊢
  show XA (0, 0) p l e (vroom 6 ((fun _ => 13) w) ((fun _ => 331) w)) s m _ below meth c D yv a ρ 194 (vsh w) A 5 _ 0 [xvr 0, xvi n0, xvu, xvu, xvu] [] σ
  refine vTE (C := kX10_play_a w) (w := w) (w0 := w) (a0 := a) (mc := 13) (ms := 331) (Z := fun c L σ1 => ∃ (done : Int) (u : xV), Fr [2, 3, 4, 5, 6, 7, 8, 9, 10, 11, 12, 13, 14, 15, 16, 17, 18, 19, 20, 21, 22, 23, 24, 25, 26, 27, 43] [1] σ σ1 ∧ JG (xsel (g13 2) σ1) ∧ JG (xsel (g13 15) σ1) ∧ σ1 0 1 = 0 ∧ PLM f0 R0 n0 σ σ1 done ∧ c = 147 ∧ L = [xvr 0, xvi n0, xvi 1, xvi done, u]) ⟨(Nat.le_of_ble_eq_true rfl), (Nat.le_of_ble_eq_true rfl)⟩ hC (zX10_play_a w) (fun v i n E he => (hX10_play_a w l D yv v i n E he).up (Nat.le_of_ble_eq_true rfl)) (Nat.le_of_ble_eq_true rfl) (Nat.le_of_ble_eq_true rfl) rfl hLK (fun _ _ => rfl) (pX10_play_aF (f := f0) (R := R0) hJ.g hJ.1.1 hf hT hR0 (fun r σ1 f hr => ⟨(fun _ h => by cases h), hQ _ w σ1 (hJ.ga1 (frsub f) (by decide) hr.1.2 hr.1.1) (kt_fr f) ⟨hr.1.2, by
      rcases hr.2 with ⟨a1, a2, a3⟩ | ⟨a1, a2, a3, a4⟩
      · exact Or.inl ⟨a1, a2, rfl, a3⟩
      · exact Or.inr (Or.inl ⟨a1, a2, rfl, a3, a4⟩)⟩⟩) (fun done u σ1 f h1 h2 h3 h4 => ⟨done, u, f, h1, h2, h3, h4, rfl, rfl⟩)) ?_
  rintro _ _ σ2 ⟨done, u, f, h1, h2, h3, hPM, rfl, rfl⟩
  obtain ⟨d1, d2, d3, d4, ⟨d5, d6⟩, d7, d8, d9⟩ := hPM
  have hJ2 : JW w σ2 := hJ.ga1 (frsub f) (by decide) h3 h1
  have hK2 : KT σ σ2 := kt_fr f
  refine XA.forget 4 ?_
  show XA _ p l e _ s m _ below meth c D yv a ρ 194 (vsh w) A 5 _ 147 [xvr 0, xvi n0, xvi 1, xvi done, xvu] [] σ2
  refine xs_aload hC (i := 0) (x := 0) dX10_play_147 rfl ?_
  refine xs_get hC (vfi w) (foX10 70 10 10 rfl) (cd := 43) (v := xvr 39) (sh0 w) rfl rfl (fun _ => trivial) dX10_play_148 ?_
  refine xs_aload hC (i := 0) (x := 0) dX10_play_151 rfl ?_
  refine xs_get hC (vfi w) (foX10 27 10 4 rfl) (cd := 19) (v := xvr 15) (sh0 w) rfl rfl (fun _ => trivial) dX10_play_152 ?_
  refine vs_callV (rest := []) (as' := [xvr 15]) (t := 39) (ci := 5) (n := 1) (codes := [44, 0, 0]) (K := fun r w' σ' => r = none ∧ keepR w σ2 w' σ' ∧ kpF w σ2 w' σ' 15 f0) hC hXX (mvX5_keepF l D yv) (Nat.le_of_ble_eq_true rfl) q_3_177 q_3_178 q_3_179 q_1_14 q_3_180 rfl rfl (by decide +kernel) (by decide) (Nat.le_of_ble_eq_true rfl) (Nat.le_of_ble_eq_true rfl) dX10_play_155 (sh39 _) rfl (by decide) hLK (vLp (by rfl)) (fun u hu => by cases hu) ⟨15, f0, rfl, Or.inr rfl, hJ2.p, h2, d5, fun w' σ' h h9 => ⟨rfl, h, h9⟩⟩ (fun r w1 a1 ρ1 σ1 hk hLK1 hag1 => ?_)
  obtain ⟨rfl, hR, hkp⟩ := hk
  refine vTE (C := kX10_play_b w1) (w := w1) (w0 := w) (a0 := a) (mc := 13) (ms := 331) (Z := fun _ _ _ => False) ⟨(Nat.le_of_ble_eq_true rfl), (Nat.le_of_ble_eq_true rfl)⟩ hC (zX10_play_b w1) (fun v i n E he => (hX10_play_b w1 l D yv v i n E he).up (Nat.le_of_ble_eq_true rfl)) (Nat.le_of_ble_eq_true rfl) (Nat.le_of_ble_eq_true rfl) rfl hLK1 hag1 (by
      refine pX10_play_bF (gv := xvi 1) (gu := xvu) (fun r σ3 f4 hr => ⟨(fun _ h => by cases h), ?_⟩)
      have hlo : ∀ t : Nat, t < 47 → t ≠ 39 → t ≠ 0 → σ3 t = σ2 t := fun t a b c => (f4.1 t c (by simp)).trans (hkp.lo a b)
      have z1 : σ3 0 1 = 0 := ((f4.2 1 (by simp)).trans (congrFun (hkp.lo (t := 0) (by decide) (by decide)) 1)).trans h3
      refine hQ _ w1 σ3 (frJW (hJ2.keep hR) f4) (KT.tr hK2 ⟨hlo 1 (by decide) (by decide) (by decide), hlo 31 (by decide) (by decide) (by decide)⟩) ⟨z1, Or.inr (Or.inr ⟨d2, by omega, d3, by omega, ?_, ?_, fun j hj => ?_, fun i hi => ?_, ?_⟩)⟩
      · exact (hkp.g (σ' := σ3) (fun j hj => (d6 j hj).trans (d8 j hj).symm) (fun t ht => f4.1 t (by omega) (by simp)) (f4.1 39 (by decide) (by decide))).base (f.1 39 (by decide) (by decide)) d8 (fun t ht => f.1 t (by omega) (by simp; omega))
      · exact d7.eq (fun t _ _ => hlo t (by omega) (by omega) (by omega))
      · rw [hlo 3 (by decide) (by decide) (by decide)]; exact d8 j hj
      · rw [hlo 43 (by decide) (by decide) (by decide)]; exact d9 i hi
      · rw [hlo 40 (by decide) (by decide) (by decide)]; exact f.1 40 (by decide) (by decide)) (fun _ _ _ h => h.elim)

