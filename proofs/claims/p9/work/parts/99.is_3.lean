set_option maxHeartbeats 4000000 in
set_option maxRecDepth 100000 in
theorem mvX10_undoF (l : Launch) (D : va_G) (yv : Nat → ClassId) : vMt l D yv yX10_undo cX10_undo 1 (some .int) 4 (fun _ => 0) (fun _ => 0) undoEF := by
  intro a ρ w sz as σ Q hE hLK hσ has
  obtain ⟨i, g, rfl, hJ, hi, hkg, hQ⟩ := hE
  refine vEnter (N := 194) (sh := vsh w) (by decide +kernel) (Nat.le_of_ble_eq_true rfl) hσ has (fun p e s m below meth c hsz hXX hC => ?_)
  generalize va_A (xws a yv ρ 194 (vsh w) σ) sz = A at hC ⊢
  show XA (0, 0) p l e (vroom 4 ((fun _ => 0) w) ((fun _ => 0) w)) s m _ below meth c D yv a ρ 194 (vsh w) A 1 _ 0 [xvr 0] [] σ
  refine xs_aload hC (i := 0) (x := 0) dX10_undo_0 rfl ?_
  refine xs_get hC (vfi w) (foX10 70 10 10 rfl) (cd := 43) (v := xvr 39) (sh0 w) rfl rfl (fun _ => trivial) dX10_undo_1 ?_
  refine xs_aload hC (i := 0) (x := 0) dX10_undo_4 rfl ?_
  refine xs_get hC (vfi w) (foX10 23 10 3 rfl) (cd := 6) (v := xvr 2) (sh0 w) rfl rfl (fun _ => trivial) dX10_undo_5 ?_
  refine vs_callV (rest := []) (as' := [xvr 2]) (t := 39) (ci := 5) (n := 1) (codes := [44, 0, 0]) (K := fun r w' σ' => ∃ z : Int, r = some (xvi z) ∧ w' = w ∧ (∀ t, t ∉ g13 2 → t ≠ 39 → σ' t = σ t) ∧ PV w σ' ∧ JG (xsel (g13 2) σ') ∧ tbF σ z σ' i g) hC hXX (mvX5_takeBackF l D yv) (Nat.le_of_ble_eq_true rfl) q_3_220 q_3_221 q_3_222 q_1_14 q_3_223 rfl rfl (by decide +kernel) (by decide) (Nat.le_of_ble_eq_true rfl) (Nat.le_of_ble_eq_true rfl) dX10_undo_8 (sh39 _) rfl (by decide) hLK (vLp (by rfl)) (fun u hu => by cases hu) ⟨i, g, rfl, hJ.p, hJ.g, hi, hkg, fun r σ' h1 h2 h3 h4 => ⟨r, rfl, rfl, h1, h2, h3, h4⟩⟩ (fun r w1 a1 ρ1 σ1 hk hLK1 hag1 => ?_)
  obtain ⟨z, rfl, rfl, h1, h2, h3, h4⟩ := hk
  have hJ1 : JW w1 σ1 := JW.fr hJ (fun t h5 _ => h1 t (fun hm => by obtain ⟨k3, hk3, hm⟩ := g13_mem hm; omega) (by omega)) (by rw [h1 0 (by decide) (by omega)]; exact hJ.1.1) h3 (by rw [h1 28 (by decide) (by omega)]; exact hJ.1.2.2.1) (by rw [h1 0 (by decide) (by omega)]; exact hJ.1.2.2.2.1) ⟨h2.1, h2.2.1⟩
  refine vTS (C := kX10_undo_b w1) (w := w1) (w0 := w1) (a0 := a) (mc := 0) (ms := 0) (Z := fun _ _ _ => False) ⟨(Nat.le_of_ble_eq_true rfl), (Nat.le_of_ble_eq_true rfl)⟩ hC (zX10_undo_b w1) (fun v i n E he => (hX10_undo_b w1 l D yv v i n E he).up (Nat.le_of_ble_eq_true rfl)) (Nat.le_of_ble_eq_true rfl) (Nat.le_of_ble_eq_true rfl) rfl hLK1 hag1 (pX10_undo_bF (fun r σ2 f hr => ⟨(fun _ h => by cases h), by
    have e2 : σ2 = σ1 := funext fun t => fr0 f (by simp)
    subst e2
    refine hQ _ σ2 hJ1 ⟨h1 1 (by decide) (by omega), h1 31 (by decide) (by omega)⟩ ?_
    rcases h4 with ⟨a, b, c9⟩ | ⟨a, b, c9, d9, e9, f9⟩
    · exact Or.inl ⟨a, by omega, c9⟩
    · exact Or.inr ⟨a, by omega, c9, d9, ⟨e9, f9⟩, fun t h5 h6 => h1 t (fun hm => by obtain ⟨k3, hk3, hm⟩ := g13_mem hm; omega) h5⟩⟩)) (fun _ _ _ h => h.elim)

