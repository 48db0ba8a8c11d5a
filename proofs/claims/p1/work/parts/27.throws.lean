set_option maxHeartbeats 4000000 in
set_option maxRecDepth 100000 in
theorem c_X10_hand (l : Launch) (D : va_G) (y : Nat → ClassId) (sz : Nat) (ad : Nat → Nat) (bb : Nat → Int32) (hst : l.stackTraces = false) (x : Nat) (fx : List Value) (g : Nat) (fg : List Value) (p0 : Int32) (p1 : Int32) (hx_3 : px_g fx 3 (.ref g)) (hg_1 : px_g fg 1 (.int 0)) : vx_Met l yX10_hand (px_w yX10_hand cX10_hand 3 (some .int)) ({ frames := 6, cells := 1, slots := 6, locals := 82 }) (va_Pc [.ref x, .int p0, .int p1] (fun U => px_P D y sz [px_o x 10 fx, px_o g 2 fg] U ∧ px_Y ad bb (va_A [px_o x 10 fx, px_o g 2 fg] sz) U U.heap)) (va_Qi (fun (_ : Int32) (_ : Unit) => False) (fun _ _ => True) (va_A [px_o x 10 fx, px_o g 2 fg] sz)) (vx_X (fun _ : Unit => True) (fun E _ _ => E = px_nse) (va_A [px_o x 10 fx, px_o g 2 fg] sz)) 1 6 (va_A [px_o x 10 fx, px_o g 2 fg] sz) := by
  refine vx_ofW (cc := cX10_hand) (maxL := 3) (ret := (some .int)) (by decide) rfl ?_
  intro p e s m args below meth c s₁ B hml htab hv
  obtain ⟨rfl, ⟨hsz, hP, hK, hD0⟩, hYY⟩ := hv
  have hXX := hYY.x
  have haoG := hXX.1
  have haoS := hXX.2.1
  have hx := B.exec
  have hb := B.bytes
  have hr := B.returns
  have hts := atoms_spec (ws := px_w yX10_hand cX10_hand 3 (some .int)) B.pre
  have hg : ∀ w ∈ gw, w.before [.ref x, .int p0, .int p1].toArray s = true := fun w h => hts w (List.mem_cons_of_mem _ h)
  have hown : s.vm.findClass RX10 = some m.cls := findClass_of_methodNamed B.named
  have hlocks := B.notSynchronized
  subst hsz
  have hD := hD0.self (sz := s.heap.size)
  generalize hAe : va_A [px_o x 10 fx, px_o g 2 fg] s.heap.size = A at hD hYY ⊢
  have hA : ∀ q : Nat, s.heap.size ≤ q → A q := fun q h => by rw [← hAe]; exact Or.inr h
  have hS : va_S A s.heap s.heap [] := va_S.rf
  have hP : va_P D vwCl [px_o x 10 fx, px_o g 2 fg] s.heap := hP
  have hl := lv_entry ([.ref x, .int p0, .int p1]) (n := 3) (Nat.le_of_ble_eq_true rfl)
  rw [lg_entry_eq]
  generalize (lg_sl ([.ref x, .int p0, .int p1]) ++ List.replicate (3 - (lg_sl ([.ref x, .int p0, .int p1])).length) Slot.unset).toArray = ls at hl ⊢
  have hl : lv_has ls 3 [(0, .ref x), (1, .int p0), (2, .int p1)] := hl
  refine lv_aload_n hx hb dX10_hand_0 rfl (lv_at hl 0 rfl) ?_
  refine va_get (D := D) (ci := 10) (v := .ref g) (C := RX10) (T := TX10) (N := 20) hx hb hg inGX10 hown hK hP 0 rfl rfl 3 (by decide) (hg _ q_2_106) (fun _ h9 => h9) hx_3 dX10_hand_1 ?_
  refine lv_iload_n hx hb dX10_hand_4 rfl (lv_at hl 1 rfl) ?_
  have hPc_1 := hP.sub (ws' := [px_o g 2 fg]) [1] rfl
  have hDc_1 := hD.sub (ws' := [px_o g 2 fg]) [1] (by decide +kernel) rfl
  refine vp_callSi (va_Run.run (va_runV (As := [.int p0]) (rest := []) ⟨hx, hb, hml, hown, hg⟩ (c_X2_hasPerson l D y s.heap.size g fg p0 hg_1) (cwV 1 hg (px_gV q_3_115 q_3_116 q_3_117 q_1_2 q_3_118) rfl rfl rfl (by decide +kernel) ⟨Nat.le_of_ble_eq_true rfl, Nat.le_of_ble_eq_true rfl⟩) (px_preV hK hPc_1 hDc_1 (ci := 2) (q0 := 0) rfl rfl) rfl rfl hl.1 rfl (lv_room (Nat.le_of_ble_eq_true rfl)) dX10_hand_5 ⟨Nat.le_of_ble_eq_true rfl, Nat.le_of_ble_eq_true rfl⟩)) (fun r_1 hw_1 => ?_)
  clear hPc_1 hDc_1
  obtain rfl : r_1 = 0 := hw_1
  refine lv_if_eq (tgt := 22) hx hb dX10_hand_8 (by decide) (fun _ => ?_) (fun c_2 => absurd c_2 (by decide))
  exact px_throwX (cls := px_nse) (text := "no such person or kind") (names := px_nms) (ik := 145) (is := 147) (ic := 149) (A := A) hx hb hst hown (by decide) (by decide) (ix := 13) (rx := prog_28_method_4_code) (by decide +kernel) (by decide +kernel) (by decide +kernel) (by decide +kernel) (hg _ q_5_233) (hg _ q_1_21) hYY.r.2.1 (px_hat hg hYY.e) px_thrO hYY.e.1 hYY.e.2.1 hS (hml.trans hl.1.symm).symm dX10_hand_22 dX10_hand_25 dX10_hand_26 dX10_hand_28 dX10_hand_31 (fun x h => (htab x h).elim) (Nat.le_of_ble_eq_true rfl) (Nat.le_of_ble_eq_true rfl) (Nat.le_of_ble_eq_true rfl) (Nat.le_of_ble_eq_true rfl) hlocks (fun t _ h2 h3 => ⟨(), trivial, rfl, h2, fun q hq _ => h3 q hq⟩) (fun z h => by cases h) (Nat.le_of_ble_eq_true rfl) (Nat.le_of_ble_eq_true rfl)

set_option maxHeartbeats 4000000 in
set_option maxRecDepth 100000 in
theorem c_X10_odds (l : Launch) (D : va_G) (y : Nat → ClassId) (sz : Nat) (ad : Nat → Nat) (bb : Nat → Int32) (hst : l.stackTraces = false) (x : Nat) (fx : List Value) (g : Nat) (fg : List Value) (p0 : Int32) (p1 : Int32) (p2 : Int32) (p3 : Int32) (hx_3 : px_g fx 3 (.ref g)) (hg_1 : px_g fg 1 (.int 0)) : vx_Met l yX10_odds (px_w yX10_odds cX10_odds 6 (some .long)) ({ frames := 6, cells := 1, slots := 6, locals := 82 }) (va_Pc [.ref x, .int p0, .int p1, .int p2, .int p3] (fun U => px_P D y sz [px_o x 10 fx, px_o g 2 fg] U ∧ px_Y ad bb (va_A [px_o x 10 fx, px_o g 2 fg] sz) U U.heap)) (va_Ql (fun (_ : Int64) (_ : Unit) => False) (fun _ _ => True) (va_A [px_o x 10 fx, px_o g 2 fg] sz)) (vx_X (fun _ : Unit => True) (fun E _ _ => E = px_nse) (va_A [px_o x 10 fx, px_o g 2 fg] sz)) 1 6 (va_A [px_o x 10 fx, px_o g 2 fg] sz) := by
  refine vx_ofW (cc := cX10_odds) (maxL := 6) (ret := (some .long)) (by decide) rfl ?_
  intro p e s m args below meth c s₁ B hml htab hv
  obtain ⟨rfl, ⟨hsz, hP, hK, hD0⟩, hYY⟩ := hv
  have hXX := hYY.x
  have haoG := hXX.1
  have haoS := hXX.2.1
  have hx := B.exec
  have hb := B.bytes
  have hr := B.returns
  have hts := atoms_spec (ws := px_w yX10_odds cX10_odds 6 (some .long)) B.pre
  have hg : ∀ w ∈ gw, w.before [.ref x, .int p0, .int p1, .int p2, .int p3].toArray s = true := fun w h => hts w (List.mem_cons_of_mem _ h)
  have hown : s.vm.findClass RX10 = some m.cls := findClass_of_methodNamed B.named
  have hlocks := B.notSynchronized
  subst hsz
  have hD := hD0.self (sz := s.heap.size)
  generalize hAe : va_A [px_o x 10 fx, px_o g 2 fg] s.heap.size = A at hD hYY ⊢
  have hA : ∀ q : Nat, s.heap.size ≤ q → A q := fun q h => by rw [← hAe]; exact Or.inr h
  have hS : va_S A s.heap s.heap [] := va_S.rf
  have hP : va_P D vwCl [px_o x 10 fx, px_o g 2 fg] s.heap := hP
  have hl := lv_entry ([.ref x, .int p0, .int p1, .int p2, .int p3]) (n := 6) (Nat.le_of_ble_eq_true rfl)
  rw [lg_entry_eq]
  generalize (lg_sl ([.ref x, .int p0, .int p1, .int p2, .int p3]) ++ List.replicate (6 - (lg_sl ([.ref x, .int p0, .int p1, .int p2, .int p3])).length) Slot.unset).toArray = ls at hl ⊢
  have hl : lv_has ls 6 [(0, .ref x), (1, .int p0), (2, .int p1), (3, .int p2), (4, .int p3)] := hl
  refine lv_aload_n hx hb dX10_odds_0 rfl (lv_at hl 0 rfl) ?_
  refine lv_iload_n hx hb dX10_odds_1 rfl (lv_at hl 1 rfl) ?_
  refine lv_iload_n hx hb dX10_odds_2 rfl (lv_at hl 2 rfl) ?_
  refine lv_iload_n hx hb dX10_odds_3 rfl (lv_at hl 3 rfl) ?_
  have hPc_1 := hP.sub (ws' := [px_o x 10 fx, px_o g 2 fg]) [0, 1] rfl
  have hDc_1 := hD.sub (ws' := [px_o x 10 fx, px_o g 2 fg]) [0, 1] (by decide +kernel) rfl
  refine vp_callSi (va_Run.run (va_runV (As := [.int p0, .int p1, .int p2]) (rest := []) ⟨hx, hb, hml, hown, hg⟩ (c_X10_areSuch l D y s.heap.size x fx g fg p0 p1 p2 hx_3 hg_1) (cwV 3 hg (px_gV q_3_165 q_3_167 q_p_15 q_1_1 q_3_168) rfl rfl rfl (by decide +kernel) ⟨Nat.le_of_ble_eq_true rfl, Nat.le_of_ble_eq_true rfl⟩) (px_preV hK hPc_1 hDc_1 (ci := 10) (q0 := 0) rfl rfl) rfl rfl hl.1 rfl (lv_room (Nat.le_of_ble_eq_true rfl)) dX10_odds_4 ⟨Nat.le_of_ble_eq_true rfl, Nat.le_of_ble_eq_true rfl⟩)) (fun r_1 hw_1 => ?_)
  clear hPc_1 hDc_1
  obtain rfl : r_1 = 0 := hw_1
  refine lv_if_eq (tgt := 26) hx hb dX10_odds_7 (by decide) (fun _ => ?_) (fun c_2 => absurd c_2 (by decide))
  exact px_throwX (cls := px_nse) (text := "no such persons, kind or part") (names := px_nms) (ik := 145) (is := 243) (ic := 149) (A := A) hx hb hst hown (by decide) (by decide) (ix := 13) (rx := prog_28_method_4_code) (by decide +kernel) (by decide +kernel) (by decide +kernel) (by decide +kernel) (hg _ q_5_233) (hg _ q_1_21) hYY.r.2.2.1 (px_hat hg hYY.e) px_thrO hYY.e.1 hYY.e.2.1 hS (hml.trans hl.1.symm).symm dX10_odds_26 dX10_odds_29 dX10_odds_30 dX10_odds_32 dX10_odds_35 (fun x h => (htab x h).elim) (Nat.le_of_ble_eq_true rfl) (Nat.le_of_ble_eq_true rfl) (Nat.le_of_ble_eq_true rfl) (Nat.le_of_ble_eq_true rfl) hlocks (fun t _ h2 h3 => ⟨(), trivial, rfl, h2, fun q hq _ => h3 q hq⟩) (fun z h => by cases h) (Nat.le_of_ble_eq_true rfl) (Nat.le_of_ble_eq_true rfl)

set_option maxHeartbeats 4000000 in
set_option maxRecDepth 100000 in
theorem c_X10_next (l : Launch) (D : va_G) (y : Nat → ClassId) (sz : Nat) (ad : Nat → Nat) (bb : Nat → Int32) (hst : l.stackTraces = false) (x : Nat) (fx : List Value) (g : Nat) (fg : List Value) (p0 : Int32) (p1 : Int32) (p2 : Int32) (hx_3 : px_g fx 3 (.ref g)) (hg_1 : px_g fg 1 (.int 0)) : vx_Met l yX10_next (px_w yX10_next cX10_next 6 (some .long)) ({ frames := 6, cells := 1, slots := 6, locals := 82 }) (va_Pc [.ref x, .int p0, .int p1, .int p2] (fun U => px_P D y sz [px_o x 10 fx, px_o g 2 fg] U ∧ px_Y ad bb (va_A [px_o x 10 fx, px_o g 2 fg] sz) U U.heap)) (va_Ql (fun (_ : Int64) (_ : Unit) => False) (fun _ _ => True) (va_A [px_o x 10 fx, px_o g 2 fg] sz)) (vx_X (fun _ : Unit => True) (fun E _ _ => E = px_nse) (va_A [px_o x 10 fx, px_o g 2 fg] sz)) 1 6 (va_A [px_o x 10 fx, px_o g 2 fg] sz) := by
  refine vx_ofW (cc := cX10_next) (maxL := 6) (ret := (some .long)) (by decide) rfl ?_
  intro p e s m args below meth c s₁ B hml htab hv
  obtain ⟨rfl, ⟨hsz, hP, hK, hD0⟩, hYY⟩ := hv
  have hXX := hYY.x
  have haoG := hXX.1
  have haoS := hXX.2.1
  have hx := B.exec
  have hb := B.bytes
  have hr := B.returns
  have hts := atoms_spec (ws := px_w yX10_next cX10_next 6 (some .long)) B.pre
  have hg : ∀ w ∈ gw, w.before [.ref x, .int p0, .int p1, .int p2].toArray s = true := fun w h => hts w (List.mem_cons_of_mem _ h)
  have hown : s.vm.findClass RX10 = some m.cls := findClass_of_methodNamed B.named
  have hlocks := B.notSynchronized
  subst hsz
  have hD := hD0.self (sz := s.heap.size)
  generalize hAe : va_A [px_o x 10 fx, px_o g 2 fg] s.heap.size = A at hD hYY ⊢
  have hA : ∀ q : Nat, s.heap.size ≤ q → A q := fun q h => by rw [← hAe]; exact Or.inr h
  have hS : va_S A s.heap s.heap [] := va_S.rf
  have hP : va_P D vwCl [px_o x 10 fx, px_o g 2 fg] s.heap := hP
  have hl := lv_entry ([.ref x, .int p0, .int p1, .int p2]) (n := 6) (Nat.le_of_ble_eq_true rfl)
  rw [lg_entry_eq]
  generalize (lg_sl ([.ref x, .int p0, .int p1, .int p2]) ++ List.replicate (6 - (lg_sl ([.ref x, .int p0, .int p1, .int p2])).length) Slot.unset).toArray = ls at hl ⊢
  have hl : lv_has ls 6 [(0, .ref x), (1, .int p0), (2, .int p1), (3, .int p2)] := hl
  refine lv_aload_n hx hb dX10_next_0 rfl (lv_at hl 0 rfl) ?_
  refine va_get (D := D) (ci := 10) (v := .ref g) (C := RX10) (T := TX10) (N := 20) hx hb hg inGX10 hown hK hP 0 rfl rfl 3 (by decide) (hg _ q_2_106) (fun _ h9 => h9) hx_3 dX10_next_1 ?_
  refine lv_iload_n hx hb dX10_next_4 rfl (lv_at hl 1 rfl) ?_
  have hPc_1 := hP.sub (ws' := [px_o g 2 fg]) [1] rfl
  have hDc_1 := hD.sub (ws' := [px_o g 2 fg]) [1] (by decide +kernel) rfl
  refine vp_callSi (va_Run.run (va_runV (As := [.int p0]) (rest := []) ⟨hx, hb, hml, hown, hg⟩ (c_X2_hasPerson l D y s.heap.size g fg p0 hg_1) (cwV 1 hg (px_gV q_3_115 q_3_116 q_3_117 q_1_2 q_3_118) rfl rfl rfl (by decide +kernel) ⟨Nat.le_of_ble_eq_true rfl, Nat.le_of_ble_eq_true rfl⟩) (px_preV hK hPc_1 hDc_1 (ci := 2) (q0 := 0) rfl rfl) rfl rfl hl.1 rfl (lv_room (Nat.le_of_ble_eq_true rfl)) dX10_next_5 ⟨Nat.le_of_ble_eq_true rfl, Nat.le_of_ble_eq_true rfl⟩)) (fun r_1 hw_1 => ?_)
  clear hPc_1 hDc_1
  obtain rfl : r_1 = 0 := hw_1
  refine lv_if_eq (tgt := 31) hx hb dX10_next_8 (by decide) (fun _ => ?_) (fun c_2 => absurd c_2 (by decide))
  exact px_throwXW (cls := px_nse) (text := "no such person, kind or part") (names := px_nms) (ik := 145) (is := 269) (ic := 149) (A := A) hx hb hst hown (by decide) (by decide) (ix := 13) (rx := prog_28_method_4_code) (by decide +kernel) (by decide +kernel) (by decide +kernel) (by decide +kernel) (hg _ q_5_233) (hg _ q_1_21) hYY.r.2.2.2 (px_hat hg hYY.e) px_thrO hYY.e.1 hYY.e.2.1 hS (hml.trans hl.1.symm).symm dX10_next_31 dX10_next_34 dX10_next_35 dX10_next_38 dX10_next_41 (fun x h => (htab x h).elim) (Nat.le_of_ble_eq_true rfl) (Nat.le_of_ble_eq_true rfl) (Nat.le_of_ble_eq_true rfl) (Nat.le_of_ble_eq_true rfl) hlocks (fun t _ h2 h3 => ⟨(), trivial, rfl, h2, fun q hq _ => h3 q hq⟩) (fun z h => by cases h) (Nat.le_of_ble_eq_true rfl) (Nat.le_of_ble_eq_true rfl)

