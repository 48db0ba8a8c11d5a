set_option maxHeartbeats 4000000 in
set_option maxRecDepth 100000 in
theorem c_X11_peek (l : Launch) (D : va_G) (y : Nat → ClassId) (sz : Nat) (mo : Nat) (fmo : List Value) (hmo_3 : fmo[3]? = some (.int 0)) (hmo_4 : fmo[4]? = some (.int 0)) : Met l yX11_peek (px_w yX11_peek cX11_peek 1 (some .int)) ({ frames := 0, cells := 0, slots := 0, locals := 0 }) (va_Pc [.ref mo] (px_P D y sz [(mo, .inr (11, fmo))])) (vp_Si (fun r : Int32 => r = (-1))) 0 0 (fun _ => False) := by
  refine Met.ofW (cc := cX11_peek) (maxL := 1) (ret := (some .int)) (by decide) rfl ?_
  intro p e s m args below meth c s₁ B hml hv
  obtain ⟨rfl, hsz, hP, hK, hD0⟩ := hv
  have hx := B.exec
  have hb := B.bytes
  have hr := B.returns
  have hts := atoms_spec (ws := px_w yX11_peek cX11_peek 1 (some .int)) B.pre
  have hg : ∀ w ∈ gw, w.before [.ref mo].toArray s = true := fun w h => hts w (List.mem_cons_of_mem _ h)
  have hown : s.vm.findClass RX11 = some m.cls := findClass_of_methodNamed B.named
  have hlocks := B.notSynchronized
  subst hsz
  have hD := hD0
  have hP : va_P D vwCl [(mo, .inr (11, fmo))] s.heap := hP
  have hl := lv_entry ([.ref mo]) (n := 1) (Nat.le_of_ble_eq_true rfl)
  rw [lg_entry_eq]
  generalize (lg_sl ([.ref mo]) ++ List.replicate (1 - (lg_sl ([.ref mo])).length) Slot.unset).toArray = ls at hl ⊢
  have hl : lv_has ls 1 [(0, .ref mo)] := hl
  refine lv_aload_n hx hb dX11_peek_0 rfl (lv_at hl 0 rfl) ?_
  refine va_get (D := D) (ci := 11) (v := .int 0) (C := RX11) (T := TX11) (N := 65) hx hb hg inGX11 hown hK hP 0 rfl rfl 4 (by decide) (hg _ q_6_130) (fun _ h9 => h9) hmo_4 dX11_peek_1 ?_
  refine lv_aload_n hx hb dX11_peek_4 rfl (lv_at hl 0 rfl) ?_
  refine va_get (D := D) (ci := 11) (v := .int 0) (C := RX11) (T := TX11) (N := 65) hx hb hg inGX11 hown hK hP 0 rfl rfl 3 (by decide) (hg _ q_6_129) (fun _ h9 => h9) hmo_3 dX11_peek_5 ?_
  refine lv_icmp_ge (tgt := 27) hx hb dX11_peek_8 (by decide) (fun _ => ?_) (fun c_1 => absurd c_1 (by decide))
  refine lv_iconst (v := (-1)) hx hb dX11_peek_27 (by decide) ?_
  exact W.iret (v := (-1)) hx hb hr (fun t ht hW => ⟨_, rfl, rfl, ht⟩) (fun q h => by cases h) dX11_peek_28

set_option maxHeartbeats 4000000 in
set_option maxRecDepth 100000 in
theorem c_X11_next_900 (l : Launch) (D : va_G) (y : Nat → ClassId) (sz : Nat) (mo : Nat) (fmo : List Value) (hmo_3 : fmo[3]? = some (.int 0)) (hmo_4 : fmo[4]? = some (.int 0)) (hmo_5 : fmo[5]? = some (.int 900)) (hmo_11 : fmo[11]? = some (.int 0)) (hmo_12 : fmo[12]? = some (.int 0)) (hmo_13 : fmo[13]? = some (.int 0)) : Met l yX11_next (px_w yX11_next cX11_next 4 none) ({ frames := 1, cells := 0, slots := 0, locals := 20 }) (va_Pc [.ref mo] (px_P D y sz [(mo, .inr (11, fmo))])) (va_Qv (fun (u : Unit) => True) (fun (u : Unit) t => va_P D vwCl [(mo, .inr (11, (((fmo.set 12 (.int 0)).set 13 (.int 0)).set 11 (.int 0))))] t.heap ∧ va_D (va_A [(mo, .inr (11, fmo))] sz) [(mo, .inr (11, (((fmo.set 12 (.int 0)).set 13 (.int 0)).set 11 (.int 0))))]) (va_A [(mo, .inr (11, fmo))] sz)) 0 0 (va_A [(mo, .inr (11, fmo))] sz) := by
  refine Met.ofW (cc := cX11_next) (maxL := 4) (ret := none) (by decide) rfl ?_
  intro p e s m args below meth c s₁ B hml hv
  obtain ⟨rfl, hsz, hP, hK, hD0⟩ := hv
  have hx := B.exec
  have hb := B.bytes
  have hr := B.returns
  have hts := atoms_spec (ws := px_w yX11_next cX11_next 4 none) B.pre
  have hg : ∀ w ∈ gw, w.before [.ref mo].toArray s = true := fun w h => hts w (List.mem_cons_of_mem _ h)
  have hown : s.vm.findClass RX11 = some m.cls := findClass_of_methodNamed B.named
  have hlocks := B.notSynchronized
  subst hsz
  have hD := hD0.self (sz := s.heap.size)
  generalize hAe : va_A [(mo, .inr (11, fmo))] s.heap.size = A at hD ⊢
  have hA : ∀ q : Nat, s.heap.size ≤ q → A q := fun q h => by rw [← hAe]; exact Or.inr h
  have hS : va_S A s.heap s.heap [] := va_S.rf
  have hP : va_P D vwCl [(mo, .inr (11, fmo))] s.heap := hP
  have hl := lv_entry ([.ref mo]) (n := 4) (Nat.le_of_ble_eq_true rfl)
  rw [lg_entry_eq]
  generalize (lg_sl ([.ref mo]) ++ List.replicate (4 - (lg_sl ([.ref mo])).length) Slot.unset).toArray = ls at hl ⊢
  have hl : lv_has ls 4 [(0, .ref mo)] := hl
  refine lv_aload_n hx hb dX11_next_0 rfl (lv_at hl 0 rfl) ?_
  have hPc_1 := hP.sub (ws' := [(mo, .inr (11, fmo))]) [0] rfl
  have hDc_1 := hD.sub (ws' := [(mo, .inr (11, fmo))]) [0] (by decide +kernel) rfl
  refine vp_callSi (va_Run.run (va_runV (As := []) (rest := []) ⟨hx, hb, hml, hown, hg⟩ (c_X11_peek l D y s.heap.size mo fmo hmo_3 hmo_4) (cwV 0 hg (px_gV q_7_95 q_7_97 q_p_61 q_1_15 q_7_98) rfl rfl rfl (by decide +kernel) ⟨Nat.le_of_ble_eq_true rfl, Nat.le_of_ble_eq_true rfl⟩) (px_preV hK hPc_1 hDc_1 (ci := 11) (q0 := 0) rfl rfl) rfl rfl hl.1 rfl (lv_room (Nat.le_of_ble_eq_true rfl)) dX11_next_1 ⟨Nat.le_of_ble_eq_true rfl, Nat.le_of_ble_eq_true rfl⟩)) (fun r_1 hw_1 => ?_)
  obtain rfl : r_1 = (-1) := hw_1
  refine lv_bipush (v := 32) hx hb dX11_next_4 (by decide) ?_
  refine lv_icmp_eq (tgt := 18) hx hb dX11_next_6 (by decide) (fun c_2 => absurd c_2 (by decide)) (fun _ => ?_)
  refine lv_aload_n hx hb dX11_next_9 rfl (lv_at hl 0 rfl) ?_
  have hPc_3 := hP.sub (ws' := [(mo, .inr (11, fmo))]) [0] rfl
  have hDc_3 := hD.sub (ws' := [(mo, .inr (11, fmo))]) [0] (by decide +kernel) rfl
  refine vp_callSi (va_Run.run (va_runV (As := []) (rest := []) ⟨hx, hb, hml, hown, hg⟩ (c_X11_peek l D y s.heap.size mo fmo hmo_3 hmo_4) (cwV 0 hg (px_gV q_7_95 q_7_97 q_p_61 q_1_15 q_7_98) rfl rfl rfl (by decide +kernel) ⟨Nat.le_of_ble_eq_true rfl, Nat.le_of_ble_eq_true rfl⟩) (px_preV hK hPc_3 hDc_3 (ci := 11) (q0 := 0) rfl rfl) rfl rfl hl.1 rfl (lv_room (Nat.le_of_ble_eq_true rfl)) dX11_next_10 ⟨Nat.le_of_ble_eq_true rfl, Nat.le_of_ble_eq_true rfl⟩)) (fun r_3 hw_3 => ?_)
  obtain rfl : r_3 = (-1) := hw_3
  refine lv_bipush (v := 10) hx hb dX11_next_13 (by decide) ?_
  refine lv_icmp_ne (tgt := 31) hx hb dX11_next_15 (by decide) (fun _ => ?_) (fun c_4 => absurd c_4 (by decide))
  refine lv_aload_n hx hb dX11_next_31 rfl (lv_at hl 0 rfl) ?_
  refine lv_aload_n hx hb dX11_next_32 rfl (lv_at hl 0 rfl) ?_
  refine va_get (D := D) (ci := 11) (v := .int 0) (C := RX11) (T := TX11) (N := 65) hx hb hg inGX11 hown hK hP 0 rfl rfl 4 (by decide) (hg _ q_6_130) (fun _ h9 => h9) hmo_4 dX11_next_33 ?_
  refine va_put (D := D) (ci := 11) (v := .int 0) (ty := .int) (C := RX11) (T := TX11) (N := 65) hx hb hg inGX11 tyX11 tyX11_ok nmX11 hown hK hP hD hS 0 rfl rfl 12 (by decide) (hg _ q_6_138) (fun _ h9 => h9) rfl (by decide +kernel) rfl rfl (px_len hmo_12) dX11_next_36 (fun H locs hP hD hS => ?_)
  have hP : va_P D vwCl [(mo, .inr (11, (fmo.set 12 (.int 0))))] H := hP
  have hD : va_D A [(mo, .inr (11, (fmo.set 12 (.int 0))))] := hD
  refine lv_aload_n hx hb dX11_next_39 rfl (lv_at hl 0 rfl) ?_
  refine lv_iconst (v := 0) hx hb dX11_next_40 (by decide) ?_
  refine va_put (D := D) (ci := 11) (v := .int 0) (ty := .int) (C := RX11) (T := TX11) (N := 65) hx hb hg inGX11 tyX11 tyX11_ok nmX11 hown hK hP hD hS 0 rfl rfl 13 (by decide) (hg _ q_6_139) (fun _ h9 => h9) rfl (by decide +kernel) rfl rfl (px_len (px_sn (by decide) hmo_13)) dX11_next_41 (fun H locs hP hD hS => ?_)
  have hP : va_P D vwCl [(mo, .inr (11, ((fmo.set 12 (.int 0)).set 13 (.int 0))))] H := hP
  have hD : va_D A [(mo, .inr (11, ((fmo.set 12 (.int 0)).set 13 (.int 0))))] := hD
  refine lv_aload_n hx hb dX11_next_44 rfl (lv_at hl 0 rfl) ?_
  refine va_get (D := D) (ci := 11) (v := .int 0) (C := RX11) (T := TX11) (N := 65) hx hb hg inGX11 hown hK hP 0 rfl rfl 3 (by decide) (hg _ q_6_129) (fun _ h9 => h9) (px_sn (by decide) (px_sn (by decide) hmo_3)) dX11_next_45 ?_
  refine lv_aload_n hx hb dX11_next_48 rfl (lv_at hl 0 rfl) ?_
  refine va_get (D := D) (ci := 11) (v := .int 900) (C := RX11) (T := TX11) (N := 65) hx hb hg inGX11 hown hK hP 0 rfl rfl 5 (by decide) (hg _ q_6_131) (fun _ h9 => h9) (px_sn (by decide) (px_sn (by decide) hmo_5)) dX11_next_49 ?_
  refine lv_icmp_le (tgt := 80) hx hb dX11_next_52 (by decide) (fun _ => ?_) (fun c_5 => absurd c_5 (by decide))
  refine lv_aload_n hx hb dX11_next_80 rfl (lv_at hl 0 rfl) ?_
  have hPc_6 := hP.sub (ws' := [(mo, .inr (11, ((fmo.set 12 (.int 0)).set 13 (.int 0))))]) [0] rfl
  have hDc_6 := hD.sub (ws' := [(mo, .inr (11, ((fmo.set 12 (.int 0)).set 13 (.int 0))))]) [0] (by decide +kernel) rfl
  refine vp_callSi (va_Run.run (va_runV (As := []) (rest := []) ⟨hx, hb, hml, hown, hg⟩ (c_X11_peek l D y H.size mo ((fmo.set 12 (.int 0)).set 13 (.int 0)) (px_sn (by decide) (px_sn (by decide) hmo_3)) (px_sn (by decide) (px_sn (by decide) hmo_4))) (cwV 0 hg (px_gV q_7_95 q_7_97 q_p_61 q_1_15 q_7_98) rfl rfl rfl (by decide +kernel) ⟨Nat.le_of_ble_eq_true rfl, Nat.le_of_ble_eq_true rfl⟩) (px_preV hK hPc_6 hDc_6 (ci := 11) (q0 := 0) rfl rfl) rfl rfl hl.1 rfl (lv_room (Nat.le_of_ble_eq_true rfl)) dX11_next_81 ⟨Nat.le_of_ble_eq_true rfl, Nat.le_of_ble_eq_true rfl⟩)) (fun r_6 hw_6 => ?_)
  obtain rfl : r_6 = (-1) := hw_6
  refine lv_istore_n (lv' := [(1, .int (-1)), (0, .ref mo)]) hx hb dX11_next_84 rfl hl (by decide) rfl (fun ls hl => ?_)
  refine lv_iload_n hx hb dX11_next_85 rfl (lv_at hl 0 rfl) ?_
  refine lv_if_ge (tgt := 95) hx hb dX11_next_86 (by decide) (fun c_7 => absurd c_7 (by decide)) (fun _ => ?_)
  refine lv_aload_n hx hb dX11_next_89 rfl (lv_at hl 1 rfl) ?_
  refine lv_iconst (v := 0) hx hb dX11_next_90 (by decide) ?_
  refine va_put (D := D) (ci := 11) (v := .int 0) (ty := .int) (C := RX11) (T := TX11) (N := 65) hx hb hg inGX11 tyX11 tyX11_ok nmX11 hown hK hP hD hS 0 rfl rfl 11 (by decide) (hg _ q_6_137) (fun _ h9 => h9) rfl (by decide +kernel) rfl rfl (px_len (px_sn (by decide) (px_sn (by decide) hmo_11))) dX11_next_91 (fun H locs hP hD hS => ?_)
  have hP : va_P D vwCl [(mo, .inr (11, (((fmo.set 12 (.int 0)).set 13 (.int 0)).set 11 (.int 0))))] H := hP
  have hD : va_D A [(mo, .inr (11, (((fmo.set 12 (.int 0)).set 13 (.int 0)).set 11 (.int 0))))] := hD
  have hP9 := hP.sub (ws' := [(mo, .inr (11, (((fmo.set 12 (.int 0)).set 13 (.int 0)).set 11 (.int 0))))]) [0] rfl
  have hD9 := hD.sub (ws' := [(mo, .inr (11, (((fmo.set 12 (.int 0)).set 13 (.int 0)).set 11 (.int 0))))]) [0] (by decide +kernel) rfl
  exact W.vret hx hb hr (fun t ht hW => ⟨⟨(), rfl, trivial, by rw [ht]; exact hP9, hD9⟩, hS.F ht⟩) hS.2.2 dX11_next_94

set_option maxHeartbeats 4000000 in
set_option maxRecDepth 100000 in
theorem c_X11_next_500 (l : Launch) (D : va_G) (y : Nat → ClassId) (sz : Nat) (mo : Nat) (fmo : List Value) (hmo_3 : fmo[3]? = some (.int 0)) (hmo_4 : fmo[4]? = some (.int 0)) (hmo_5 : fmo[5]? = some (.int 500)) (hmo_11 : fmo[11]? = some (.int 0)) (hmo_12 : fmo[12]? = some (.int 0)) (hmo_13 : fmo[13]? = some (.int 0)) : Met l yX11_next (px_w yX11_next cX11_next 4 none) ({ frames := 1, cells := 0, slots := 0, locals := 20 }) (va_Pc [.ref mo] (px_P D y sz [(mo, .inr (11, fmo))])) (va_Qv (fun (u : Unit) => True) (fun (u : Unit) t => va_P D vwCl [(mo, .inr (11, (((fmo.set 12 (.int 0)).set 13 (.int 0)).set 11 (.int 0))))] t.heap ∧ va_D (va_A [(mo, .inr (11, fmo))] sz) [(mo, .inr (11, (((fmo.set 12 (.int 0)).set 13 (.int 0)).set 11 (.int 0))))]) (va_A [(mo, .inr (11, fmo))] sz)) 0 0 (va_A [(mo, .inr (11, fmo))] sz) := by
  refine Met.ofW (cc := cX11_next) (maxL := 4) (ret := none) (by decide) rfl ?_
  intro p e s m args below meth c s₁ B hml hv
  obtain ⟨rfl, hsz, hP, hK, hD0⟩ := hv
  have hx := B.exec
  have hb := B.bytes
  have hr := B.returns
  have hts := atoms_spec (ws := px_w yX11_next cX11_next 4 none) B.pre
  have hg : ∀ w ∈ gw, w.before [.ref mo].toArray s = true := fun w h => hts w (List.mem_cons_of_mem _ h)
  have hown : s.vm.findClass RX11 = some m.cls := findClass_of_methodNamed B.named
  have hlocks := B.notSynchronized
  subst hsz
  have hD := hD0.self (sz := s.heap.size)
  generalize hAe : va_A [(mo, .inr (11, fmo))] s.heap.size = A at hD ⊢
  have hA : ∀ q : Nat, s.heap.size ≤ q → A q := fun q h => by rw [← hAe]; exact Or.inr h
  have hS : va_S A s.heap s.heap [] := va_S.rf
  have hP : va_P D vwCl [(mo, .inr (11, fmo))] s.heap := hP
  have hl := lv_entry ([.ref mo]) (n := 4) (Nat.le_of_ble_eq_true rfl)
  rw [lg_entry_eq]
  generalize (lg_sl ([.ref mo]) ++ List.replicate (4 - (lg_sl ([.ref mo])).length) Slot.unset).toArray = ls at hl ⊢
  have hl : lv_has ls 4 [(0, .ref mo)] := hl
  refine lv_aload_n hx hb dX11_next_0 rfl (lv_at hl 0 rfl) ?_
  have hPc_1 := hP.sub (ws' := [(mo, .inr (11, fmo))]) [0] rfl
  have hDc_1 := hD.sub (ws' := [(mo, .inr (11, fmo))]) [0] (by decide +kernel) rfl
  refine vp_callSi (va_Run.run (va_runV (As := []) (rest := []) ⟨hx, hb, hml, hown, hg⟩ (c_X11_peek l D y s.heap.size mo fmo hmo_3 hmo_4) (cwV 0 hg (px_gV q_7_95 q_7_97 q_p_61 q_1_15 q_7_98) rfl rfl rfl (by decide +kernel) ⟨Nat.le_of_ble_eq_true rfl, Nat.le_of_ble_eq_true rfl⟩) (px_preV hK hPc_1 hDc_1 (ci := 11) (q0 := 0) rfl rfl) rfl rfl hl.1 rfl (lv_room (Nat.le_of_ble_eq_true rfl)) dX11_next_1 ⟨Nat.le_of_ble_eq_true rfl, Nat.le_of_ble_eq_true rfl⟩)) (fun r_1 hw_1 => ?_)
  obtain rfl : r_1 = (-1) := hw_1
  refine lv_bipush (v := 32) hx hb dX11_next_4 (by decide) ?_
  refine lv_icmp_eq (tgt := 18) hx hb dX11_next_6 (by decide) (fun c_2 => absurd c_2 (by decide)) (fun _ => ?_)
  refine lv_aload_n hx hb dX11_next_9 rfl (lv_at hl 0 rfl) ?_
  have hPc_3 := hP.sub (ws' := [(mo, .inr (11, fmo))]) [0] rfl
  have hDc_3 := hD.sub (ws' := [(mo, .inr (11, fmo))]) [0] (by decide +kernel) rfl
  refine vp_callSi (va_Run.run (va_runV (As := []) (rest := []) ⟨hx, hb, hml, hown, hg⟩ (c_X11_peek l D y s.heap.size mo fmo hmo_3 hmo_4) (cwV 0 hg (px_gV q_7_95 q_7_97 q_p_61 q_1_15 q_7_98) rfl rfl rfl (by decide +kernel) ⟨Nat.le_of_ble_eq_true rfl, Nat.le_of_ble_eq_true rfl⟩) (px_preV hK hPc_3 hDc_3 (ci := 11) (q0 := 0) rfl rfl) rfl rfl hl.1 rfl (lv_room (Nat.le_of_ble_eq_true rfl)) dX11_next_10 ⟨Nat.le_of_ble_eq_true rfl, Nat.le_of_ble_eq_true rfl⟩)) (fun r_3 hw_3 => ?_)
  obtain rfl : r_3 = (-1) := hw_3
  refine lv_bipush (v := 10) hx hb dX11_next_13 (by decide) ?_
  refine lv_icmp_ne (tgt := 31) hx hb dX11_next_15 (by decide) (fun _ => ?_) (fun c_4 => absurd c_4 (by decide))
  refine lv_aload_n hx hb dX11_next_31 rfl (lv_at hl 0 rfl) ?_
  refine lv_aload_n hx hb dX11_next_32 rfl (lv_at hl 0 rfl) ?_
  refine va_get (D := D) (ci := 11) (v := .int 0) (C := RX11) (T := TX11) (N := 65) hx hb hg inGX11 hown hK hP 0 rfl rfl 4 (by decide) (hg _ q_6_130) (fun _ h9 => h9) hmo_4 dX11_next_33 ?_
  refine va_put (D := D) (ci := 11) (v := .int 0) (ty := .int) (C := RX11) (T := TX11) (N := 65) hx hb hg inGX11 tyX11 tyX11_ok nmX11 hown hK hP hD hS 0 rfl rfl 12 (by decide) (hg _ q_6_138) (fun _ h9 => h9) rfl (by decide +kernel) rfl rfl (px_len hmo_12) dX11_next_36 (fun H locs hP hD hS => ?_)
  have hP : va_P D vwCl [(mo, .inr (11, (fmo.set 12 (.int 0))))] H := hP
  have hD : va_D A [(mo, .inr (11, (fmo.set 12 (.int 0))))] := hD
  refine lv_aload_n hx hb dX11_next_39 rfl (lv_at hl 0 rfl) ?_
  refine lv_iconst (v := 0) hx hb dX11_next_40 (by decide) ?_
  refine va_put (D := D) (ci := 11) (v := .int 0) (ty := .int) (C := RX11) (T := TX11) (N := 65) hx hb hg inGX11 tyX11 tyX11_ok nmX11 hown hK hP hD hS 0 rfl rfl 13 (by decide) (hg _ q_6_139) (fun _ h9 => h9) rfl (by decide +kernel) rfl rfl (px_len (px_sn (by decide) hmo_13)) dX11_next_41 (fun H locs hP hD hS => ?_)
  have hP : va_P D vwCl [(mo, .inr (11, ((fmo.set 12 (.int 0)).set 13 (.int 0))))] H := hP
  have hD : va_D A [(mo, .inr (11, ((fmo.set 12 (.int 0)).set 13 (.int 0))))] := hD
  refine lv_aload_n hx hb dX11_next_44 rfl (lv_at hl 0 rfl) ?_
  refine va_get (D := D) (ci := 11) (v := .int 0) (C := RX11) (T := TX11) (N := 65) hx hb hg inGX11 hown hK hP 0 rfl rfl 3 (by decide) (hg _ q_6_129) (fun _ h9 => h9) (px_sn (by decide) (px_sn (by decide) hmo_3)) dX11_next_45 ?_
  refine lv_aload_n hx hb dX11_next_48 rfl (lv_at hl 0 rfl) ?_
  refine va_get (D := D) (ci := 11) (v := .int 500) (C := RX11) (T := TX11) (N := 65) hx hb hg inGX11 hown hK hP 0 rfl rfl 5 (by decide) (hg _ q_6_131) (fun _ h9 => h9) (px_sn (by decide) (px_sn (by decide) hmo_5)) dX11_next_49 ?_
  refine lv_icmp_le (tgt := 80) hx hb dX11_next_52 (by decide) (fun _ => ?_) (fun c_5 => absurd c_5 (by decide))
  refine lv_aload_n hx hb dX11_next_80 rfl (lv_at hl 0 rfl) ?_
  have hPc_6 := hP.sub (ws' := [(mo, .inr (11, ((fmo.set 12 (.int 0)).set 13 (.int 0))))]) [0] rfl
  have hDc_6 := hD.sub (ws' := [(mo, .inr (11, ((fmo.set 12 (.int 0)).set 13 (.int 0))))]) [0] (by decide +kernel) rfl
  refine vp_callSi (va_Run.run (va_runV (As := []) (rest := []) ⟨hx, hb, hml, hown, hg⟩ (c_X11_peek l D y H.size mo ((fmo.set 12 (.int 0)).set 13 (.int 0)) (px_sn (by decide) (px_sn (by decide) hmo_3)) (px_sn (by decide) (px_sn (by decide) hmo_4))) (cwV 0 hg (px_gV q_7_95 q_7_97 q_p_61 q_1_15 q_7_98) rfl rfl rfl (by decide +kernel) ⟨Nat.le_of_ble_eq_true rfl, Nat.le_of_ble_eq_true rfl⟩) (px_preV hK hPc_6 hDc_6 (ci := 11) (q0 := 0) rfl rfl) rfl rfl hl.1 rfl (lv_room (Nat.le_of_ble_eq_true rfl)) dX11_next_81 ⟨Nat.le_of_ble_eq_true rfl, Nat.le_of_ble_eq_true rfl⟩)) (fun r_6 hw_6 => ?_)
  obtain rfl : r_6 = (-1) := hw_6
  refine lv_istore_n (lv' := [(1, .int (-1)), (0, .ref mo)]) hx hb dX11_next_84 rfl hl (by decide) rfl (fun ls hl => ?_)
  refine lv_iload_n hx hb dX11_next_85 rfl (lv_at hl 0 rfl) ?_
  refine lv_if_ge (tgt := 95) hx hb dX11_next_86 (by decide) (fun c_7 => absurd c_7 (by decide)) (fun _ => ?_)
  refine lv_aload_n hx hb dX11_next_89 rfl (lv_at hl 1 rfl) ?_
  refine lv_iconst (v := 0) hx hb dX11_next_90 (by decide) ?_
  refine va_put (D := D) (ci := 11) (v := .int 0) (ty := .int) (C := RX11) (T := TX11) (N := 65) hx hb hg inGX11 tyX11 tyX11_ok nmX11 hown hK hP hD hS 0 rfl rfl 11 (by decide) (hg _ q_6_137) (fun _ h9 => h9) rfl (by decide +kernel) rfl rfl (px_len (px_sn (by decide) (px_sn (by decide) hmo_11))) dX11_next_91 (fun H locs hP hD hS => ?_)
  have hP : va_P D vwCl [(mo, .inr (11, (((fmo.set 12 (.int 0)).set 13 (.int 0)).set 11 (.int 0))))] H := hP
  have hD : va_D A [(mo, .inr (11, (((fmo.set 12 (.int 0)).set 13 (.int 0)).set 11 (.int 0))))] := hD
  have hP9 := hP.sub (ws' := [(mo, .inr (11, (((fmo.set 12 (.int 0)).set 13 (.int 0)).set 11 (.int 0))))]) [0] rfl
  have hD9 := hD.sub (ws' := [(mo, .inr (11, (((fmo.set 12 (.int 0)).set 13 (.int 0)).set 11 (.int 0))))]) [0] (by decide +kernel) rfl
  exact W.vret hx hb hr (fun t ht hW => ⟨⟨(), rfl, trivial, by rw [ht]; exact hP9, hD9⟩, hS.F ht⟩) hS.2.2 dX11_next_94

set_option maxHeartbeats 4000000 in
set_option maxRecDepth 100000 in
theorem c_X11_next_200 (l : Launch) (D : va_G) (y : Nat → ClassId) (sz : Nat) (mo : Nat) (fmo : List Value) (hmo_3 : fmo[3]? = some (.int 0)) (hmo_4 : fmo[4]? = some (.int 0)) (hmo_5 : fmo[5]? = some (.int 200)) (hmo_11 : fmo[11]? = some (.int 0)) (hmo_12 : fmo[12]? = some (.int 0)) (hmo_13 : fmo[13]? = some (.int 0)) : Met l yX11_next (px_w yX11_next cX11_next 4 none) ({ frames := 1, cells := 0, slots := 0, locals := 20 }) (va_Pc [.ref mo] (px_P D y sz [(mo, .inr (11, fmo))])) (va_Qv (fun (u : Unit) => True) (fun (u : Unit) t => va_P D vwCl [(mo, .inr (11, (((fmo.set 12 (.int 0)).set 13 (.int 0)).set 11 (.int 0))))] t.heap ∧ va_D (va_A [(mo, .inr (11, fmo))] sz) [(mo, .inr (11, (((fmo.set 12 (.int 0)).set 13 (.int 0)).set 11 (.int 0))))]) (va_A [(mo, .inr (11, fmo))] sz)) 0 0 (va_A [(mo, .inr (11, fmo))] sz) := by
  refine Met.ofW (cc := cX11_next) (maxL := 4) (ret := none) (by decide) rfl ?_
  intro p e s m args below meth c s₁ B hml hv
  obtain ⟨rfl, hsz, hP, hK, hD0⟩ := hv
  have hx := B.exec
  have hb := B.bytes
  have hr := B.returns
  have hts := atoms_spec (ws := px_w yX11_next cX11_next 4 none) B.pre
  have hg : ∀ w ∈ gw, w.before [.ref mo].toArray s = true := fun w h => hts w (List.mem_cons_of_mem _ h)
  have hown : s.vm.findClass RX11 = some m.cls := findClass_of_methodNamed B.named
  have hlocks := B.notSynchronized
  subst hsz
  have hD := hD0.self (sz := s.heap.size)
  generalize hAe : va_A [(mo, .inr (11, fmo))] s.heap.size = A at hD ⊢
  have hA : ∀ q : Nat, s.heap.size ≤ q → A q := fun q h => by rw [← hAe]; exact Or.inr h
  have hS : va_S A s.heap s.heap [] := va_S.rf
  have hP : va_P D vwCl [(mo, .inr (11, fmo))] s.heap := hP
  have hl := lv_entry ([.ref mo]) (n := 4) (Nat.le_of_ble_eq_true rfl)
  rw [lg_entry_eq]
  generalize (lg_sl ([.ref mo]) ++ List.replicate (4 - (lg_sl ([.ref mo])).length) Slot.unset).toArray = ls at hl ⊢
  have hl : lv_has ls 4 [(0, .ref mo)] := hl
  refine lv_aload_n hx hb dX11_next_0 rfl (lv_at hl 0 rfl) ?_
  have hPc_1 := hP.sub (ws' := [(mo, .inr (11, fmo))]) [0] rfl
  have hDc_1 := hD.sub (ws' := [(mo, .inr (11, fmo))]) [0] (by decide +kernel) rfl
  refine vp_callSi (va_Run.run (va_runV (As := []) (rest := []) ⟨hx, hb, hml, hown, hg⟩ (c_X11_peek l D y s.heap.size mo fmo hmo_3 hmo_4) (cwV 0 hg (px_gV q_7_95 q_7_97 q_p_61 q_1_15 q_7_98) rfl rfl rfl (by decide +kernel) ⟨Nat.le_of_ble_eq_true rfl, Nat.le_of_ble_eq_true rfl⟩) (px_preV hK hPc_1 hDc_1 (ci := 11) (q0 := 0) rfl rfl) rfl rfl hl.1 rfl (lv_room (Nat.le_of_ble_eq_true rfl)) dX11_next_1 ⟨Nat.le_of_ble_eq_true rfl, Nat.le_of_ble_eq_true rfl⟩)) (fun r_1 hw_1 => ?_)
  obtain rfl : r_1 = (-1) := hw_1
  refine lv_bipush (v := 32) hx hb dX11_next_4 (by decide) ?_
  refine lv_icmp_eq (tgt := 18) hx hb dX11_next_6 (by decide) (fun c_2 => absurd c_2 (by decide)) (fun _ => ?_)
  refine lv_aload_n hx hb dX11_next_9 rfl (lv_at hl 0 rfl) ?_
  have hPc_3 := hP.sub (ws' := [(mo, .inr (11, fmo))]) [0] rfl
  have hDc_3 := hD.sub (ws' := [(mo, .inr (11, fmo))]) [0] (by decide +kernel) rfl
  refine vp_callSi (va_Run.run (va_runV (As := []) (rest := []) ⟨hx, hb, hml, hown, hg⟩ (c_X11_peek l D y s.heap.size mo fmo hmo_3 hmo_4) (cwV 0 hg (px_gV q_7_95 q_7_97 q_p_61 q_1_15 q_7_98) rfl rfl rfl (by decide +kernel) ⟨Nat.le_of_ble_eq_true rfl, Nat.le_of_ble_eq_true rfl⟩) (px_preV hK hPc_3 hDc_3 (ci := 11) (q0 := 0) rfl rfl) rfl rfl hl.1 rfl (lv_room (Nat.le_of_ble_eq_true rfl)) dX11_next_10 ⟨Nat.le_of_ble_eq_true rfl, Nat.le_of_ble_eq_true rfl⟩)) (fun r_3 hw_3 => ?_)
  obtain rfl : r_3 = (-1) := hw_3
  refine lv_bipush (v := 10) hx hb dX11_next_13 (by decide) ?_
  refine lv_icmp_ne (tgt := 31) hx hb dX11_next_15 (by decide) (fun _ => ?_) (fun c_4 => absurd c_4 (by decide))
  refine lv_aload_n hx hb dX11_next_31 rfl (lv_at hl 0 rfl) ?_
  refine lv_aload_n hx hb dX11_next_32 rfl (lv_at hl 0 rfl) ?_
  refine va_get (D := D) (ci := 11) (v := .int 0) (C := RX11) (T := TX11) (N := 65) hx hb hg inGX11 hown hK hP 0 rfl rfl 4 (by decide) (hg _ q_6_130) (fun _ h9 => h9) hmo_4 dX11_next_33 ?_
  refine va_put (D := D) (ci := 11) (v := .int 0) (ty := .int) (C := RX11) (T := TX11) (N := 65) hx hb hg inGX11 tyX11 tyX11_ok nmX11 hown hK hP hD hS 0 rfl rfl 12 (by decide) (hg _ q_6_138) (fun _ h9 => h9) rfl (by decide +kernel) rfl rfl (px_len hmo_12) dX11_next_36 (fun H locs hP hD hS => ?_)
  have hP : va_P D vwCl [(mo, .inr (11, (fmo.set 12 (.int 0))))] H := hP
  have hD : va_D A [(mo, .inr (11, (fmo.set 12 (.int 0))))] := hD
  refine lv_aload_n hx hb dX11_next_39 rfl (lv_at hl 0 rfl) ?_
  refine lv_iconst (v := 0) hx hb dX11_next_40 (by decide) ?_
  refine va_put (D := D) (ci := 11) (v := .int 0) (ty := .int) (C := RX11) (T := TX11) (N := 65) hx hb hg inGX11 tyX11 tyX11_ok nmX11 hown hK hP hD hS 0 rfl rfl 13 (by decide) (hg _ q_6_139) (fun _ h9 => h9) rfl (by decide +kernel) rfl rfl (px_len (px_sn (by decide) hmo_13)) dX11_next_41 (fun H locs hP hD hS => ?_)
  have hP : va_P D vwCl [(mo, .inr (11, ((fmo.set 12 (.int 0)).set 13 (.int 0))))] H := hP
  have hD : va_D A [(mo, .inr (11, ((fmo.set 12 (.int 0)).set 13 (.int 0))))] := hD
  refine lv_aload_n hx hb dX11_next_44 rfl (lv_at hl 0 rfl) ?_
  refine va_get (D := D) (ci := 11) (v := .int 0) (C := RX11) (T := TX11) (N := 65) hx hb hg inGX11 hown hK hP 0 rfl rfl 3 (by decide) (hg _ q_6_129) (fun _ h9 => h9) (px_sn (by decide) (px_sn (by decide) hmo_3)) dX11_next_45 ?_
  refine lv_aload_n hx hb dX11_next_48 rfl (lv_at hl 0 rfl) ?_
  refine va_get (D := D) (ci := 11) (v := .int 200) (C := RX11) (T := TX11) (N := 65) hx hb hg inGX11 hown hK hP 0 rfl rfl 5 (by decide) (hg _ q_6_131) (fun _ h9 => h9) (px_sn (by decide) (px_sn (by decide) hmo_5)) dX11_next_49 ?_
  refine lv_icmp_le (tgt := 80) hx hb dX11_next_52 (by decide) (fun _ => ?_) (fun c_5 => absurd c_5 (by decide))
  refine lv_aload_n hx hb dX11_next_80 rfl (lv_at hl 0 rfl) ?_
  have hPc_6 := hP.sub (ws' := [(mo, .inr (11, ((fmo.set 12 (.int 0)).set 13 (.int 0))))]) [0] rfl
  have hDc_6 := hD.sub (ws' := [(mo, .inr (11, ((fmo.set 12 (.int 0)).set 13 (.int 0))))]) [0] (by decide +kernel) rfl
  refine vp_callSi (va_Run.run (va_runV (As := []) (rest := []) ⟨hx, hb, hml, hown, hg⟩ (c_X11_peek l D y H.size mo ((fmo.set 12 (.int 0)).set 13 (.int 0)) (px_sn (by decide) (px_sn (by decide) hmo_3)) (px_sn (by decide) (px_sn (by decide) hmo_4))) (cwV 0 hg (px_gV q_7_95 q_7_97 q_p_61 q_1_15 q_7_98) rfl rfl rfl (by decide +kernel) ⟨Nat.le_of_ble_eq_true rfl, Nat.le_of_ble_eq_true rfl⟩) (px_preV hK hPc_6 hDc_6 (ci := 11) (q0 := 0) rfl rfl) rfl rfl hl.1 rfl (lv_room (Nat.le_of_ble_eq_true rfl)) dX11_next_81 ⟨Nat.le_of_ble_eq_true rfl, Nat.le_of_ble_eq_true rfl⟩)) (fun r_6 hw_6 => ?_)
  obtain rfl : r_6 = (-1) := hw_6
  refine lv_istore_n (lv' := [(1, .int (-1)), (0, .ref mo)]) hx hb dX11_next_84 rfl hl (by decide) rfl (fun ls hl => ?_)
  refine lv_iload_n hx hb dX11_next_85 rfl (lv_at hl 0 rfl) ?_
  refine lv_if_ge (tgt := 95) hx hb dX11_next_86 (by decide) (fun c_7 => absurd c_7 (by decide)) (fun _ => ?_)
  refine lv_aload_n hx hb dX11_next_89 rfl (lv_at hl 1 rfl) ?_
  refine lv_iconst (v := 0) hx hb dX11_next_90 (by decide) ?_
  refine va_put (D := D) (ci := 11) (v := .int 0) (ty := .int) (C := RX11) (T := TX11) (N := 65) hx hb hg inGX11 tyX11 tyX11_ok nmX11 hown hK hP hD hS 0 rfl rfl 11 (by decide) (hg _ q_6_137) (fun _ h9 => h9) rfl (by decide +kernel) rfl rfl (px_len (px_sn (by decide) (px_sn (by decide) hmo_11))) dX11_next_91 (fun H locs hP hD hS => ?_)
  have hP : va_P D vwCl [(mo, .inr (11, (((fmo.set 12 (.int 0)).set 13 (.int 0)).set 11 (.int 0))))] H := hP
  have hD : va_D A [(mo, .inr (11, (((fmo.set 12 (.int 0)).set 13 (.int 0)).set 11 (.int 0))))] := hD
  have hP9 := hP.sub (ws' := [(mo, .inr (11, (((fmo.set 12 (.int 0)).set 13 (.int 0)).set 11 (.int 0))))]) [0] rfl
  have hD9 := hD.sub (ws' := [(mo, .inr (11, (((fmo.set 12 (.int 0)).set 13 (.int 0)).set 11 (.int 0))))]) [0] (by decide +kernel) rfl
  exact W.vret hx hb hr (fun t ht hW => ⟨⟨(), rfl, trivial, by rw [ht]; exact hP9, hD9⟩, hS.F ht⟩) hS.2.2 dX11_next_94

set_option maxHeartbeats 4000000 in
set_option maxRecDepth 100000 in
theorem c_X11_isWord (l : Launch) (D : va_G) (y : Nat → ClassId) (sz : Nat) (mo : Nat) (fmo : List Value) (p0 : Int64) (hmo_11 : fmo[11]? = some (.int 0)) : Met l yX11_isWord (px_w yX11_isWord cX11_isWord 3 (some .boolean)) ({ frames := 0, cells := 0, slots := 0, locals := 0 }) (va_Pc [.ref mo, .long p0] (px_P D y sz [(mo, .inr (11, fmo))])) (vp_Si (fun r : Int32 => r = 0)) 0 0 (fun _ => False) := by
  refine Met.ofW (cc := cX11_isWord) (maxL := 3) (ret := (some .boolean)) (by decide) rfl ?_
  intro p e s m args below meth c s₁ B hml hv
  obtain ⟨rfl, hsz, hP, hK, hD0⟩ := hv
  have hx := B.exec
  have hb := B.bytes
  have hr := B.returns
  have hts := atoms_spec (ws := px_w yX11_isWord cX11_isWord 3 (some .boolean)) B.pre
  have hg : ∀ w ∈ gw, w.before [.ref mo, .long p0].toArray s = true := fun w h => hts w (List.mem_cons_of_mem _ h)
  have hown : s.vm.findClass RX11 = some m.cls := findClass_of_methodNamed B.named
  have hlocks := B.notSynchronized
  subst hsz
  have hD := hD0
  have hP : va_P D vwCl [(mo, .inr (11, fmo))] s.heap := hP
  have hl := lv_entry ([.ref mo, .long p0]) (n := 3) (Nat.le_of_ble_eq_true rfl)
  rw [lg_entry_eq]
  generalize (lg_sl ([.ref mo, .long p0]) ++ List.replicate (3 - (lg_sl ([.ref mo, .long p0])).length) Slot.unset).toArray = ls at hl ⊢
  have hl : lv_has ls 3 [(0, .ref mo), (1, .long p0)] := hl
  refine lv_aload_n hx hb dX11_isWord_0 rfl (lv_at hl 0 rfl) ?_
  refine va_get (D := D) (ci := 11) (v := .int 0) (C := RX11) (T := TX11) (N := 65) hx hb hg inGX11 hown hK hP 0 rfl rfl 11 (by decide) (hg _ q_6_137) (fun _ h9 => h9) hmo_11 dX11_isWord_1 ?_
  refine lv_iconst (v := 1) hx hb dX11_isWord_4 (by decide) ?_
  refine lv_icmp_ne (tgt := 21) hx hb dX11_isWord_5 (by decide) (fun _ => ?_) (fun c_1 => absurd c_1 (by decide))
  refine lv_iconst (v := 0) hx hb dX11_isWord_21 (by decide) ?_
  exact W.zret (v := 0) hx hb hr (by decide) (fun t ht hW => ⟨_, rfl, rfl, ht⟩) (fun q h => by cases h) dX11_isWord_22

set_option maxHeartbeats 4000000 in
set_option maxRecDepth 100000 in
theorem c_X11_isSign (l : Launch) (D : va_G) (y : Nat → ClassId) (sz : Nat) (mo : Nat) (fmo : List Value) (p0 : Int32) (hmo_11 : fmo[11]? = some (.int 0)) : Met l yX11_isSign (px_w yX11_isSign cX11_isSign 2 (some .boolean)) ({ frames := 0, cells := 0, slots := 0, locals := 0 }) (va_Pc [.ref mo, .int p0] (px_P D y sz [(mo, .inr (11, fmo))])) (vp_Si (fun r : Int32 => r = 0)) 0 0 (fun _ => False) := by
  refine Met.ofW (cc := cX11_isSign) (maxL := 2) (ret := (some .boolean)) (by decide) rfl ?_
  intro p e s m args below meth c s₁ B hml hv
  obtain ⟨rfl, hsz, hP, hK, hD0⟩ := hv
  have hx := B.exec
  have hb := B.bytes
  have hr := B.returns
  have hts := atoms_spec (ws := px_w yX11_isSign cX11_isSign 2 (some .boolean)) B.pre
  have hg : ∀ w ∈ gw, w.before [.ref mo, .int p0].toArray s = true := fun w h => hts w (List.mem_cons_of_mem _ h)
  have hown : s.vm.findClass RX11 = some m.cls := findClass_of_methodNamed B.named
  have hlocks := B.notSynchronized
  subst hsz
  have hD := hD0
  have hP : va_P D vwCl [(mo, .inr (11, fmo))] s.heap := hP
  have hl := lv_entry ([.ref mo, .int p0]) (n := 2) (Nat.le_of_ble_eq_true rfl)
  rw [lg_entry_eq]
  generalize (lg_sl ([.ref mo, .int p0]) ++ List.replicate (2 - (lg_sl ([.ref mo, .int p0])).length) Slot.unset).toArray = ls at hl ⊢
  have hl : lv_has ls 2 [(0, .ref mo), (1, .int p0)] := hl
  refine lv_aload_n hx hb dX11_isSign_0 rfl (lv_at hl 0 rfl) ?_
  refine va_get (D := D) (ci := 11) (v := .int 0) (C := RX11) (T := TX11) (N := 65) hx hb hg inGX11 hown hK hP 0 rfl rfl 11 (by decide) (hg _ q_6_137) (fun _ h9 => h9) hmo_11 dX11_isSign_1 ?_
  refine lv_iconst (v := 3) hx hb dX11_isSign_4 (by decide) ?_
  refine lv_icmp_ne (tgt := 20) hx hb dX11_isSign_5 (by decide) (fun _ => ?_) (fun c_1 => absurd c_1 (by decide))
  refine lv_iconst (v := 0) hx hb dX11_isSign_20 (by decide) ?_
  exact W.zret (v := 0) hx hb hr (by decide) (fun t ht hW => ⟨_, rfl, rfl, ht⟩) (fun q h => by cases h) dX11_isSign_21

set_option maxHeartbeats 4000000 in
set_option maxRecDepth 100000 in
theorem c_X11_leafOf (l : Launch) (D : va_G) (y : Nat → ClassId) (sz : Nat) (mo : Nat) (fmo : List Value) (hmo_11 : fmo[11]? = some (.int 0)) : Met l yX11_leafOf (px_w yX11_leafOf cX11_leafOf 1 (some .int)) ({ frames := 1, cells := 0, slots := 0, locals := 22 }) (va_Pc [.ref mo] (px_P D y sz [(mo, .inr (11, fmo))])) (vp_Si (fun r : Int32 => r = (-1))) 0 0 (fun _ => False) := by
  refine Met.ofW (cc := cX11_leafOf) (maxL := 1) (ret := (some .int)) (by decide) rfl ?_
  intro p e s m args below meth c s₁ B hml hv
  obtain ⟨rfl, hsz, hP, hK, hD0⟩ := hv
  have hx := B.exec
  have hb := B.bytes
  have hr := B.returns
  have hts := atoms_spec (ws := px_w yX11_leafOf cX11_leafOf 1 (some .int)) B.pre
  have hg : ∀ w ∈ gw, w.before [.ref mo].toArray s = true := fun w h => hts w (List.mem_cons_of_mem _ h)
  have hown : s.vm.findClass RX11 = some m.cls := findClass_of_methodNamed B.named
  have hlocks := B.notSynchronized
  subst hsz
  have hD := hD0
  have hP : va_P D vwCl [(mo, .inr (11, fmo))] s.heap := hP
  have hl := lv_entry ([.ref mo]) (n := 1) (Nat.le_of_ble_eq_true rfl)
  rw [lg_entry_eq]
  generalize (lg_sl ([.ref mo]) ++ List.replicate (1 - (lg_sl ([.ref mo])).length) Slot.unset).toArray = ls at hl ⊢
  have hl : lv_has ls 1 [(0, .ref mo)] := hl
  refine lv_aload_n hx hb dX11_leafOf_0 rfl (lv_at hl 0 rfl) ?_
  refine lv_ldc2 (v := 1651470187) hx hb hown (hg _ q_6_119) dX11_leafOf_1 ?_
  have hPc_1 := hP.sub (ws' := [(mo, .inr (11, fmo))]) [0] rfl
  have hDc_1 := hD.sub (ws' := [(mo, .inr (11, fmo))]) [0] (by decide +kernel) rfl
  refine vp_callSi (va_Run.run (va_runV (As := [.long 1651470187]) (rest := []) ⟨hx, hb, hml, hown, hg⟩ (c_X11_isWord l D y s.heap.size mo fmo 1651470187 hmo_11) (cwV 1 hg (px_gV q_7_109 q_7_111 q_p_63 q_1_15 q_7_112) rfl rfl rfl (by decide +kernel) ⟨Nat.le_of_ble_eq_true rfl, Nat.le_of_ble_eq_true rfl⟩) (px_preV hK hPc_1 hDc_1 (ci := 11) (q0 := 0) rfl rfl) rfl rfl hl.1 rfl (lv_room (Nat.le_of_ble_eq_true rfl)) dX11_leafOf_4 ⟨Nat.le_of_ble_eq_true rfl, Nat.le_of_ble_eq_true rfl⟩)) (fun r_1 hw_1 => ?_)
  obtain rfl : r_1 = 0 := hw_1
  refine lv_if_eq (tgt := 14) hx hb dX11_leafOf_7 (by decide) (fun _ => ?_) (fun c_2 => absurd c_2 (by decide))
  refine lv_aload_n hx hb dX11_leafOf_14 rfl (lv_at hl 0 rfl) ?_
  refine lv_ldc2 (v := 461414299502) hx hb hown (hg _ q_6_120) dX11_leafOf_15 ?_
  have hPc_3 := hP.sub (ws' := [(mo, .inr (11, fmo))]) [0] rfl
  have hDc_3 := hD.sub (ws' := [(mo, .inr (11, fmo))]) [0] (by decide +kernel) rfl
  refine vp_callSi (va_Run.run (va_runV (As := [.long 461414299502]) (rest := []) ⟨hx, hb, hml, hown, hg⟩ (c_X11_isWord l D y s.heap.size mo fmo 461414299502 hmo_11) (cwV 1 hg (px_gV q_7_109 q_7_111 q_p_63 q_1_15 q_7_112) rfl rfl rfl (by decide +kernel) ⟨Nat.le_of_ble_eq_true rfl, Nat.le_of_ble_eq_true rfl⟩) (px_preV hK hPc_3 hDc_3 (ci := 11) (q0 := 0) rfl rfl) rfl rfl hl.1 rfl (lv_room (Nat.le_of_ble_eq_true rfl)) dX11_leafOf_18 ⟨Nat.le_of_ble_eq_true rfl, Nat.le_of_ble_eq_true rfl⟩)) (fun r_3 hw_3 => ?_)
  obtain rfl : r_3 = 0 := hw_3
  refine lv_if_eq (tgt := 28) hx hb dX11_leafOf_21 (by decide) (fun _ => ?_) (fun c_4 => absurd c_4 (by decide))
  refine lv_aload_n hx hb dX11_leafOf_28 rfl (lv_at hl 0 rfl) ?_
  refine lv_ldc2 (v := 1751477348) hx hb hown (hg _ q_6_121) dX11_leafOf_29 ?_
  have hPc_5 := hP.sub (ws' := [(mo, .inr (11, fmo))]) [0] rfl
  have hDc_5 := hD.sub (ws' := [(mo, .inr (11, fmo))]) [0] (by decide +kernel) rfl
  refine vp_callSi (va_Run.run (va_runV (As := [.long 1751477348]) (rest := []) ⟨hx, hb, hml, hown, hg⟩ (c_X11_isWord l D y s.heap.size mo fmo 1751477348 hmo_11) (cwV 1 hg (px_gV q_7_109 q_7_111 q_p_63 q_1_15 q_7_112) rfl rfl rfl (by decide +kernel) ⟨Nat.le_of_ble_eq_true rfl, Nat.le_of_ble_eq_true rfl⟩) (px_preV hK hPc_5 hDc_5 (ci := 11) (q0 := 0) rfl rfl) rfl rfl hl.1 rfl (lv_room (Nat.le_of_ble_eq_true rfl)) dX11_leafOf_32 ⟨Nat.le_of_ble_eq_true rfl, Nat.le_of_ble_eq_true rfl⟩)) (fun r_5 hw_5 => ?_)
  obtain rfl : r_5 = 0 := hw_5
  refine lv_if_eq (tgt := 42) hx hb dX11_leafOf_35 (by decide) (fun _ => ?_) (fun c_6 => absurd c_6 (by decide))
  refine lv_aload_n hx hb dX11_leafOf_42 rfl (lv_at hl 0 rfl) ?_
  refine lv_ldc2 (v := 448311223411) hx hb hown (hg _ q_6_122) dX11_leafOf_43 ?_
  have hPc_7 := hP.sub (ws' := [(mo, .inr (11, fmo))]) [0] rfl
  have hDc_7 := hD.sub (ws' := [(mo, .inr (11, fmo))]) [0] (by decide +kernel) rfl
  refine vp_callSi (va_Run.run (va_runV (As := [.long 448311223411]) (rest := []) ⟨hx, hb, hml, hown, hg⟩ (c_X11_isWord l D y s.heap.size mo fmo 448311223411 hmo_11) (cwV 1 hg (px_gV q_7_109 q_7_111 q_p_63 q_1_15 q_7_112) rfl rfl rfl (by decide +kernel) ⟨Nat.le_of_ble_eq_true rfl, Nat.le_of_ble_eq_true rfl⟩) (px_preV hK hPc_7 hDc_7 (ci := 11) (q0 := 0) rfl rfl) rfl rfl hl.1 rfl (lv_room (Nat.le_of_ble_eq_true rfl)) dX11_leafOf_46 ⟨Nat.le_of_ble_eq_true rfl, Nat.le_of_ble_eq_true rfl⟩)) (fun r_7 hw_7 => ?_)
  obtain rfl : r_7 = 0 := hw_7
  refine lv_if_eq (tgt := 56) hx hb dX11_leafOf_49 (by decide) (fun _ => ?_) (fun c_8 => absurd c_8 (by decide))
  refine lv_aload_n hx hb dX11_leafOf_56 rfl (lv_at hl 0 rfl) ?_
  refine lv_ldc2 (v := 114784635741540) hx hb hown (hg _ q_6_123) dX11_leafOf_57 ?_
  have hPc_9 := hP.sub (ws' := [(mo, .inr (11, fmo))]) [0] rfl
  have hDc_9 := hD.sub (ws' := [(mo, .inr (11, fmo))]) [0] (by decide +kernel) rfl
  refine vp_callSi (va_Run.run (va_runV (As := [.long 114784635741540]) (rest := []) ⟨hx, hb, hml, hown, hg⟩ (c_X11_isWord l D y s.heap.size mo fmo 114784635741540 hmo_11) (cwV 1 hg (px_gV q_7_109 q_7_111 q_p_63 q_1_15 q_7_112) rfl rfl rfl (by decide +kernel) ⟨Nat.le_of_ble_eq_true rfl, Nat.le_of_ble_eq_true rfl⟩) (px_preV hK hPc_9 hDc_9 (ci := 11) (q0 := 0) rfl rfl) rfl rfl hl.1 rfl (lv_room (Nat.le_of_ble_eq_true rfl)) dX11_leafOf_60 ⟨Nat.le_of_ble_eq_true rfl, Nat.le_of_ble_eq_true rfl⟩)) (fun r_9 hw_9 => ?_)
  obtain rfl : r_9 = 0 := hw_9
  refine lv_if_eq (tgt := 70) hx hb dX11_leafOf_63 (by decide) (fun _ => ?_) (fun c_10 => absurd c_10 (by decide))
  refine lv_aload_n hx hb dX11_leafOf_70 rfl (lv_at hl 0 rfl) ?_
  refine lv_ldc2 (v := 1836020596) hx hb hown (hg _ q_6_124) dX11_leafOf_71 ?_
  have hPc_11 := hP.sub (ws' := [(mo, .inr (11, fmo))]) [0] rfl
  have hDc_11 := hD.sub (ws' := [(mo, .inr (11, fmo))]) [0] (by decide +kernel) rfl
  refine vp_callSi (va_Run.run (va_runV (As := [.long 1836020596]) (rest := []) ⟨hx, hb, hml, hown, hg⟩ (c_X11_isWord l D y s.heap.size mo fmo 1836020596 hmo_11) (cwV 1 hg (px_gV q_7_109 q_7_111 q_p_63 q_1_15 q_7_112) rfl rfl rfl (by decide +kernel) ⟨Nat.le_of_ble_eq_true rfl, Nat.le_of_ble_eq_true rfl⟩) (px_preV hK hPc_11 hDc_11 (ci := 11) (q0 := 0) rfl rfl) rfl rfl hl.1 rfl (lv_room (Nat.le_of_ble_eq_true rfl)) dX11_leafOf_74 ⟨Nat.le_of_ble_eq_true rfl, Nat.le_of_ble_eq_true rfl⟩)) (fun r_11 hw_11 => ?_)
  obtain rfl : r_11 = 0 := hw_11
  refine lv_if_eq (tgt := 84) hx hb dX11_leafOf_77 (by decide) (fun _ => ?_) (fun c_12 => absurd c_12 (by decide))
  refine lv_aload_n hx hb dX11_leafOf_84 rfl (lv_at hl 0 rfl) ?_
  refine lv_ldc2 (v := 482854658917) hx hb hown (hg _ q_6_125) dX11_leafOf_85 ?_
  have hPc_13 := hP.sub (ws' := [(mo, .inr (11, fmo))]) [0] rfl
  have hDc_13 := hD.sub (ws' := [(mo, .inr (11, fmo))]) [0] (by decide +kernel) rfl
  refine vp_callSi (va_Run.run (va_runV (As := [.long 482854658917]) (rest := []) ⟨hx, hb, hml, hown, hg⟩ (c_X11_isWord l D y s.heap.size mo fmo 482854658917 hmo_11) (cwV 1 hg (px_gV q_7_109 q_7_111 q_p_63 q_1_15 q_7_112) rfl rfl rfl (by decide +kernel) ⟨Nat.le_of_ble_eq_true rfl, Nat.le_of_ble_eq_true rfl⟩) (px_preV hK hPc_13 hDc_13 (ci := 11) (q0 := 0) rfl rfl) rfl rfl hl.1 rfl (lv_room (Nat.le_of_ble_eq_true rfl)) dX11_leafOf_88 ⟨Nat.le_of_ble_eq_true rfl, Nat.le_of_ble_eq_true rfl⟩)) (fun r_13 hw_13 => ?_)
  obtain rfl : r_13 = 0 := hw_13
  refine lv_if_eq (tgt := 99) hx hb dX11_leafOf_91 (by decide) (fun _ => ?_) (fun c_14 => absurd c_14 (by decide))
  refine lv_iconst (v := (-1)) hx hb dX11_leafOf_99 (by decide) ?_
  exact W.iret (v := (-1)) hx hb hr (fun t ht hW => ⟨_, rfl, rfl, ht⟩) (fun q h => by cases h) dX11_leafOf_100

set_option maxHeartbeats 4000000 in
set_option maxRecDepth 100000 in
theorem c_X11_bad (l : Launch) (D : va_G) (y : Nat → ClassId) (sz : Nat) (mo : Nat) (fmo : List Value) (p0 : Int32) (hmo_12 : fmo[12]? = some (.int 0)) (hmo_15 : fmo[15]? = some (.int 0)) (hmo_16 : fmo[16]? = some (.int 0)) : Met l yX11_bad (px_w yX11_bad cX11_bad 2 (some .boolean)) ({ frames := 0, cells := 0, slots := 0, locals := 0 }) (va_Pc [.ref mo, .int p0] (px_P D y sz [(mo, .inr (11, fmo))])) (va_Qi (fun (r : Int32) (u : Unit) => r = 0) (fun (u : Unit) t => va_P D vwCl [(mo, .inr (11, ((fmo.set 15 (.int p0)).set 16 (.int 0))))] t.heap ∧ va_D (va_A [(mo, .inr (11, fmo))] sz) [(mo, .inr (11, ((fmo.set 15 (.int p0)).set 16 (.int 0))))]) (va_A [(mo, .inr (11, fmo))] sz)) 0 0 (va_A [(mo, .inr (11, fmo))] sz) := by
  refine Met.ofW (cc := cX11_bad) (maxL := 2) (ret := (some .boolean)) (by decide) rfl ?_
  intro p e s m args below meth c s₁ B hml hv
  obtain ⟨rfl, hsz, hP, hK, hD0⟩ := hv
  have hx := B.exec
  have hb := B.bytes
  have hr := B.returns
  have hts := atoms_spec (ws := px_w yX11_bad cX11_bad 2 (some .boolean)) B.pre
  have hg : ∀ w ∈ gw, w.before [.ref mo, .int p0].toArray s = true := fun w h => hts w (List.mem_cons_of_mem _ h)
  have hown : s.vm.findClass RX11 = some m.cls := findClass_of_methodNamed B.named
  have hlocks := B.notSynchronized
  subst hsz
  have hD := hD0.self (sz := s.heap.size)
  generalize hAe : va_A [(mo, .inr (11, fmo))] s.heap.size = A at hD ⊢
  have hA : ∀ q : Nat, s.heap.size ≤ q → A q := fun q h => by rw [← hAe]; exact Or.inr h
  have hS : va_S A s.heap s.heap [] := va_S.rf
  have hP : va_P D vwCl [(mo, .inr (11, fmo))] s.heap := hP
  have hl := lv_entry ([.ref mo, .int p0]) (n := 2) (Nat.le_of_ble_eq_true rfl)
  rw [lg_entry_eq]
  generalize (lg_sl ([.ref mo, .int p0]) ++ List.replicate (2 - (lg_sl ([.ref mo, .int p0])).length) Slot.unset).toArray = ls at hl ⊢
  have hl : lv_has ls 2 [(0, .ref mo), (1, .int p0)] := hl
  refine lv_aload_n hx hb dX11_bad_0 rfl (lv_at hl 0 rfl) ?_
  refine lv_iload_n hx hb dX11_bad_1 rfl (lv_at hl 1 rfl) ?_
  refine va_put (D := D) (ci := 11) (v := .int p0) (ty := .int) (C := RX11) (T := TX11) (N := 65) hx hb hg inGX11 tyX11 tyX11_ok nmX11 hown hK hP hD hS 0 rfl rfl 15 (by decide) (hg _ q_6_141) (fun _ h9 => h9) rfl (by decide +kernel) rfl rfl (px_len hmo_15) dX11_bad_2 (fun H locs hP hD hS => ?_)
  have hP : va_P D vwCl [(mo, .inr (11, (fmo.set 15 (.int p0))))] H := hP
  have hD : va_D A [(mo, .inr (11, (fmo.set 15 (.int p0))))] := hD
  refine lv_aload_n hx hb dX11_bad_5 rfl (lv_at hl 0 rfl) ?_
  refine lv_aload_n hx hb dX11_bad_6 rfl (lv_at hl 0 rfl) ?_
  refine va_get (D := D) (ci := 11) (v := .int 0) (C := RX11) (T := TX11) (N := 65) hx hb hg inGX11 hown hK hP 0 rfl rfl 12 (by decide) (hg _ q_6_138) (fun _ h9 => h9) (px_sn (by decide) hmo_12) dX11_bad_7 ?_
  refine va_put (D := D) (ci := 11) (v := .int 0) (ty := .int) (C := RX11) (T := TX11) (N := 65) hx hb hg inGX11 tyX11 tyX11_ok nmX11 hown hK hP hD hS 0 rfl rfl 16 (by decide) (hg _ q_6_142) (fun _ h9 => h9) rfl (by decide +kernel) rfl rfl (px_len (px_sn (by decide) hmo_16)) dX11_bad_10 (fun H locs hP hD hS => ?_)
  have hP : va_P D vwCl [(mo, .inr (11, ((fmo.set 15 (.int p0)).set 16 (.int 0))))] H := hP
  have hD : va_D A [(mo, .inr (11, ((fmo.set 15 (.int p0)).set 16 (.int 0))))] := hD
  refine lv_iconst (v := 0) hx hb dX11_bad_13 (by decide) ?_
  have hP9 := hP.sub (ws' := [(mo, .inr (11, ((fmo.set 15 (.int p0)).set 16 (.int 0))))]) [0] rfl
  have hD9 := hD.sub (ws' := [(mo, .inr (11, ((fmo.set 15 (.int p0)).set 16 (.int 0))))]) [0] (by decide +kernel) rfl
  exact W.zret (v := 0) hx hb hr (by decide) (fun t ht hW => ⟨⟨_, (), rfl, rfl, by rw [ht]; exact hP9, hD9⟩, hS.F ht⟩) hS.2.2 dX11_bad_14

set_option maxHeartbeats 4000000 in
set_option maxRecDepth 100000 in
theorem c_X11_operand (l : Launch) (D : va_G) (y : Nat → ClassId) (sz : Nat) (mo : Nat) (fmo : List Value) (hmo_11 : fmo[11]? = some (.int 0)) (hmo_12 : fmo[12]? = some (.int 0)) (hmo_15 : fmo[15]? = some (.int 0)) (hmo_16 : fmo[16]? = some (.int 0)) : Met l yX11_operand (px_w yX11_operand cX11_operand 5 (some .boolean)) ({ frames := 2, cells := 0, slots := 0, locals := 42 }) (va_Pc [.ref mo] (px_P D y sz [(mo, .inr (11, fmo))])) (va_Qi (fun (r : Int32) (u : Unit) => r = 0) (fun (u : Unit) t => va_P D vwCl [(mo, .inr (11, ((fmo.set 15 (.int 1)).set 16 (.int 0))))] t.heap ∧ va_D (va_A [(mo, .inr (11, fmo))] sz) [(mo, .inr (11, ((fmo.set 15 (.int 1)).set 16 (.int 0))))]) (va_A [(mo, .inr (11, fmo))] sz)) 0 0 (va_A [(mo, .inr (11, fmo))] sz) := by
  refine Met.ofW (cc := cX11_operand) (maxL := 5) (ret := (some .boolean)) (by decide) rfl ?_
  intro p e s m args below meth c s₁ B hml hv
  obtain ⟨rfl, hsz, hP, hK, hD0⟩ := hv
  have hx := B.exec
  have hb := B.bytes
  have hr := B.returns
  have hts := atoms_spec (ws := px_w yX11_operand cX11_operand 5 (some .boolean)) B.pre
  have hg : ∀ w ∈ gw, w.before [.ref mo].toArray s = true := fun w h => hts w (List.mem_cons_of_mem _ h)
  have hown : s.vm.findClass RX11 = some m.cls := findClass_of_methodNamed B.named
  have hlocks := B.notSynchronized
  subst hsz
  have hD := hD0.self (sz := s.heap.size)
  generalize hAe : va_A [(mo, .inr (11, fmo))] s.heap.size = A at hD ⊢
  have hA : ∀ q : Nat, s.heap.size ≤ q → A q := fun q h => by rw [← hAe]; exact Or.inr h
  have hS : va_S A s.heap s.heap [] := va_S.rf
  have hP : va_P D vwCl [(mo, .inr (11, fmo))] s.heap := hP
  have hl := lv_entry ([.ref mo]) (n := 5) (Nat.le_of_ble_eq_true rfl)
  rw [lg_entry_eq]
  generalize (lg_sl ([.ref mo]) ++ List.replicate (5 - (lg_sl ([.ref mo])).length) Slot.unset).toArray = ls at hl ⊢
  have hl : lv_has ls 5 [(0, .ref mo)] := hl
  refine lv_aload_n hx hb dX11_operand_0 rfl (lv_at hl 0 rfl) ?_
  refine lv_ldc2 (v := 7237492) hx hb hown (hg _ q_6_118) dX11_operand_1 ?_
  have hPc_1 := hP.sub (ws' := [(mo, .inr (11, fmo))]) [0] rfl
  have hDc_1 := hD.sub (ws' := [(mo, .inr (11, fmo))]) [0] (by decide +kernel) rfl
  refine vp_callSi (va_Run.run (va_runV (As := [.long 7237492]) (rest := []) ⟨hx, hb, hml, hown, hg⟩ (c_X11_isWord l D y s.heap.size mo fmo 7237492 hmo_11) (cwV 1 hg (px_gV q_7_109 q_7_111 q_p_63 q_1_15 q_7_112) rfl rfl rfl (by decide +kernel) ⟨Nat.le_of_ble_eq_true rfl, Nat.le_of_ble_eq_true rfl⟩) (px_preV hK hPc_1 hDc_1 (ci := 11) (q0 := 0) rfl rfl) rfl rfl hl.1 rfl (lv_room (Nat.le_of_ble_eq_true rfl)) dX11_operand_4 ⟨Nat.le_of_ble_eq_true rfl, Nat.le_of_ble_eq_true rfl⟩)) (fun r_1 hw_1 => ?_)
  obtain rfl : r_1 = 0 := hw_1
  refine lv_istore_n (lv' := [(1, .int 0), (0, .ref mo)]) hx hb dX11_operand_7 rfl hl (by decide) rfl (fun ls hl => ?_)
  refine lv_aload_n hx hb dX11_operand_8 rfl (lv_at hl 1 rfl) ?_
  refine lv_bipush (v := 40) hx hb dX11_operand_9 (by decide) ?_
  have hPc_2 := hP.sub (ws' := [(mo, .inr (11, fmo))]) [0] rfl
  have hDc_2 := hD.sub (ws' := [(mo, .inr (11, fmo))]) [0] (by decide +kernel) rfl
  refine vp_callSi (va_Run.run (va_runV (As := [.int 40]) (rest := []) ⟨hx, hb, hml, hown, hg⟩ (c_X11_isSign l D y s.heap.size mo fmo 40 hmo_11) (cwV 1 hg (px_gV q_7_140 q_7_142 q_p_70 q_1_15 q_7_143) rfl rfl rfl (by decide +kernel) ⟨Nat.le_of_ble_eq_true rfl, Nat.le_of_ble_eq_true rfl⟩) (px_preV hK hPc_2 hDc_2 (ci := 11) (q0 := 0) rfl rfl) rfl rfl hl.1 rfl (lv_room (Nat.le_of_ble_eq_true rfl)) dX11_operand_11 ⟨Nat.le_of_ble_eq_true rfl, Nat.le_of_ble_eq_true rfl⟩)) (fun r_2 hw_2 => ?_)
  obtain rfl : r_2 = 0 := hw_2
  refine lv_istore_n (lv' := [(2, .int 0), (1, .int 0), (0, .ref mo)]) hx hb dX11_operand_14 rfl hl (by decide) rfl (fun ls hl => ?_)
  refine lv_aload_n hx hb dX11_operand_15 rfl (lv_at hl 2 rfl) ?_
  have hPc_3 := hP.sub (ws' := [(mo, .inr (11, fmo))]) [0] rfl
  have hDc_3 := hD.sub (ws' := [(mo, .inr (11, fmo))]) [0] (by decide +kernel) rfl
  refine vp_callSi (va_Run.run (va_runV (As := []) (rest := []) ⟨hx, hb, hml, hown, hg⟩ (c_X11_leafOf l D y s.heap.size mo fmo hmo_11) (cwV 0 hg (px_gV q_8_228 q_8_230 q_p_117 q_1_15 q_8_231) rfl rfl rfl (by decide +kernel) ⟨Nat.le_of_ble_eq_true rfl, Nat.le_of_ble_eq_true rfl⟩) (px_preV hK hPc_3 hDc_3 (ci := 11) (q0 := 0) rfl rfl) rfl rfl hl.1 rfl (lv_room (Nat.le_of_ble_eq_true rfl)) dX11_operand_16 ⟨Nat.le_of_ble_eq_true rfl, Nat.le_of_ble_eq_true rfl⟩)) (fun r_3 hw_3 => ?_)
  obtain rfl : r_3 = (-1) := hw_3
  refine lv_istore_n (lv' := [(3, .int (-1)), (2, .int 0), (1, .int 0), (0, .ref mo)]) hx hb dX11_operand_19 rfl hl (by decide) rfl (fun ls hl => ?_)
  refine lv_iload_n hx hb dX11_operand_20 rfl (lv_at hl 2 rfl) ?_
  refine lv_if_ne (tgt := 38) hx hb dX11_operand_21 (by decide) (fun c_4 => absurd c_4 (by decide)) (fun _ => ?_)
  refine lv_iload_n hx hb dX11_operand_24 rfl (lv_at hl 1 rfl) ?_
  refine lv_if_ne (tgt := 38) hx hb dX11_operand_25 (by decide) (fun c_5 => absurd c_5 (by decide)) (fun _ => ?_)
  refine lv_iload_n hx hb dX11_operand_28 rfl (lv_at hl 0 rfl) ?_
  refine lv_if_ge (tgt := 38) hx hb dX11_operand_29 (by decide) (fun c_6 => absurd c_6 (by decide)) (fun _ => ?_)
  refine lv_aload_n hx hb dX11_operand_32 rfl (lv_at hl 3 rfl) ?_
  refine lv_iconst (v := 1) hx hb dX11_operand_33 (by decide) ?_
  have hPc_7 := hP.sub (ws' := [(mo, .inr (11, fmo))]) [0] rfl
  have hDc_7 := hD.sub (ws' := [(mo, .inr (11, fmo))]) [0] (by decide +kernel) rfl
  have hFc_7 := va_free (wc := [(mo, .inr (11, fmo))]) hD hS hA [0] rfl
  refine va_calli (va_runV (As := [.int 1]) (rest := []) ⟨hx, hb, hml, hown, hg⟩ (c_X11_bad l D y s.heap.size mo fmo 1 hmo_12 hmo_15 hmo_16) (cwV 1 hg (px_gV q_7_113 q_7_115 q_p_64 q_1_15 q_7_116) rfl rfl rfl (by decide +kernel) ⟨Nat.le_of_ble_eq_true rfl, Nat.le_of_ble_eq_true rfl⟩) (px_preV hK hPc_7 hDc_7 (ci := 11) (q0 := 0) rfl rfl) rfl rfl hl.1 rfl (lv_room (Nat.le_of_ble_eq_true rfl)) dX11_operand_34 ⟨Nat.le_of_ble_eq_true rfl, Nat.le_of_ble_eq_true rfl⟩) hS (fun q _ h => hFc_7 q h) hFc_7 (fun r_7 u_7 t_7 H1 locs ht_7 hvm_7 hw_7 hB_7 hz_7 hk_7 hS => ?_)
  refine W.cs (cells' := 0) (slots' := 0) rfl rfl ?_
  obtain ⟨hP1_7, hD1_7⟩ := hB_7
  rw [ht_7] at hP1_7
  obtain ⟨hP, hD⟩ := va_join (wr := []) (w1 := [(mo, .inr (11, ((fmo.set 15 (.int 1)).set 16 (.int 0))))]) hP hD [0] [] rfl rfl (by decide +kernel) (by decide +kernel) hk_7 hFc_7 hP1_7 hD1_7
  generalize H1 = H at hP hS ⊢
  have hP : va_P D vwCl [(mo, .inr (11, ((fmo.set 15 (.int 1)).set 16 (.int 0))))] H := hP
  have hD : va_D A [(mo, .inr (11, ((fmo.set 15 (.int 1)).set 16 (.int 0))))] := hD
  obtain rfl : r_7 = 0 := hw_7
  have hP9 := hP.sub (ws' := [(mo, .inr (11, ((fmo.set 15 (.int 1)).set 16 (.int 0))))]) [0] rfl
  have hD9 := hD.sub (ws' := [(mo, .inr (11, ((fmo.set 15 (.int 1)).set 16 (.int 0))))]) [0] (by decide +kernel) rfl
  exact W.zret (v := 0) hx hb hr (by decide) (fun t ht hW => ⟨⟨_, (), rfl, rfl, by rw [ht]; exact hP9, hD9⟩, hS.F ht⟩) hS.2.2 dX11_operand_37

set_option maxHeartbeats 4000000 in
set_option maxRecDepth 100000 in
theorem c_X11_sentence (l : Launch) (D : va_G) (y : Nat → ClassId) (sz : Nat) (mo : Nat) (fmo : List Value) (hmo_0 : fmo[0]? = some (.int 0)) (hmo_2 : fmo[2]? = some (.int 0)) (hmo_3 : fmo[3]? = some (.int 0)) (hmo_4 : fmo[4]? = some (.int 0)) (hmo_5 : fmo[5]? = some (.int 0)) (hmo_11 : fmo[11]? = some (.int 0)) (hmo_12 : fmo[12]? = some (.int 0)) (hmo_13 : fmo[13]? = some (.int 0)) (hmo_15 : fmo[15]? = some (.int 0)) (hmo_16 : fmo[16]? = some (.int 0)) (hmo_56 : fmo[56]? = some (.int 0)) (hmo_57 : fmo[57]? = some (.int 0)) (hmo_58 : fmo[58]? = some (.int 0)) (hmo_59 : fmo[59]? = some (.int 0)) (hmo_60 : fmo[60]? = some (.int 0)) : Met l yX11_sentence (px_w yX11_sentence cX11_sentence 3 (some .int)) ({ frames := 3, cells := 0, slots := 0, locals := 66 }) (va_Pc [.ref mo] (px_P D y sz [(mo, .inr (11, fmo))])) (va_Qi (fun (r : Int32) (u : Unit) => r = (-1)) (fun (u : Unit) t => True) (va_A [(mo, .inr (11, fmo))] sz)) 0 0 (va_A [(mo, .inr (11, fmo))] sz) := by
  refine Met.ofW (cc := cX11_sentence) (maxL := 3) (ret := (some .int)) (by decide) rfl ?_
  intro p e s m args below meth c s₁ B hml hv
  obtain ⟨rfl, hsz, hP, hK, hD0⟩ := hv
  have hx := B.exec
  have hb := B.bytes
  have hr := B.returns
  have hts := atoms_spec (ws := px_w yX11_sentence cX11_sentence 3 (some .int)) B.pre
  have hg : ∀ w ∈ gw, w.before [.ref mo].toArray s = true := fun w h => hts w (List.mem_cons_of_mem _ h)
  have hown : s.vm.findClass RX11 = some m.cls := findClass_of_methodNamed B.named
  have hlocks := B.notSynchronized
  subst hsz
  have hD := hD0.self (sz := s.heap.size)
  generalize hAe : va_A [(mo, .inr (11, fmo))] s.heap.size = A at hD ⊢
  have hA : ∀ q : Nat, s.heap.size ≤ q → A q := fun q h => by rw [← hAe]; exact Or.inr h
  have hS : va_S A s.heap s.heap [] := va_S.rf
  have hP : va_P D vwCl [(mo, .inr (11, fmo))] s.heap := hP
  have hl := lv_entry ([.ref mo]) (n := 3) (Nat.le_of_ble_eq_true rfl)
  rw [lg_entry_eq]
  generalize (lg_sl ([.ref mo]) ++ List.replicate (3 - (lg_sl ([.ref mo])).length) Slot.unset).toArray = ls at hl ⊢
  have hl : lv_has ls 3 [(0, .ref mo)] := hl
  refine lv_aload_n hx hb dX11_sentence_0 rfl (lv_at hl 0 rfl) ?_
  refine lv_iconst (v := 0) hx hb dX11_sentence_1 (by decide) ?_
  refine va_put (D := D) (ci := 11) (v := .int 0) (ty := .int) (C := RX11) (T := TX11) (N := 65) hx hb hg inGX11 tyX11 tyX11_ok nmX11 hown hK hP hD hS 0 rfl rfl 0 (by decide) (hg _ q_6_126) (fun _ h9 => h9) rfl (by decide +kernel) rfl rfl (px_len hmo_0) dX11_sentence_2 (fun H locs hP hD hS => ?_)
  have hP : va_P D vwCl [(mo, .inr (11, (fmo.set 0 (.int 0))))] H := hP
  have hD : va_D A [(mo, .inr (11, (fmo.set 0 (.int 0))))] := hD
  refine lv_aload_n hx hb dX11_sentence_5 rfl (lv_at hl 0 rfl) ?_
  refine lv_sipush (v := 200) hx hb dX11_sentence_6 (by decide) ?_
  have hPc_1 := hP.sub (ws' := [(mo, .inr (11, (fmo.set 0 (.int 0))))]) [0] rfl
  have hDc_1 := hD.sub (ws' := [(mo, .inr (11, (fmo.set 0 (.int 0))))]) [0] (by decide +kernel) rfl
  have hFc_1 := va_free (wc := [(mo, .inr (11, (fmo.set 0 (.int 0))))]) hD hS hA [0] rfl
  refine va_callv (va_runV (As := [.int 200]) (rest := []) ⟨hx, hb, hml, hown, hg⟩ (c_X11_taken l D y H.size mo (fmo.set 0 (.int 0)) 200 (px_sn (by decide) hmo_2) (px_sn (by decide) hmo_3) (px_sn (by decide) hmo_4) (px_sn (by decide) hmo_5)) (cwV 1 hg (px_gV q_7_87 q_7_89 q_p_59 q_1_15 q_7_90) rfl rfl rfl (by decide +kernel) ⟨Nat.le_of_ble_eq_true rfl, Nat.le_of_ble_eq_true rfl⟩) (px_preV hK hPc_1 hDc_1 (ci := 11) (q0 := 0) rfl rfl) rfl rfl hl.1 rfl (lv_room (Nat.le_of_ble_eq_true rfl)) dX11_sentence_9 ⟨Nat.le_of_ble_eq_true rfl, Nat.le_of_ble_eq_true rfl⟩) hS (fun q _ h => hFc_1 q h) hFc_1 (fun u_1 t_1 H1 locs ht_1 hvm_1 hw_1 hB_1 hz_1 hk_1 hS => ?_)
  refine W.cs (cells' := 0) (slots' := 0) rfl rfl ?_
  obtain ⟨hP1_1, hD1_1⟩ := hB_1
  rw [ht_1] at hP1_1
  obtain ⟨hP, hD⟩ := va_join (wr := []) (w1 := [(mo, .inr (11, (((((fmo.set 0 (.int 0)).set 3 (.int 0)).set 2 (.int 0)).set 4 (.int 0)).set 5 (.int 200))))]) hP hD [0] [] rfl rfl (by decide +kernel) (by decide +kernel) hk_1 hFc_1 hP1_1 hD1_1
  generalize H1 = H at hP hS ⊢
  have hP : va_P D vwCl [(mo, .inr (11, (((((fmo.set 0 (.int 0)).set 3 (.int 0)).set 2 (.int 0)).set 4 (.int 0)).set 5 (.int 200))))] H := hP
  have hD : va_D A [(mo, .inr (11, (((((fmo.set 0 (.int 0)).set 3 (.int 0)).set 2 (.int 0)).set 4 (.int 0)).set 5 (.int 200))))] := hD
  refine lv_aload_n hx hb dX11_sentence_12 rfl (lv_at hl 0 rfl) ?_
  refine lv_iconst (v := 0) hx hb dX11_sentence_13 (by decide) ?_
  refine va_put (D := D) (ci := 11) (v := .int 0) (ty := .int) (C := RX11) (T := TX11) (N := 65) hx hb hg inGX11 tyX11 tyX11_ok nmX11 hown hK hP hD hS 0 rfl rfl 15 (by decide) (hg _ q_6_141) (fun _ h9 => h9) rfl (by decide +kernel) rfl rfl (px_len (px_sn (by decide) (px_sn (by decide) (px_sn (by decide) (px_sn (by decide) (px_sn (by decide) hmo_15)))))) dX11_sentence_14 (fun H locs hP hD hS => ?_)
  have hP : va_P D vwCl [(mo, .inr (11, ((((((fmo.set 0 (.int 0)).set 3 (.int 0)).set 2 (.int 0)).set 4 (.int 0)).set 5 (.int 200)).set 15 (.int 0))))] H := hP
  have hD : va_D A [(mo, .inr (11, ((((((fmo.set 0 (.int 0)).set 3 (.int 0)).set 2 (.int 0)).set 4 (.int 0)).set 5 (.int 200)).set 15 (.int 0))))] := hD
  refine lv_aload_n hx hb dX11_sentence_17 rfl (lv_at hl 0 rfl) ?_
  refine lv_iconst (v := 0) hx hb dX11_sentence_18 (by decide) ?_
  refine va_put (D := D) (ci := 11) (v := .int 0) (ty := .int) (C := RX11) (T := TX11) (N := 65) hx hb hg inGX11 tyX11 tyX11_ok nmX11 hown hK hP hD hS 0 rfl rfl 56 (by decide) (hg _ q_6_182) (fun _ h9 => h9) rfl (by decide +kernel) rfl rfl (px_len (px_sn (by decide) (px_sn (by decide) (px_sn (by decide) (px_sn (by decide) (px_sn (by decide) (px_sn (by decide) hmo_56))))))) dX11_sentence_19 (fun H locs hP hD hS => ?_)
  have hP : va_P D vwCl [(mo, .inr (11, (((((((fmo.set 0 (.int 0)).set 3 (.int 0)).set 2 (.int 0)).set 4 (.int 0)).set 5 (.int 200)).set 15 (.int 0)).set 56 (.int 0))))] H := hP
  have hD : va_D A [(mo, .inr (11, (((((((fmo.set 0 (.int 0)).set 3 (.int 0)).set 2 (.int 0)).set 4 (.int 0)).set 5 (.int 200)).set 15 (.int 0)).set 56 (.int 0))))] := hD
  refine lv_aload_n hx hb dX11_sentence_22 rfl (lv_at hl 0 rfl) ?_
  refine lv_iconst (v := 0) hx hb dX11_sentence_23 (by decide) ?_
  refine va_put (D := D) (ci := 11) (v := .int 0) (ty := .int) (C := RX11) (T := TX11) (N := 65) hx hb hg inGX11 tyX11 tyX11_ok nmX11 hown hK hP hD hS 0 rfl rfl 57 (by decide) (hg _ q_6_183) (fun _ h9 => h9) rfl (by decide +kernel) rfl rfl (px_len (px_sn (by decide) (px_sn (by decide) (px_sn (by decide) (px_sn (by decide) (px_sn (by decide) (px_sn (by decide) (px_sn (by decide) hmo_57)))))))) dX11_sentence_24 (fun H locs hP hD hS => ?_)
  have hP : va_P D vwCl [(mo, .inr (11, ((((((((fmo.set 0 (.int 0)).set 3 (.int 0)).set 2 (.int 0)).set 4 (.int 0)).set 5 (.int 200)).set 15 (.int 0)).set 56 (.int 0)).set 57 (.int 0))))] H := hP
  have hD : va_D A [(mo, .inr (11, ((((((((fmo.set 0 (.int 0)).set 3 (.int 0)).set 2 (.int 0)).set 4 (.int 0)).set 5 (.int 200)).set 15 (.int 0)).set 56 (.int 0)).set 57 (.int 0))))] := hD
  refine lv_aload_n hx hb dX11_sentence_27 rfl (lv_at hl 0 rfl) ?_
  refine lv_iconst (v := 0) hx hb dX11_sentence_28 (by decide) ?_
  refine va_put (D := D) (ci := 11) (v := .int 0) (ty := .int) (C := RX11) (T := TX11) (N := 65) hx hb hg inGX11 tyX11 tyX11_ok nmX11 hown hK hP hD hS 0 rfl rfl 58 (by decide) (hg _ q_6_184) (fun _ h9 => h9) rfl (by decide +kernel) rfl rfl (px_len (px_sn (by decide) (px_sn (by decide) (px_sn (by decide) (px_sn (by decide) (px_sn (by decide) (px_sn (by decide) (px_sn (by decide) (px_sn (by decide) hmo_58))))))))) dX11_sentence_29 (fun H locs hP hD hS => ?_)
  have hP : va_P D vwCl [(mo, .inr (11, (((((((((fmo.set 0 (.int 0)).set 3 (.int 0)).set 2 (.int 0)).set 4 (.int 0)).set 5 (.int 200)).set 15 (.int 0)).set 56 (.int 0)).set 57 (.int 0)).set 58 (.int 0))))] H := hP
  have hD : va_D A [(mo, .inr (11, (((((((((fmo.set 0 (.int 0)).set 3 (.int 0)).set 2 (.int 0)).set 4 (.int 0)).set 5 (.int 200)).set 15 (.int 0)).set 56 (.int 0)).set 57 (.int 0)).set 58 (.int 0))))] := hD
  refine lv_aload_n hx hb dX11_sentence_32 rfl (lv_at hl 0 rfl) ?_
  refine lv_iconst (v := 1) hx hb dX11_sentence_33 (by decide) ?_
  refine va_put (D := D) (ci := 11) (v := .int 1) (ty := .int) (C := RX11) (T := TX11) (N := 65) hx hb hg inGX11 tyX11 tyX11_ok nmX11 hown hK hP hD hS 0 rfl rfl 59 (by decide) (hg _ q_6_185) (fun _ h9 => h9) rfl (by decide +kernel) rfl rfl (px_len (px_sn (by decide) (px_sn (by decide) (px_sn (by decide) (px_sn (by decide) (px_sn (by decide) (px_sn (by decide) (px_sn (by decide) (px_sn (by decide) (px_sn (by decide) hmo_59)))))))))) dX11_sentence_34 (fun H locs hP hD hS => ?_)
  have hP : va_P D vwCl [(mo, .inr (11, ((((((((((fmo.set 0 (.int 0)).set 3 (.int 0)).set 2 (.int 0)).set 4 (.int 0)).set 5 (.int 200)).set 15 (.int 0)).set 56 (.int 0)).set 57 (.int 0)).set 58 (.int 0)).set 59 (.int 1))))] H := hP
  have hD : va_D A [(mo, .inr (11, ((((((((((fmo.set 0 (.int 0)).set 3 (.int 0)).set 2 (.int 0)).set 4 (.int 0)).set 5 (.int 200)).set 15 (.int 0)).set 56 (.int 0)).set 57 (.int 0)).set 58 (.int 0)).set 59 (.int 1))))] := hD
  refine lv_aload_n hx hb dX11_sentence_37 rfl (lv_at hl 0 rfl) ?_
  refine lv_iconst (v := 0) hx hb dX11_sentence_38 (by decide) ?_
  refine va_put (D := D) (ci := 11) (v := .int 0) (ty := .boolean) (C := RX11) (T := TX11) (N := 65) hx hb hg inGX11 tyX11 tyX11_ok nmX11 hown hK hP hD hS 0 rfl rfl 60 (by decide) (hg _ q_6_186) (fun _ h9 => h9) rfl (by decide +kernel) (by decide) rfl (px_len (px_sn (by decide) (px_sn (by decide) (px_sn (by decide) (px_sn (by decide) (px_sn (by decide) (px_sn (by decide) (px_sn (by decide) (px_sn (by decide) (px_sn (by decide) (px_sn (by decide) hmo_60))))))))))) dX11_sentence_39 (fun H locs hP hD hS => ?_)
  have hP : va_P D vwCl [(mo, .inr (11, (((((((((((fmo.set 0 (.int 0)).set 3 (.int 0)).set 2 (.int 0)).set 4 (.int 0)).set 5 (.int 200)).set 15 (.int 0)).set 56 (.int 0)).set 57 (.int 0)).set 58 (.int 0)).set 59 (.int 1)).set 60 (.int 0))))] H := hP
  have hD : va_D A [(mo, .inr (11, (((((((((((fmo.set 0 (.int 0)).set 3 (.int 0)).set 2 (.int 0)).set 4 (.int 0)).set 5 (.int 200)).set 15 (.int 0)).set 56 (.int 0)).set 57 (.int 0)).set 58 (.int 0)).set 59 (.int 1)).set 60 (.int 0))))] := hD
  refine lv_aload_n hx hb dX11_sentence_42 rfl (lv_at hl 0 rfl) ?_
  have hPc_2 := hP.sub (ws' := [(mo, .inr (11, (((((((((((fmo.set 0 (.int 0)).set 3 (.int 0)).set 2 (.int 0)).set 4 (.int 0)).set 5 (.int 200)).set 15 (.int 0)).set 56 (.int 0)).set 57 (.int 0)).set 58 (.int 0)).set 59 (.int 1)).set 60 (.int 0))))]) [0] rfl
  have hDc_2 := hD.sub (ws' := [(mo, .inr (11, (((((((((((fmo.set 0 (.int 0)).set 3 (.int 0)).set 2 (.int 0)).set 4 (.int 0)).set 5 (.int 200)).set 15 (.int 0)).set 56 (.int 0)).set 57 (.int 0)).set 58 (.int 0)).set 59 (.int 1)).set 60 (.int 0))))]) [0] (by decide +kernel) rfl
  have hFc_2 := va_free (wc := [(mo, .inr (11, (((((((((((fmo.set 0 (.int 0)).set 3 (.int 0)).set 2 (.int 0)).set 4 (.int 0)).set 5 (.int 200)).set 15 (.int 0)).set 56 (.int 0)).set 57 (.int 0)).set 58 (.int 0)).set 59 (.int 1)).set 60 (.int 0))))]) hD hS hA [0] rfl
  refine va_callv (va_runV (As := []) (rest := []) ⟨hx, hb, hml, hown, hg⟩ (c_X11_next_200 l D y H.size mo (((((((((((fmo.set 0 (.int 0)).set 3 (.int 0)).set 2 (.int 0)).set 4 (.int 0)).set 5 (.int 200)).set 15 (.int 0)).set 56 (.int 0)).set 57 (.int 0)).set 58 (.int 0)).set 59 (.int 1)).set 60 (.int 0)) (px_sn (by decide) (px_sn (by decide) (px_sn (by decide) (px_sn (by decide) (px_sn (by decide) (px_sn (by decide) (px_sn (by decide) (px_sn (by decide) (px_sn (by decide) (px_ss (px_sn (by decide) hmo_3))))))))))) (px_sn (by decide) (px_sn (by decide) (px_sn (by decide) (px_sn (by decide) (px_sn (by decide) (px_sn (by decide) (px_sn (by decide) (px_ss (px_sn (by decide) (px_sn (by decide) (px_sn (by decide) hmo_4))))))))))) (px_sn (by decide) (px_sn (by decide) (px_sn (by decide) (px_sn (by decide) (px_sn (by decide) (px_sn (by decide) (px_ss (px_sn (by decide) (px_sn (by decide) (px_sn (by decide) (px_sn (by decide) hmo_5))))))))))) (px_sn (by decide) (px_sn (by decide) (px_sn (by decide) (px_sn (by decide) (px_sn (by decide) (px_sn (by decide) (px_sn (by decide) (px_sn (by decide) (px_sn (by decide) (px_sn (by decide) (px_sn (by decide) hmo_11))))))))))) (px_sn (by decide) (px_sn (by decide) (px_sn (by decide) (px_sn (by decide) (px_sn (by decide) (px_sn (by decide) (px_sn (by decide) (px_sn (by decide) (px_sn (by decide) (px_sn (by decide) (px_sn (by decide) hmo_12))))))))))) (px_sn (by decide) (px_sn (by decide) (px_sn (by decide) (px_sn (by decide) (px_sn (by decide) (px_sn (by decide) (px_sn (by decide) (px_sn (by decide) (px_sn (by decide) (px_sn (by decide) (px_sn (by decide) hmo_13)))))))))))) (cwV 0 hg (px_gV q_7_91 q_7_93 q_p_60 q_1_15 q_7_94) rfl rfl rfl (by decide +kernel) ⟨Nat.le_of_ble_eq_true rfl, Nat.le_of_ble_eq_true rfl⟩) (px_preV hK hPc_2 hDc_2 (ci := 11) (q0 := 0) rfl rfl) rfl rfl hl.1 rfl (lv_room (Nat.le_of_ble_eq_true rfl)) dX11_sentence_43 ⟨Nat.le_of_ble_eq_true rfl, Nat.le_of_ble_eq_true rfl⟩) hS (fun q _ h => hFc_2 q h) hFc_2 (fun u_2 t_2 H1 locs ht_2 hvm_2 hw_2 hB_2 hz_2 hk_2 hS => ?_)
  refine W.cs (cells' := 0) (slots' := 0) rfl rfl ?_
  obtain ⟨hP1_2, hD1_2⟩ := hB_2
  rw [ht_2] at hP1_2
  obtain ⟨hP, hD⟩ := va_join (wr := []) (w1 := [(mo, .inr (11, ((((((((((((((fmo.set 0 (.int 0)).set 3 (.int 0)).set 2 (.int 0)).set 4 (.int 0)).set 5 (.int 200)).set 15 (.int 0)).set 56 (.int 0)).set 57 (.int 0)).set 58 (.int 0)).set 59 (.int 1)).set 60 (.int 0)).set 12 (.int 0)).set 13 (.int 0)).set 11 (.int 0))))]) hP hD [0] [] rfl rfl (by decide +kernel) (by decide +kernel) hk_2 hFc_2 hP1_2 hD1_2
  generalize H1 = H at hP hS ⊢
  have hP : va_P D vwCl [(mo, .inr (11, ((((((((((((((fmo.set 0 (.int 0)).set 3 (.int 0)).set 2 (.int 0)).set 4 (.int 0)).set 5 (.int 200)).set 15 (.int 0)).set 56 (.int 0)).set 57 (.int 0)).set 58 (.int 0)).set 59 (.int 1)).set 60 (.int 0)).set 12 (.int 0)).set 13 (.int 0)).set 11 (.int 0))))] H := hP
  have hD : va_D A [(mo, .inr (11, ((((((((((((((fmo.set 0 (.int 0)).set 3 (.int 0)).set 2 (.int 0)).set 4 (.int 0)).set 5 (.int 200)).set 15 (.int 0)).set 56 (.int 0)).set 57 (.int 0)).set 58 (.int 0)).set 59 (.int 1)).set 60 (.int 0)).set 12 (.int 0)).set 13 (.int 0)).set 11 (.int 0))))] := hD
  refine lv_iconst (v := 1) hx hb dX11_sentence_46 (by decide) ?_
  refine lv_istore_n (lv' := [(1, .int 1), (0, .ref mo)]) hx hb dX11_sentence_47 rfl hl (by decide) rfl (fun ls hl => ?_)
  refine lv_iload_n hx hb dX11_sentence_48 rfl (lv_at hl 0 rfl) ?_
  refine lv_if_eq (tgt := 132) hx hb dX11_sentence_49 (by decide) (fun c_3 => absurd c_3 (by decide)) (fun _ => ?_)
  refine lv_aload_n hx hb dX11_sentence_52 rfl (lv_at hl 1 rfl) ?_
  refine va_get (D := D) (ci := 11) (v := .int 0) (C := RX11) (T := TX11) (N := 65) hx hb hg inGX11 hown hK hP 0 rfl rfl 60 (by decide) (hg _ q_6_186) (fun _ h9 => h9) (px_sn (by decide) (px_sn (by decide) (px_sn (by decide) (px_ss (px_sn (by decide) (px_sn (by decide) (px_sn (by decide) (px_sn (by decide) (px_sn (by decide) (px_sn (by decide) (px_sn (by decide) (px_sn (by decide) (px_sn (by decide) (px_sn (by decide) hmo_60)))))))))))))) dX11_sentence_53 ?_
  refine lv_if_eq (tgt := 101) hx hb dX11_sentence_56 (by decide) (fun _ => ?_) (fun c_4 => absurd c_4 (by decide))
  refine lv_aload_n hx hb dX11_sentence_101 rfl (lv_at hl 1 rfl) ?_
  refine va_get (D := D) (ci := 11) (v := .int 0) (C := RX11) (T := TX11) (N := 65) hx hb hg inGX11 hown hK hP 0 rfl rfl 60 (by decide) (hg _ q_6_186) (fun _ h9 => h9) (px_sn (by decide) (px_sn (by decide) (px_sn (by decide) (px_ss (px_sn (by decide) (px_sn (by decide) (px_sn (by decide) (px_sn (by decide) (px_sn (by decide) (px_sn (by decide) (px_sn (by decide) (px_sn (by decide) (px_sn (by decide) (px_sn (by decide) hmo_60)))))))))))))) dX11_sentence_102 ?_
  refine lv_if_eq (tgt := 118) hx hb dX11_sentence_105 (by decide) (fun _ => ?_) (fun c_5 => absurd c_5 (by decide))
  refine lv_aload_n hx hb dX11_sentence_118 rfl (lv_at hl 1 rfl) ?_
  have hPc_6 := hP.sub (ws' := [(mo, .inr (11, ((((((((((((((fmo.set 0 (.int 0)).set 3 (.int 0)).set 2 (.int 0)).set 4 (.int 0)).set 5 (.int 200)).set 15 (.int 0)).set 56 (.int 0)).set 57 (.int 0)).set 58 (.int 0)).set 59 (.int 1)).set 60 (.int 0)).set 12 (.int 0)).set 13 (.int 0)).set 11 (.int 0))))]) [0] rfl
  have hDc_6 := hD.sub (ws' := [(mo, .inr (11, ((((((((((((((fmo.set 0 (.int 0)).set 3 (.int 0)).set 2 (.int 0)).set 4 (.int 0)).set 5 (.int 200)).set 15 (.int 0)).set 56 (.int 0)).set 57 (.int 0)).set 58 (.int 0)).set 59 (.int 1)).set 60 (.int 0)).set 12 (.int 0)).set 13 (.int 0)).set 11 (.int 0))))]) [0] (by decide +kernel) rfl
  have hFc_6 := va_free (wc := [(mo, .inr (11, ((((((((((((((fmo.set 0 (.int 0)).set 3 (.int 0)).set 2 (.int 0)).set 4 (.int 0)).set 5 (.int 200)).set 15 (.int 0)).set 56 (.int 0)).set 57 (.int 0)).set 58 (.int 0)).set 59 (.int 1)).set 60 (.int 0)).set 12 (.int 0)).set 13 (.int 0)).set 11 (.int 0))))]) hD hS hA [0] rfl
  refine va_calli (va_runV (As := []) (rest := []) ⟨hx, hb, hml, hown, hg⟩ (c_X11_operand l D y H.size mo ((((((((((((((fmo.set 0 (.int 0)).set 3 (.int 0)).set 2 (.int 0)).set 4 (.int 0)).set 5 (.int 200)).set 15 (.int 0)).set 56 (.int 0)).set 57 (.int 0)).set 58 (.int 0)).set 59 (.int 1)).set 60 (.int 0)).set 12 (.int 0)).set 13 (.int 0)).set 11 (.int 0)) (px_ss (px_sn (by decide) (px_sn (by decide) (px_sn (by decide) (px_sn (by decide) (px_sn (by decide) (px_sn (by decide) (px_sn (by decide) (px_sn (by decide) (px_sn (by decide) (px_sn (by decide) (px_sn (by decide) (px_sn (by decide) (px_sn (by decide) hmo_11)))))))))))))) (px_sn (by decide) (px_sn (by decide) (px_ss (px_sn (by decide) (px_sn (by decide) (px_sn (by decide) (px_sn (by decide) (px_sn (by decide) (px_sn (by decide) (px_sn (by decide) (px_sn (by decide) (px_sn (by decide) (px_sn (by decide) (px_sn (by decide) hmo_12)))))))))))))) (px_sn (by decide) (px_sn (by decide) (px_sn (by decide) (px_sn (by decide) (px_sn (by decide) (px_sn (by decide) (px_sn (by decide) (px_sn (by decide) (px_ss (px_sn (by decide) (px_sn (by decide) (px_sn (by decide) (px_sn (by decide) (px_sn (by decide) hmo_15)))))))))))))) (px_sn (by decide) (px_sn (by decide) (px_sn (by decide) (px_sn (by decide) (px_sn (by decide) (px_sn (by decide) (px_sn (by decide) (px_sn (by decide) (px_sn (by decide) (px_sn (by decide) (px_sn (by decide) (px_sn (by decide) (px_sn (by decide) (px_sn (by decide) hmo_16))))))))))))))) (cwV 0 hg (px_gV q_8_224 q_8_226 q_p_116 q_1_15 q_8_227) rfl rfl rfl (by decide +kernel) ⟨Nat.le_of_ble_eq_true rfl, Nat.le_of_ble_eq_true rfl⟩) (px_preV hK hPc_6 hDc_6 (ci := 11) (q0 := 0) rfl rfl) rfl rfl hl.1 rfl (lv_room (Nat.le_of_ble_eq_true rfl)) dX11_sentence_119 ⟨Nat.le_of_ble_eq_true rfl, Nat.le_of_ble_eq_true rfl⟩) hS (fun q _ h => hFc_6 q h) hFc_6 (fun r_6 u_6 t_6 H1 locs ht_6 hvm_6 hw_6 hB_6 hz_6 hk_6 hS => ?_)
  refine W.cs (cells' := 0) (slots' := 0) rfl rfl ?_
  obtain ⟨hP1_6, hD1_6⟩ := hB_6
  rw [ht_6] at hP1_6
  obtain ⟨hP, hD⟩ := va_join (wr := []) (w1 := [(mo, .inr (11, ((((((((((((((((fmo.set 0 (.int 0)).set 3 (.int 0)).set 2 (.int 0)).set 4 (.int 0)).set 5 (.int 200)).set 15 (.int 0)).set 56 (.int 0)).set 57 (.int 0)).set 58 (.int 0)).set 59 (.int 1)).set 60 (.int 0)).set 12 (.int 0)).set 13 (.int 0)).set 11 (.int 0)).set 15 (.int 1)).set 16 (.int 0))))]) hP hD [0] [] rfl rfl (by decide +kernel) (by decide +kernel) hk_6 hFc_6 hP1_6 hD1_6
  generalize H1 = H at hP hS ⊢
  have hP : va_P D vwCl [(mo, .inr (11, ((((((((((((((((fmo.set 0 (.int 0)).set 3 (.int 0)).set 2 (.int 0)).set 4 (.int 0)).set 5 (.int 200)).set 15 (.int 0)).set 56 (.int 0)).set 57 (.int 0)).set 58 (.int 0)).set 59 (.int 1)).set 60 (.int 0)).set 12 (.int 0)).set 13 (.int 0)).set 11 (.int 0)).set 15 (.int 1)).set 16 (.int 0))))] H := hP
  have hD : va_D A [(mo, .inr (11, ((((((((((((((((fmo.set 0 (.int 0)).set 3 (.int 0)).set 2 (.int 0)).set 4 (.int 0)).set 5 (.int 200)).set 15 (.int 0)).set 56 (.int 0)).set 57 (.int 0)).set 58 (.int 0)).set 59 (.int 1)).set 60 (.int 0)).set 12 (.int 0)).set 13 (.int 0)).set 11 (.int 0)).set 15 (.int 1)).set 16 (.int 0))))] := hD
  obtain rfl : r_6 = 0 := hw_6
  refine lv_if_ne (tgt := 48) hx hb dX11_sentence_122 (by decide) (fun c_7 => absurd c_7 (by decide)) (fun _ => ?_)
  refine lv_iconst (v := (-1)) hx hb dX11_sentence_125 (by decide) ?_
  refine lv_aload_n hx hb dX11_sentence_126 rfl (lv_at hl 1 rfl) ?_
  refine va_get (D := D) (ci := 11) (v := .int 0) (C := RX11) (T := TX11) (N := 65) hx hb hg inGX11 hown hK hP 0 rfl rfl 16 (by decide) (hg _ q_6_142) (fun _ h9 => h9) (px_ss (px_sn (by decide) (px_sn (by decide) (px_sn (by decide) (px_sn (by decide) (px_sn (by decide) (px_sn (by decide) (px_sn (by decide) (px_sn (by decide) (px_sn (by decide) (px_sn (by decide) (px_sn (by decide) (px_sn (by decide) (px_sn (by decide) (px_sn (by decide) (px_sn (by decide) hmo_16)))))))))))))))) dX11_sentence_127 ?_
  refine lv_isub hx hb dX11_sentence_130 ?_
  refine px_top (v := (-1)) (by decide) ?_
  exact W.iret (v := (-1)) hx hb hr (fun t ht hW => ⟨⟨_, (), rfl, rfl, trivial⟩, hS.F ht⟩) hS.2.2 dX11_sentence_131

set_option maxHeartbeats 4000000 in
set_option maxRecDepth 100000 in
theorem c_X11_settles (l : Launch) (D : va_G) (y : Nat → ClassId) (sz : Nat) (mo : Nat) (fmo : List Value) (ms : Nat) (fms : Nat → Int32) (hmo_6 : fmo[6]? = some (.ref ms)) (hms_e1 : fms 1 = 0) : Met l yX11_settles (px_w yX11_settles cX11_settles 4 none) ({ frames := 0, cells := 0, slots := 0, locals := 0 }) (va_Pc [.ref mo, .int 0] (px_P D y sz [(mo, .inr (11, fmo)), (ms, .inl (y 1, 765, .inl fms))])) (va_Qv (fun (u : px_U) => True) (fun (u : px_U) t => va_P D vwCl [(mo, .inr (11, fmo)), (ms, .inl (y 1, 765, .inl (u.2.1 0)))] t.heap ∧ va_D (va_A [(mo, .inr (11, fmo)), (ms, .inl (y 1, 765, .inl fms))] sz) [(mo, .inr (11, fmo)), (ms, .inl (y 1, 765, .inl (u.2.1 0)))]) (va_A [(mo, .inr (11, fmo)), (ms, .inl (y 1, 765, .inl fms))] sz)) 0 0 (va_A [(mo, .inr (11, fmo)), (ms, .inl (y 1, 765, .inl fms))] sz) := by
  refine Met.ofW (cc := cX11_settles) (maxL := 4) (ret := none) (by decide) rfl ?_
  intro p e s m args below meth c s₁ B hml hv
  obtain ⟨rfl, hsz, hP, hK, hD0⟩ := hv
  have hx := B.exec
  have hb := B.bytes
  have hr := B.returns
  have hts := atoms_spec (ws := px_w yX11_settles cX11_settles 4 none) B.pre
  have hg : ∀ w ∈ gw, w.before [.ref mo, .int 0].toArray s = true := fun w h => hts w (List.mem_cons_of_mem _ h)
  have hown : s.vm.findClass RX11 = some m.cls := findClass_of_methodNamed B.named
  have hlocks := B.notSynchronized
  subst hsz
  have hD := hD0.self (sz := s.heap.size)
  generalize hAe : va_A [(mo, .inr (11, fmo)), (ms, .inl (y 1, 765, .inl fms))] s.heap.size = A at hD ⊢
  have hA : ∀ q : Nat, s.heap.size ≤ q → A q := fun q h => by rw [← hAe]; exact Or.inr h
  have hS : va_S A s.heap s.heap [] := va_S.rf
  have hP : va_P D vwCl [(mo, .inr (11, fmo)), (ms, .inl (y 1, 765, .inl fms))] s.heap := hP
  have hl := lv_entry ([.ref mo, .int 0]) (n := 4) (Nat.le_of_ble_eq_true rfl)
  rw [lg_entry_eq]
  generalize (lg_sl ([.ref mo, .int 0]) ++ List.replicate (4 - (lg_sl ([.ref mo, .int 0])).length) Slot.unset).toArray = ls at hl ⊢
  have hl : lv_has ls 4 [(0, .ref mo), (1, .int 0)] := hl
  refine lv_aload_n hx hb dX11_settles_0 rfl (lv_at hl 0 rfl) ?_
  refine va_get (D := D) (ci := 11) (v := .ref ms) (C := RX11) (T := TX11) (N := 65) hx hb hg inGX11 hown hK hP 0 rfl rfl 6 (by decide) (hg _ q_6_132) (fun _ h9 => h9) hmo_6 dX11_settles_1 ?_
  refine lv_iconst (v := 4) hx hb dX11_settles_4 (by decide) ?_
  refine lv_iconst (v := (-1)) hx hb dX11_settles_5 (by decide) ?_
  refine va_iast hx hb hK hP hD hS 1 1 rfl rfl (i := 4) (px_in (by decide)) dX11_settles_6 (fun H locs hP hD hS => ?_)
  have hP : va_P D vwCl [(mo, .inr (11, fmo)), (ms, .inl (y 1, 765, .inl (upd fms 4 (-1))))] H := hP
  have hD : va_D A [(mo, .inr (11, fmo)), (ms, .inl (y 1, 765, .inl (upd fms 4 (-1))))] := hD
  refine lv_iconst (v := 0) hx hb dX11_settles_7 (by decide) ?_
  refine lv_istore_n (lv' := [(2, .int 0), (0, .ref mo), (1, .int 0)]) hx hb dX11_settles_8 rfl hl (by decide) rfl (fun ls hl => ?_)
  refine lv_iload_n hx hb dX11_settles_9 rfl (lv_at hl 0 rfl) ?_
  refine lv_aload_n hx hb dX11_settles_10 rfl (lv_at hl 1 rfl) ?_
  refine va_get (D := D) (ci := 11) (v := .ref ms) (C := RX11) (T := TX11) (N := 65) hx hb hg inGX11 hown hK hP 0 rfl rfl 6 (by decide) (hg _ q_6_132) (fun _ h9 => h9) hmo_6 dX11_settles_11 ?_
  refine lv_iconst (v := 1) hx hb dX11_settles_14 (by decide) ?_
  refine va_iald hx hb hK hP 1 1 rfl rfl (i := 1) (px_in (by decide)) dX11_settles_15 ?_
  refine px_top (v := 0) (Eq.trans (if_neg (by decide)) hms_e1) ?_
  refine lv_icmp_ge (tgt := 60) hx hb dX11_settles_16 (by decide) (fun _ => ?_) (fun c_1 => absurd c_1 (by decide))
  have hP9 := hP.sub (ws' := [(mo, .inr (11, fmo)), (ms, .inl (y 1, 765, .inl (upd fms 4 (-1))))]) [0, 1] rfl
  have hD9 := hD.sub (ws' := [(mo, .inr (11, fmo)), (ms, .inl (y 1, 765, .inl (upd fms 4 (-1))))]) [0, 1] (by decide +kernel) rfl
  exact W.vret hx hb hr (fun t ht hW => ⟨⟨(px_v [], px_vi [(upd fms 4 (-1))], px_vl []), rfl, trivial, by rw [ht]; exact hP9, hD9⟩, hS.F ht⟩) hS.2.2 dX11_settles_60

set_option maxHeartbeats 4000000 in
set_option maxRecDepth 100000 in
theorem c_X11_begins (l : Launch) (D : va_G) (y : Nat → ClassId) (sz : Nat) (mo : Nat) (fmo : List Value) (ms : Nat) (fms : Nat → Int32) (hmo_6 : fmo[6]? = some (.ref ms)) (hms_e1 : fms 1 = 0) : Met l yX11_begins (px_w yX11_begins cX11_begins 4 none) ({ frames := 1, cells := 0, slots := 0, locals := 23 }) (va_Pc [.ref mo] (px_P D y sz [(mo, .inr (11, fmo)), (ms, .inl (y 1, 765, .inl fms))])) (va_Qv (fun (u : px_U) => True) (fun (u : px_U) t => va_P D vwCl [(mo, .inr (11, fmo)), (ms, .inl (y 1, 765, .inl (u.2.1 0)))] t.heap ∧ va_D (va_A [(mo, .inr (11, fmo)), (ms, .inl (y 1, 765, .inl fms))] sz) [(mo, .inr (11, fmo)), (ms, .inl (y 1, 765, .inl (u.2.1 0)))]) (va_A [(mo, .inr (11, fmo)), (ms, .inl (y 1, 765, .inl fms))] sz)) 0 0 (va_A [(mo, .inr (11, fmo)), (ms, .inl (y 1, 765, .inl fms))] sz) := by
  refine Met.ofW (cc := cX11_begins) (maxL := 4) (ret := none) (by decide) rfl ?_
  intro p e s m args below meth c s₁ B hml hv
  obtain ⟨rfl, hsz, hP, hK, hD0⟩ := hv
  have hx := B.exec
  have hb := B.bytes
  have hr := B.returns
  have hts := atoms_spec (ws := px_w yX11_begins cX11_begins 4 none) B.pre
  have hg : ∀ w ∈ gw, w.before [.ref mo].toArray s = true := fun w h => hts w (List.mem_cons_of_mem _ h)
  have hown : s.vm.findClass RX11 = some m.cls := findClass_of_methodNamed B.named
  have hlocks := B.notSynchronized
  subst hsz
  have hD := hD0.self (sz := s.heap.size)
  generalize hAe : va_A [(mo, .inr (11, fmo)), (ms, .inl (y 1, 765, .inl fms))] s.heap.size = A at hD ⊢
  have hA : ∀ q : Nat, s.heap.size ≤ q → A q := fun q h => by rw [← hAe]; exact Or.inr h
  have hS : va_S A s.heap s.heap [] := va_S.rf
  have hP : va_P D vwCl [(mo, .inr (11, fmo)), (ms, .inl (y 1, 765, .inl fms))] s.heap := hP
  have hl := lv_entry ([.ref mo]) (n := 4) (Nat.le_of_ble_eq_true rfl)
  rw [lg_entry_eq]
  generalize (lg_sl ([.ref mo]) ++ List.replicate (4 - (lg_sl ([.ref mo])).length) Slot.unset).toArray = ls at hl ⊢
  have hl : lv_has ls 4 [(0, .ref mo)] := hl
  refine lv_iconst (v := 0) hx hb dX11_begins_0 (by decide) ?_
  refine lv_istore_n (lv' := [(1, .int 0), (0, .ref mo)]) hx hb dX11_begins_1 rfl hl (by decide) rfl (fun ls hl => ?_)
  refine lv_iload_n hx hb dX11_begins_2 rfl (lv_at hl 0 rfl) ?_
  refine lv_aload_n hx hb dX11_begins_3 rfl (lv_at hl 1 rfl) ?_
  refine va_get (D := D) (ci := 11) (v := .ref ms) (C := RX11) (T := TX11) (N := 65) hx hb hg inGX11 hown hK hP 0 rfl rfl 6 (by decide) (hg _ q_6_132) (fun _ h9 => h9) hmo_6 dX11_begins_4 ?_
  refine lv_iconst (v := 1) hx hb dX11_begins_7 (by decide) ?_
  refine va_iald hx hb hK hP 1 1 rfl rfl (i := 1) (px_in (by decide)) dX11_begins_8 ?_
  refine px_top (v := 0) hms_e1 ?_
  refine lv_icmp_ge (tgt := 43) hx hb dX11_begins_9 (by decide) (fun _ => ?_) (fun c_1 => absurd c_1 (by decide))
  refine lv_iconst (v := 0) hx hb dX11_begins_43 (by decide) ?_
  refine lv_istore_n (lv' := [(1, .int 0), (0, .ref mo)]) hx hb dX11_begins_44 rfl hl (by decide) rfl (fun ls hl => ?_)
  refine lv_iload_n hx hb dX11_begins_45 rfl (lv_at hl 0 rfl) ?_
  refine lv_aload_n hx hb dX11_begins_46 rfl (lv_at hl 1 rfl) ?_
  refine va_get (D := D) (ci := 11) (v := .ref ms) (C := RX11) (T := TX11) (N := 65) hx hb hg inGX11 hown hK hP 0 rfl rfl 6 (by decide) (hg _ q_6_132) (fun _ h9 => h9) hmo_6 dX11_begins_47 ?_
  refine lv_iconst (v := 1) hx hb dX11_begins_50 (by decide) ?_
  refine va_iald hx hb hK hP 1 1 rfl rfl (i := 1) (px_in (by decide)) dX11_begins_51 ?_
  refine px_top (v := 0) hms_e1 ?_
  refine lv_icmp_ge (tgt := 86) hx hb dX11_begins_52 (by decide) (fun _ => ?_) (fun c_2 => absurd c_2 (by decide))
  refine lv_aload_n hx hb dX11_begins_86 rfl (lv_at hl 1 rfl) ?_
  refine lv_iconst (v := 0) hx hb dX11_begins_87 (by decide) ?_
  have hPc_3 := hP.sub (ws' := [(mo, .inr (11, fmo)), (ms, .inl (y 1, 765, .inl fms))]) [0, 1] rfl
  have hDc_3 := hD.sub (ws' := [(mo, .inr (11, fmo)), (ms, .inl (y 1, 765, .inl fms))]) [0, 1] (by decide +kernel) rfl
  have hFc_3 := va_free (wc := [(mo, .inr (11, fmo)), (ms, .inl (y 1, 765, .inl fms))]) hD hS hA [0, 1] rfl
  refine va_callv (va_runV (As := [.int 0]) (rest := []) ⟨hx, hb, hml, hown, hg⟩ (c_X11_settles l D y s.heap.size mo fmo ms fms hmo_6 hms_e1) (cwV 1 hg (px_gV q_7_175 q_7_177 q_p_78 q_1_15 q_7_178) rfl rfl rfl (by decide +kernel) ⟨Nat.le_of_ble_eq_true rfl, Nat.le_of_ble_eq_true rfl⟩) (px_preV hK hPc_3 hDc_3 (ci := 11) (q0 := 0) rfl rfl) rfl rfl hl.1 rfl (lv_room (Nat.le_of_ble_eq_true rfl)) dX11_begins_88 ⟨Nat.le_of_ble_eq_true rfl, Nat.le_of_ble_eq_true rfl⟩) hS (fun q _ h => hFc_3 q h) hFc_3 (fun u_3 t_3 H1 locs ht_3 hvm_3 hw_3 hB_3 hz_3 hk_3 hS => ?_)
  refine W.cs (cells' := 0) (slots' := 0) rfl rfl ?_
  obtain ⟨hP1_3, hD1_3⟩ := hB_3
  rw [ht_3] at hP1_3
  obtain ⟨hP, hD⟩ := va_join (wr := []) (w1 := [(mo, .inr (11, fmo)), (ms, .inl (y 1, 765, .inl (u_3.2.1 0)))]) hP hD [0, 1] [] rfl rfl (by decide +kernel) (by decide +kernel) hk_3 hFc_3 hP1_3 hD1_3
  generalize H1 = H at hP hS ⊢
  have hP : va_P D vwCl [(mo, .inr (11, fmo)), (ms, .inl (y 1, 765, .inl (u_3.2.1 0)))] H := hP
  have hD : va_D A [(mo, .inr (11, fmo)), (ms, .inl (y 1, 765, .inl (u_3.2.1 0)))] := hD
  have hP9 := hP.sub (ws' := [(mo, .inr (11, fmo)), (ms, .inl (y 1, 765, .inl (u_3.2.1 0)))]) [0, 1] rfl
  have hD9 := hD.sub (ws' := [(mo, .inr (11, fmo)), (ms, .inl (y 1, 765, .inl (u_3.2.1 0)))]) [0, 1] (by decide +kernel) rfl
  exact W.vret hx hb hr (fun t ht hW => ⟨⟨(px_v [], px_vi [(u_3.2.1 0)], px_vl []), rfl, trivial, by rw [ht]; exact hP9, hD9⟩, hS.F ht⟩) hS.2.2 dX11_begins_91
