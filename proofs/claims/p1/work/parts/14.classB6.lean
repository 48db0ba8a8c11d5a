set_option maxHeartbeats 4000000 in
set_option maxRecDepth 100000 in
theorem c_X6_fail (l : Launch) (D : va_G) (y : Nat → ClassId) (sz : Nat) (rd : Nat) (frd : List Value) (hrd_6 : px_g frd 6 (.int 0)) (hrd_9 : px_g frd 9 (.int 0)) (hrd_10 : px_g frd 10 (.int 0)) : Met l yX6_fail (px_w yX6_fail cX6_fail 2 (some .boolean)) ({ frames := 0, cells := 0, slots := 0, locals := 0 }) (va_Pc [.ref rd, .int 1] (px_P D y sz [px_o rd 6 frd])) (va_Qi (fun (r : Int32) (u : Unit) => r = 0) (fun (u : Unit) t => va_P D vwCl [px_o rd 6 ((frd.set 9 (.int 1)).set 10 (.int 0))] t.heap ∧ va_D (va_A [px_o rd 6 frd] sz) [px_o rd 6 ((frd.set 9 (.int 1)).set 10 (.int 0))]) (va_A [px_o rd 6 frd] sz)) 0 0 (va_A [px_o rd 6 frd] sz) := by
  refine Met.ofW (cc := cX6_fail) (maxL := 2) (ret := (some .boolean)) (by decide) rfl ?_
  intro p e s m args below meth c s₁ B hml hv
  obtain ⟨rfl, hsz, hP, hK, hD0⟩ := hv
  have hx := B.exec
  have hb := B.bytes
  have hr := B.returns
  have hts := atoms_spec (ws := px_w yX6_fail cX6_fail 2 (some .boolean)) B.pre
  have hg : ∀ w ∈ gw, w.before [.ref rd, .int 1].toArray s = true := fun w h => hts w (List.mem_cons_of_mem _ h)
  have hown : s.vm.findClass RX6 = some m.cls := findClass_of_methodNamed B.named
  have hlocks := B.notSynchronized
  subst hsz
  have hD := hD0.self (sz := s.heap.size)
  generalize hAe : va_A [px_o rd 6 frd] s.heap.size = A at hD ⊢
  have hA : ∀ q : Nat, s.heap.size ≤ q → A q := fun q h => by rw [← hAe]; exact Or.inr h
  have hS : va_S A s.heap s.heap [] := va_S.rf
  have hP : va_P D vwCl [px_o rd 6 frd] s.heap := hP
  have hl := lv_entry ([.ref rd, .int 1]) (n := 2) (Nat.le_of_ble_eq_true rfl)
  rw [lg_entry_eq]
  generalize (lg_sl ([.ref rd, .int 1]) ++ List.replicate (2 - (lg_sl ([.ref rd, .int 1])).length) Slot.unset).toArray = ls at hl ⊢
  have hl : lv_has ls 2 [(0, .ref rd), (1, .int 1)] := hl
  refine lv_aload_n hx hb dX6_fail_0 rfl (lv_at hl 0 rfl) ?_
  refine va_get (D := D) (ci := 6) (v := .int 0) (C := RX6) (T := TX6) (N := 11) hx hb hg inGX6 hown hK hP 0 rfl rfl 9 (by decide) (hg _ q_1_238) (fun _ h9 => h9) hrd_9 dX6_fail_1 ?_
  refine lv_if_ne (tgt := 20) hx hb dX6_fail_4 (by decide) (fun c_1 => absurd c_1 (by decide)) (fun _ => ?_)
  refine lv_aload_n hx hb dX6_fail_7 rfl (lv_at hl 0 rfl) ?_
  refine lv_iload_n hx hb dX6_fail_8 rfl (lv_at hl 1 rfl) ?_
  refine va_put (D := D) (ci := 6) (v := .int 1) (ty := .int) (C := RX6) (T := TX6) (N := 11) hx hb hg inGX6 tyX6 tyX6_ok nmX6 hown hK hP hD hS 0 rfl rfl 9 (by decide) (hg _ q_1_238) (fun _ h9 => h9) rfl (by decide +kernel) rfl rfl (px_len hrd_9) dX6_fail_9 (fun H_2 locs_2 hP_2 hD_2 hS_2 => ?_)
  clear hP hD hS
  have hP : va_P D vwCl [px_o rd 6 (frd.set 9 (.int 1))] H_2 := hP_2
  have hD : va_D A [px_o rd 6 (frd.set 9 (.int 1))] := hD_2
  have hS := hS_2
  clear hP_2 hD_2 hS_2
  refine lv_aload_n hx hb dX6_fail_12 rfl (lv_at hl 0 rfl) ?_
  refine lv_aload_n hx hb dX6_fail_13 rfl (lv_at hl 0 rfl) ?_
  refine va_get (D := D) (ci := 6) (v := .int 0) (C := RX6) (T := TX6) (N := 11) hx hb hg inGX6 hown hK hP 0 rfl rfl 6 (by decide) (hg _ q_1_229) (fun _ h9 => h9) (px_sn (by decide) hrd_6) dX6_fail_14 ?_
  refine va_put (D := D) (ci := 6) (v := .int 0) (ty := .int) (C := RX6) (T := TX6) (N := 11) hx hb hg inGX6 tyX6 tyX6_ok nmX6 hown hK hP hD hS 0 rfl rfl 10 (by decide) (hg _ q_2_0) (fun _ h9 => h9) rfl (by decide +kernel) rfl rfl (px_len (px_sn (by decide) hrd_10)) dX6_fail_17 (fun H_3 locs_3 hP_3 hD_3 hS_3 => ?_)
  clear hP hD hS
  have hP : va_P D vwCl [px_o rd 6 ((frd.set 9 (.int 1)).set 10 (.int 0))] H_3 := hP_3
  have hD : va_D A [px_o rd 6 ((frd.set 9 (.int 1)).set 10 (.int 0))] := hD_3
  have hS := hS_3
  clear hP_3 hD_3 hS_3
  refine lv_iconst (v := 0) hx hb dX6_fail_20 (by decide) ?_
  have hP9 := hP.sub (ws' := [px_o rd 6 ((frd.set 9 (.int 1)).set 10 (.int 0))]) [0] rfl
  have hD9 := hD.sub (ws' := [px_o rd 6 ((frd.set 9 (.int 1)).set 10 (.int 0))]) [0] (by decide +kernel) rfl
  exact W.zret (v := 0) hx hb hr (by decide) (fun t ht hW => ⟨⟨_, (), rfl, rfl, by rw [ht]; exact hP9, hD9⟩, hS.F ht⟩) hS.2.2 dX6_fail_21

set_option maxHeartbeats 4000000 in
set_option maxRecDepth 100000 in
theorem c_X8_beginsOne (l : Launch) (D : va_G) (y : Nat → ClassId) (sz : Nat) (se : Nat) (rd : Nat) (frd : List Value) (fse : List Value) (hrd_5 : px_g frd 5 (.int 302)) (hse_0 : px_g fse 0 (.ref rd)) : Met l yX8_beginsOne (px_w yX8_beginsOne cX8_beginsOne 2 (some .boolean)) ({ frames := 0, cells := 0, slots := 0, locals := 0 }) (va_Pc [.ref se] (px_P D y sz [px_o rd 6 frd, px_o se 8 fse])) (vp_Si (fun r : Int32 => r = 0)) 0 0 (fun _ => False) := by
  refine Met.ofW (cc := cX8_beginsOne) (maxL := 2) (ret := (some .boolean)) (by decide) rfl ?_
  intro p e s m args below meth c s₁ B hml hv
  obtain ⟨rfl, hsz, hP, hK, hD0⟩ := hv
  have hx := B.exec
  have hb := B.bytes
  have hr := B.returns
  have hts := atoms_spec (ws := px_w yX8_beginsOne cX8_beginsOne 2 (some .boolean)) B.pre
  have hg : ∀ w ∈ gw, w.before [.ref se].toArray s = true := fun w h => hts w (List.mem_cons_of_mem _ h)
  have hown : s.vm.findClass RX8 = some m.cls := findClass_of_methodNamed B.named
  have hlocks := B.notSynchronized
  subst hsz
  have hD := hD0
  have hP : va_P D vwCl [px_o rd 6 frd, px_o se 8 fse] s.heap := hP
  have hl := lv_entry ([.ref se]) (n := 2) (Nat.le_of_ble_eq_true rfl)
  rw [lg_entry_eq]
  generalize (lg_sl ([.ref se]) ++ List.replicate (2 - (lg_sl ([.ref se])).length) Slot.unset).toArray = ls at hl ⊢
  have hl : lv_has ls 2 [(0, .ref se)] := hl
  refine lv_aload_n hx hb dX8_beginsOne_0 rfl (lv_at hl 0 rfl) ?_
  refine va_get (D := D) (ci := 8) (v := .ref rd) (C := RX8) (T := TX8) (N := 3) hx hb hg inGX8 hown hK hP 1 rfl rfl 0 (by decide) (hg _ q_2_70) (fun _ h9 => h9) hse_0 dX8_beginsOne_1 ?_
  refine va_get (D := D) (ci := 6) (v := .int 302) (C := RX6) (T := TX6) (N := 11) hx hb hg inGX6 hown hK hP 0 rfl rfl 5 (by decide) (hg _ q_1_228) (fun _ h9 => h9) hrd_5 dX8_beginsOne_4 ?_
  refine lv_istore_n (lv' := [(1, .int 302), (0, .ref se)]) hx hb dX8_beginsOne_7 rfl hl (by decide) rfl (fun ls hl => ?_)
  refine lv_iload_n hx hb dX8_beginsOne_8 rfl (lv_at hl 0 rfl) ?_
  refine lv_bipush (v := 40) hx hb dX8_beginsOne_9 (by decide) ?_
  refine lv_icmp_eq (tgt := 26) hx hb dX8_beginsOne_11 (by decide) (fun c_1 => absurd c_1 (by decide)) (fun _ => ?_)
  refine lv_iload_n hx hb dX8_beginsOne_14 rfl (lv_at hl 0 rfl) ?_
  refine lv_bipush (v := 11) hx hb dX8_beginsOne_15 (by decide) ?_
  refine lv_icmp_lt (tgt := 30) hx hb dX8_beginsOne_17 (by decide) (fun c_2 => absurd c_2 (by decide)) (fun _ => ?_)
  refine lv_iload_n hx hb dX8_beginsOne_20 rfl (lv_at hl 0 rfl) ?_
  refine lv_bipush (v := 18) hx hb dX8_beginsOne_21 (by decide) ?_
  refine lv_icmp_gt (tgt := 30) hx hb dX8_beginsOne_23 (by decide) (fun _ => ?_) (fun c_3 => absurd c_3 (by decide))
  refine lv_iconst (v := 0) hx hb dX8_beginsOne_30 (by decide) ?_
  exact W.zret (v := 0) hx hb hr (by decide) (fun t ht hW => ⟨_, rfl, rfl, ht⟩) (fun q h => by cases h) dX8_beginsOne_31

set_option maxHeartbeats 4000000 in
set_option maxRecDepth 100000 in
theorem c_X8_readOne (l : Launch) (D : va_G) (y : Nat → ClassId) (sz : Nat) (se : Nat) (g : Nat) (fg : List Value) (rd : Nat) (frd : List Value) (fse : List Value) (hrd_5 : px_g frd 5 (.int 302)) (hrd_6 : px_g frd 6 (.int 0)) (hrd_9 : px_g frd 9 (.int 0)) (hrd_10 : px_g frd 10 (.int 0)) (hse_0 : px_g fse 0 (.ref rd)) : Met l yX8_readOne (px_w yX8_readOne cX8_readOne 4 (some .boolean)) ({ frames := 1, cells := 0, slots := 0, locals := 21 }) (va_Pc [.ref se, .ref g, .int 1] (px_P D y sz [px_o g 2 fg, px_o rd 6 frd, px_o se 8 fse])) (va_Qi (fun (r : Int32) (u : Unit) => r = 0) (fun (u : Unit) t => va_P D vwCl [px_o g 2 fg, px_o rd 6 ((frd.set 9 (.int 1)).set 10 (.int 0)), px_o se 8 fse] t.heap ∧ va_D (va_A [px_o g 2 fg, px_o rd 6 frd, px_o se 8 fse] sz) [px_o g 2 fg, px_o rd 6 ((frd.set 9 (.int 1)).set 10 (.int 0)), px_o se 8 fse]) (va_A [px_o g 2 fg, px_o rd 6 frd, px_o se 8 fse] sz)) 0 0 (va_A [px_o g 2 fg, px_o rd 6 frd, px_o se 8 fse] sz) := by
  refine Met.ofW (cc := cX8_readOne) (maxL := 4) (ret := (some .boolean)) (by decide) rfl ?_
  intro p e s m args below meth c s₁ B hml hv
  obtain ⟨rfl, hsz, hP, hK, hD0⟩ := hv
  have hx := B.exec
  have hb := B.bytes
  have hr := B.returns
  have hts := atoms_spec (ws := px_w yX8_readOne cX8_readOne 4 (some .boolean)) B.pre
  have hg : ∀ w ∈ gw, w.before [.ref se, .ref g, .int 1].toArray s = true := fun w h => hts w (List.mem_cons_of_mem _ h)
  have hown : s.vm.findClass RX8 = some m.cls := findClass_of_methodNamed B.named
  have hlocks := B.notSynchronized
  subst hsz
  have hD := hD0.self (sz := s.heap.size)
  generalize hAe : va_A [px_o g 2 fg, px_o rd 6 frd, px_o se 8 fse] s.heap.size = A at hD ⊢
  have hA : ∀ q : Nat, s.heap.size ≤ q → A q := fun q h => by rw [← hAe]; exact Or.inr h
  have hS : va_S A s.heap s.heap [] := va_S.rf
  have hP : va_P D vwCl [px_o g 2 fg, px_o rd 6 frd, px_o se 8 fse] s.heap := hP
  have hl := lv_entry ([.ref se, .ref g, .int 1]) (n := 4) (Nat.le_of_ble_eq_true rfl)
  rw [lg_entry_eq]
  generalize (lg_sl ([.ref se, .ref g, .int 1]) ++ List.replicate (4 - (lg_sl ([.ref se, .ref g, .int 1])).length) Slot.unset).toArray = ls at hl ⊢
  have hl : lv_has ls 4 [(0, .ref se), (1, .ref g), (2, .int 1)] := hl
  refine lv_aload_n hx hb dX8_readOne_0 rfl (lv_at hl 0 rfl) ?_
  have hPc_1 := hP.sub (ws' := [px_o rd 6 frd, px_o se 8 fse]) [1, 2] rfl
  have hDc_1 := hD.sub (ws' := [px_o rd 6 frd, px_o se 8 fse]) [1, 2] (by decide +kernel) rfl
  refine vp_callSi (va_Run.run (va_runV (As := []) (rest := []) ⟨hx, hb, hml, hown, hg⟩ (c_X8_beginsOne l D y s.heap.size se rd frd fse hrd_5 hse_0) (cwV 0 hg (px_gV q_5_160 q_5_162 q_p_54 q_1_13 q_5_163) rfl rfl rfl (by decide +kernel) ⟨Nat.le_of_ble_eq_true rfl, Nat.le_of_ble_eq_true rfl⟩) (px_preV hK hPc_1 hDc_1 (ci := 8) (q0 := 1) rfl rfl) rfl rfl hl.1 rfl (lv_room (Nat.le_of_ble_eq_true rfl)) dX8_readOne_1 ⟨Nat.le_of_ble_eq_true rfl, Nat.le_of_ble_eq_true rfl⟩)) (fun r_1 hw_1 => ?_)
  clear hPc_1 hDc_1
  obtain rfl : r_1 = 0 := hw_1
  refine lv_if_ne (tgt := 16) hx hb dX8_readOne_4 (by decide) (fun c_2 => absurd c_2 (by decide)) (fun _ => ?_)
  refine lv_aload_n hx hb dX8_readOne_7 rfl (lv_at hl 0 rfl) ?_
  refine va_get (D := D) (ci := 8) (v := .ref rd) (C := RX8) (T := TX8) (N := 3) hx hb hg inGX8 hown hK hP 2 rfl rfl 0 (by decide) (hg _ q_2_70) (fun _ h9 => h9) hse_0 dX8_readOne_8 ?_
  refine lv_iconst (v := 1) hx hb dX8_readOne_11 (by decide) ?_
  have hPc_3 := hP.sub (ws' := [px_o rd 6 frd]) [1] rfl
  have hDc_3 := hD.sub (ws' := [px_o rd 6 frd]) [1] (by decide +kernel) rfl
  have hFc_3 := va_free (wc := [px_o rd 6 frd]) hD hS hA [1] rfl
  refine va_calli (va_runV (As := [.int 1]) (rest := []) ⟨hx, hb, hml, hown, hg⟩ (c_X6_fail l D y s.heap.size rd frd hrd_6 hrd_9 hrd_10) (cwV 1 hg (px_gV q_5_164 q_2_221 q_2_222 q_1_6 q_2_223) rfl rfl rfl (by decide +kernel) ⟨Nat.le_of_ble_eq_true rfl, Nat.le_of_ble_eq_true rfl⟩) (px_preV hK hPc_3 hDc_3 (ci := 6) (q0 := 0) rfl rfl) rfl rfl hl.1 rfl (lv_room (Nat.le_of_ble_eq_true rfl)) dX8_readOne_12 ⟨Nat.le_of_ble_eq_true rfl, Nat.le_of_ble_eq_true rfl⟩) hS (fun q _ h => hFc_3 q h) hFc_3 (fun r_3 u_3 t_3 H_3 locs_3 ht_3 hvm_3 hw_3 hB_3 hz_3 hk_3 hS_3 => ?_)
  refine W.cs (cells' := 0) (slots' := 0) rfl rfl ?_
  obtain ⟨hP1_3, hD1_3⟩ := hB_3
  rw [ht_3] at hP1_3
  obtain ⟨hP_3, hD_3⟩ := va_join (wr := [px_o g 2 fg, px_o se 8 fse]) (w1 := [px_o rd 6 ((frd.set 9 (.int 1)).set 10 (.int 0))]) hP hD [1] [0, 2] rfl rfl (by decide +kernel) (by decide +kernel) hk_3 hFc_3 hP1_3 hD1_3
  clear hP hD hS hPc_3 hDc_3 hFc_3 hz_3 hk_3 hvm_3 ht_3 hP1_3 hD1_3
  have hP : va_P D vwCl [px_o g 2 fg, px_o se 8 fse, px_o rd 6 ((frd.set 9 (.int 1)).set 10 (.int 0))] H_3 := hP_3
  have hD : va_D A [px_o g 2 fg, px_o se 8 fse, px_o rd 6 ((frd.set 9 (.int 1)).set 10 (.int 0))] := hD_3
  have hS := hS_3
  clear hP_3 hD_3 hS_3
  obtain rfl : r_3 = 0 := hw_3
  have hP9 := hP.sub (ws' := [px_o g 2 fg, px_o rd 6 ((frd.set 9 (.int 1)).set 10 (.int 0)), px_o se 8 fse]) [0, 2, 1] rfl
  have hD9 := hD.sub (ws' := [px_o g 2 fg, px_o rd 6 ((frd.set 9 (.int 1)).set 10 (.int 0)), px_o se 8 fse]) [0, 2, 1] (by decide +kernel) rfl
  exact W.zret (v := 0) hx hb hr (by decide) (fun t ht hW => ⟨⟨_, (), rfl, rfl, by rw [ht]; exact hP9, hD9⟩, hS.F ht⟩) hS.2.2 dX8_readOne_15

set_option maxHeartbeats 4000000 in
set_option maxRecDepth 100000 in
theorem c_X8_readAll (l : Launch) (D : va_G) (y : Nat → ClassId) (sz : Nat) (se : Nat) (g : Nat) (fg : List Value) (rd : Nat) (frd : List Value) (fse : List Value) (hrd_5 : px_g frd 5 (.int 302)) (hrd_6 : px_g frd 6 (.int 0)) (hrd_9 : px_g frd 9 (.int 0)) (hrd_10 : px_g frd 10 (.int 0)) (hse_0 : px_g fse 0 (.ref rd)) : Met l yX8_readAll (px_w yX8_readAll cX8_readAll 4 (some .boolean)) ({ frames := 2, cells := 0, slots := 0, locals := 44 }) (va_Pc [.ref se, .ref g, .int 1] (px_P D y sz [px_o g 2 fg, px_o rd 6 frd, px_o se 8 fse])) (va_Qi (fun (r : Int32) (u : Unit) => r = 0) (fun (u : Unit) t => va_P D vwCl [px_o g 2 fg, px_o rd 6 ((frd.set 9 (.int 1)).set 10 (.int 0)), px_o se 8 fse] t.heap ∧ va_D (va_A [px_o g 2 fg, px_o rd 6 frd, px_o se 8 fse] sz) [px_o g 2 fg, px_o rd 6 ((frd.set 9 (.int 1)).set 10 (.int 0)), px_o se 8 fse]) (va_A [px_o g 2 fg, px_o rd 6 frd, px_o se 8 fse] sz)) 0 0 (va_A [px_o g 2 fg, px_o rd 6 frd, px_o se 8 fse] sz) := by
  refine Met.ofW (cc := cX8_readAll) (maxL := 4) (ret := (some .boolean)) (by decide) rfl ?_
  intro p e s m args below meth c s₁ B hml hv
  obtain ⟨rfl, hsz, hP, hK, hD0⟩ := hv
  have hx := B.exec
  have hb := B.bytes
  have hr := B.returns
  have hts := atoms_spec (ws := px_w yX8_readAll cX8_readAll 4 (some .boolean)) B.pre
  have hg : ∀ w ∈ gw, w.before [.ref se, .ref g, .int 1].toArray s = true := fun w h => hts w (List.mem_cons_of_mem _ h)
  have hown : s.vm.findClass RX8 = some m.cls := findClass_of_methodNamed B.named
  have hlocks := B.notSynchronized
  subst hsz
  have hD := hD0.self (sz := s.heap.size)
  generalize hAe : va_A [px_o g 2 fg, px_o rd 6 frd, px_o se 8 fse] s.heap.size = A at hD ⊢
  have hA : ∀ q : Nat, s.heap.size ≤ q → A q := fun q h => by rw [← hAe]; exact Or.inr h
  have hS : va_S A s.heap s.heap [] := va_S.rf
  have hP : va_P D vwCl [px_o g 2 fg, px_o rd 6 frd, px_o se 8 fse] s.heap := hP
  have hl := lv_entry ([.ref se, .ref g, .int 1]) (n := 4) (Nat.le_of_ble_eq_true rfl)
  rw [lg_entry_eq]
  generalize (lg_sl ([.ref se, .ref g, .int 1]) ++ List.replicate (4 - (lg_sl ([.ref se, .ref g, .int 1])).length) Slot.unset).toArray = ls at hl ⊢
  have hl : lv_has ls 4 [(0, .ref se), (1, .ref g), (2, .int 1)] := hl
  refine lv_aload_n hx hb dX8_readAll_0 rfl (lv_at hl 0 rfl) ?_
  refine lv_aload_n hx hb dX8_readAll_1 rfl (lv_at hl 1 rfl) ?_
  refine lv_iload_n hx hb dX8_readAll_2 rfl (lv_at hl 2 rfl) ?_
  have hPc_1 := hP.sub (ws' := [px_o g 2 fg, px_o rd 6 frd, px_o se 8 fse]) [0, 1, 2] rfl
  have hDc_1 := hD.sub (ws' := [px_o g 2 fg, px_o rd 6 frd, px_o se 8 fse]) [0, 1, 2] (by decide +kernel) rfl
  have hFc_1 := va_free (wc := [px_o g 2 fg, px_o rd 6 frd, px_o se 8 fse]) hD hS hA [0, 1, 2] rfl
  refine va_calli (va_runV (As := [.ref g, .int 1]) (rest := []) ⟨hx, hb, hml, hown, hg⟩ (c_X8_readOne l D y s.heap.size se g fg rd frd fse hrd_5 hrd_6 hrd_9 hrd_10 hse_0) (cwV 2 hg (px_gV q_5_156 q_5_158 q_p_53 q_1_13 q_5_159) rfl rfl rfl (by decide +kernel) ⟨Nat.le_of_ble_eq_true rfl, Nat.le_of_ble_eq_true rfl⟩) (px_preV hK hPc_1 hDc_1 (ci := 8) (q0 := 2) rfl rfl) rfl rfl hl.1 rfl (lv_room (Nat.le_of_ble_eq_true rfl)) dX8_readAll_3 ⟨Nat.le_of_ble_eq_true rfl, Nat.le_of_ble_eq_true rfl⟩) hS (fun q _ h => hFc_1 q h) hFc_1 (fun r_1 u_1 t_1 H_1 locs_1 ht_1 hvm_1 hw_1 hB_1 hz_1 hk_1 hS_1 => ?_)
  refine W.cs (cells' := 0) (slots' := 0) rfl rfl ?_
  obtain ⟨hP1_1, hD1_1⟩ := hB_1
  rw [ht_1] at hP1_1
  obtain ⟨hP_1, hD_1⟩ := va_join (wr := []) (w1 := [px_o g 2 fg, px_o rd 6 ((frd.set 9 (.int 1)).set 10 (.int 0)), px_o se 8 fse]) hP hD [0, 1, 2] [] rfl rfl (by decide +kernel) (by decide +kernel) hk_1 hFc_1 hP1_1 hD1_1
  clear hP hD hS hPc_1 hDc_1 hFc_1 hz_1 hk_1 hvm_1 ht_1 hP1_1 hD1_1
  have hP : va_P D vwCl [px_o g 2 fg, px_o rd 6 ((frd.set 9 (.int 1)).set 10 (.int 0)), px_o se 8 fse] H_1 := hP_1
  have hD : va_D A [px_o g 2 fg, px_o rd 6 ((frd.set 9 (.int 1)).set 10 (.int 0)), px_o se 8 fse] := hD_1
  have hS := hS_1
  clear hP_1 hD_1 hS_1
  obtain rfl : r_1 = 0 := hw_1
  refine lv_if_ne (tgt := 11) hx hb dX8_readAll_6 (by decide) (fun c_2 => absurd c_2 (by decide)) (fun _ => ?_)
  refine lv_iconst (v := 0) hx hb dX8_readAll_9 (by decide) ?_
  have hP9 := hP.sub (ws' := [px_o g 2 fg, px_o rd 6 ((frd.set 9 (.int 1)).set 10 (.int 0)), px_o se 8 fse]) [0, 1, 2] rfl
  have hD9 := hD.sub (ws' := [px_o g 2 fg, px_o rd 6 ((frd.set 9 (.int 1)).set 10 (.int 0)), px_o se 8 fse]) [0, 1, 2] (by decide +kernel) rfl
  exact W.zret (v := 0) hx hb hr (by decide) (fun t ht hW => ⟨⟨_, (), rfl, rfl, by rw [ht]; exact hP9, hD9⟩, hS.F ht⟩) hS.2.2 dX8_readAll_10

set_option maxHeartbeats 4000000 in
set_option maxRecDepth 100000 in
theorem c_X8_readCond (l : Launch) (D : va_G) (y : Nat → ClassId) (sz : Nat) (se : Nat) (g : Nat) (fg : List Value) (rd : Nat) (frd : List Value) (fse : List Value) (hrd_5 : px_g frd 5 (.int 302)) (hrd_6 : px_g frd 6 (.int 0)) (hrd_9 : px_g frd 9 (.int 0)) (hrd_10 : px_g frd 10 (.int 0)) (hse_0 : px_g fse 0 (.ref rd)) : Met l yX8_readCond (px_w yX8_readCond cX8_readCond 4 (some .boolean)) ({ frames := 3, cells := 0, slots := 0, locals := 67 }) (va_Pc [.ref se, .ref g, .int 1] (px_P D y sz [px_o g 2 fg, px_o rd 6 frd, px_o se 8 fse])) (va_Qi (fun (r : Int32) (u : Unit) => r = 0) (fun (u : Unit) t => va_P D vwCl [px_o g 2 fg, px_o rd 6 ((frd.set 9 (.int 1)).set 10 (.int 0)), px_o se 8 fse] t.heap ∧ va_D (va_A [px_o g 2 fg, px_o rd 6 frd, px_o se 8 fse] sz) [px_o g 2 fg, px_o rd 6 ((frd.set 9 (.int 1)).set 10 (.int 0)), px_o se 8 fse]) (va_A [px_o g 2 fg, px_o rd 6 frd, px_o se 8 fse] sz)) 0 0 (va_A [px_o g 2 fg, px_o rd 6 frd, px_o se 8 fse] sz) := by
  refine Met.ofW (cc := cX8_readCond) (maxL := 4) (ret := (some .boolean)) (by decide) rfl ?_
  intro p e s m args below meth c s₁ B hml hv
  obtain ⟨rfl, hsz, hP, hK, hD0⟩ := hv
  have hx := B.exec
  have hb := B.bytes
  have hr := B.returns
  have hts := atoms_spec (ws := px_w yX8_readCond cX8_readCond 4 (some .boolean)) B.pre
  have hg : ∀ w ∈ gw, w.before [.ref se, .ref g, .int 1].toArray s = true := fun w h => hts w (List.mem_cons_of_mem _ h)
  have hown : s.vm.findClass RX8 = some m.cls := findClass_of_methodNamed B.named
  have hlocks := B.notSynchronized
  subst hsz
  have hD := hD0.self (sz := s.heap.size)
  generalize hAe : va_A [px_o g 2 fg, px_o rd 6 frd, px_o se 8 fse] s.heap.size = A at hD ⊢
  have hA : ∀ q : Nat, s.heap.size ≤ q → A q := fun q h => by rw [← hAe]; exact Or.inr h
  have hS : va_S A s.heap s.heap [] := va_S.rf
  have hP : va_P D vwCl [px_o g 2 fg, px_o rd 6 frd, px_o se 8 fse] s.heap := hP
  have hl := lv_entry ([.ref se, .ref g, .int 1]) (n := 4) (Nat.le_of_ble_eq_true rfl)
  rw [lg_entry_eq]
  generalize (lg_sl ([.ref se, .ref g, .int 1]) ++ List.replicate (4 - (lg_sl ([.ref se, .ref g, .int 1])).length) Slot.unset).toArray = ls at hl ⊢
  have hl : lv_has ls 4 [(0, .ref se), (1, .ref g), (2, .int 1)] := hl
  refine lv_aload_n hx hb dX8_readCond_0 rfl (lv_at hl 0 rfl) ?_
  refine lv_aload_n hx hb dX8_readCond_1 rfl (lv_at hl 1 rfl) ?_
  refine lv_iload_n hx hb dX8_readCond_2 rfl (lv_at hl 2 rfl) ?_
  have hPc_1 := hP.sub (ws' := [px_o g 2 fg, px_o rd 6 frd, px_o se 8 fse]) [0, 1, 2] rfl
  have hDc_1 := hD.sub (ws' := [px_o g 2 fg, px_o rd 6 frd, px_o se 8 fse]) [0, 1, 2] (by decide +kernel) rfl
  have hFc_1 := va_free (wc := [px_o g 2 fg, px_o rd 6 frd, px_o se 8 fse]) hD hS hA [0, 1, 2] rfl
  refine va_calli (va_runV (As := [.ref g, .int 1]) (rest := []) ⟨hx, hb, hml, hown, hg⟩ (c_X8_readAll l D y s.heap.size se g fg rd frd fse hrd_5 hrd_6 hrd_9 hrd_10 hse_0) (cwV 2 hg (px_gV q_5_152 q_5_154 q_p_52 q_1_13 q_5_155) rfl rfl rfl (by decide +kernel) ⟨Nat.le_of_ble_eq_true rfl, Nat.le_of_ble_eq_true rfl⟩) (px_preV hK hPc_1 hDc_1 (ci := 8) (q0 := 2) rfl rfl) rfl rfl hl.1 rfl (lv_room (Nat.le_of_ble_eq_true rfl)) dX8_readCond_3 ⟨Nat.le_of_ble_eq_true rfl, Nat.le_of_ble_eq_true rfl⟩) hS (fun q _ h => hFc_1 q h) hFc_1 (fun r_1 u_1 t_1 H_1 locs_1 ht_1 hvm_1 hw_1 hB_1 hz_1 hk_1 hS_1 => ?_)
  refine W.cs (cells' := 0) (slots' := 0) rfl rfl ?_
  obtain ⟨hP1_1, hD1_1⟩ := hB_1
  rw [ht_1] at hP1_1
  obtain ⟨hP_1, hD_1⟩ := va_join (wr := []) (w1 := [px_o g 2 fg, px_o rd 6 ((frd.set 9 (.int 1)).set 10 (.int 0)), px_o se 8 fse]) hP hD [0, 1, 2] [] rfl rfl (by decide +kernel) (by decide +kernel) hk_1 hFc_1 hP1_1 hD1_1
  clear hP hD hS hPc_1 hDc_1 hFc_1 hz_1 hk_1 hvm_1 ht_1 hP1_1 hD1_1
  have hP : va_P D vwCl [px_o g 2 fg, px_o rd 6 ((frd.set 9 (.int 1)).set 10 (.int 0)), px_o se 8 fse] H_1 := hP_1
  have hD : va_D A [px_o g 2 fg, px_o rd 6 ((frd.set 9 (.int 1)).set 10 (.int 0)), px_o se 8 fse] := hD_1
  have hS := hS_1
  clear hP_1 hD_1 hS_1
  obtain rfl : r_1 = 0 := hw_1
  refine lv_if_ne (tgt := 11) hx hb dX8_readCond_6 (by decide) (fun c_2 => absurd c_2 (by decide)) (fun _ => ?_)
  refine lv_iconst (v := 0) hx hb dX8_readCond_9 (by decide) ?_
  have hP9 := hP.sub (ws' := [px_o g 2 fg, px_o rd 6 ((frd.set 9 (.int 1)).set 10 (.int 0)), px_o se 8 fse]) [0, 1, 2] rfl
  have hD9 := hD.sub (ws' := [px_o g 2 fg, px_o rd 6 ((frd.set 9 (.int 1)).set 10 (.int 0)), px_o se 8 fse]) [0, 1, 2] (by decide +kernel) rfl
  exact W.zret (v := 0) hx hb hr (by decide) (fun t ht hW => ⟨⟨_, (), rfl, rfl, by rw [ht]; exact hP9, hD9⟩, hS.F ht⟩) hS.2.2 dX8_readCond_10

set_option maxHeartbeats 4000000 in
set_option maxRecDepth 100000 in
theorem c_X8_read (l : Launch) (D : va_G) (y : Nat → ClassId) (sz : Nat) (se : Nat) (tp : Nat) (g : Nat) (ftp : Nat → Int32) (fg : List Value) (rd : Nat) (frd : List Value) (rt : Nat) (fse : List Value) (sm : Nat) (fsm : List Value) (hrd_1 : px_g frd 1 (.ref rt)) (hrd_2 : px_g frd 2 (.int 0)) (hrd_3 : px_g frd 3 (.int 0)) (hrd_4 : px_g frd 4 (.int 0)) (hrd_5 : px_g frd 5 (.int 302)) (hrd_6 : px_g frd 6 (.int 0)) (hrd_9 : px_g frd 9 (.int 0)) (hrd_10 : px_g frd 10 (.int 0)) (hse_0 : px_g fse 0 (.ref rd)) (hse_1 : px_g fse 1 (.ref sm)) (hse_2 : px_g fse 2 (.int 0)) (hsm_1 : px_g fsm 1 (.int 0)) : Met l yX8_read (px_w yX8_read cX8_read 4 (some .boolean)) ({ frames := 4, cells := 0, slots := 0, locals := 90 }) (va_Pc [.ref se, .ref tp, .int 0, .ref g] (px_P D y sz [px_i tp (y 0) 940 ftp, px_o g 2 fg, px_o rd 6 frd, px_o se 8 fse, px_o sm 7 fsm])) (va_Qi (fun (r : Int32) (u : Unit) => r = 0) (fun (u : Unit) t => va_P D vwCl [px_i tp (y 0) 940 ftp, px_o g 2 fg, px_o rd 6 ((((((((((frd.set 1 (.ref tp)).set 2 (.int 0)).set 3 (.int 200)).set 4 (.int 0)).set 9 (.int 0)).set 10 (.int 0)).set 6 (.int 0)).set 5 (.int 302)).set 9 (.int 1)).set 10 (.int 0)), px_o se 8 (fse.set 2 (.int 0)), px_o sm 7 (fsm.set 1 (.int 0))] t.heap ∧ va_D (va_A [px_i tp (y 0) 940 ftp, px_o g 2 fg, px_o rd 6 frd, px_o se 8 fse, px_o sm 7 fsm] sz) [px_i tp (y 0) 940 ftp, px_o g 2 fg, px_o rd 6 ((((((((((frd.set 1 (.ref tp)).set 2 (.int 0)).set 3 (.int 200)).set 4 (.int 0)).set 9 (.int 0)).set 10 (.int 0)).set 6 (.int 0)).set 5 (.int 302)).set 9 (.int 1)).set 10 (.int 0)), px_o se 8 (fse.set 2 (.int 0)), px_o sm 7 (fsm.set 1 (.int 0))]) (va_A [px_i tp (y 0) 940 ftp, px_o g 2 fg, px_o rd 6 frd, px_o se 8 fse, px_o sm 7 fsm] sz)) 0 0 (va_A [px_i tp (y 0) 940 ftp, px_o g 2 fg, px_o rd 6 frd, px_o se 8 fse, px_o sm 7 fsm] sz) := by
  refine Met.ofW (cc := cX8_read) (maxL := 4) (ret := (some .boolean)) (by decide) rfl ?_
  intro p e s m args below meth c s₁ B hml hv
  obtain ⟨rfl, hsz, hP, hK, hD0⟩ := hv
  have hx := B.exec
  have hb := B.bytes
  have hr := B.returns
  have hts := atoms_spec (ws := px_w yX8_read cX8_read 4 (some .boolean)) B.pre
  have hg : ∀ w ∈ gw, w.before [.ref se, .ref tp, .int 0, .ref g].toArray s = true := fun w h => hts w (List.mem_cons_of_mem _ h)
  have hown : s.vm.findClass RX8 = some m.cls := findClass_of_methodNamed B.named
  have hlocks := B.notSynchronized
  subst hsz
  have hD := hD0.self (sz := s.heap.size)
  generalize hAe : va_A [px_i tp (y 0) 940 ftp, px_o g 2 fg, px_o rd 6 frd, px_o se 8 fse, px_o sm 7 fsm] s.heap.size = A at hD ⊢
  have hA : ∀ q : Nat, s.heap.size ≤ q → A q := fun q h => by rw [← hAe]; exact Or.inr h
  have hS : va_S A s.heap s.heap [] := va_S.rf
  have hP : va_P D vwCl [px_i tp (y 0) 940 ftp, px_o g 2 fg, px_o rd 6 frd, px_o se 8 fse, px_o sm 7 fsm] s.heap := hP
  have hl := lv_entry ([.ref se, .ref tp, .int 0, .ref g]) (n := 4) (Nat.le_of_ble_eq_true rfl)
  rw [lg_entry_eq]
  generalize (lg_sl ([.ref se, .ref tp, .int 0, .ref g]) ++ List.replicate (4 - (lg_sl ([.ref se, .ref tp, .int 0, .ref g])).length) Slot.unset).toArray = ls at hl ⊢
  have hl : lv_has ls 4 [(0, .ref se), (1, .ref tp), (2, .int 0), (3, .ref g)] := hl
  refine lv_aload_n hx hb dX8_read_0 rfl (lv_at hl 0 rfl) ?_
  refine va_get (D := D) (ci := 8) (v := .ref sm) (C := RX8) (T := TX8) (N := 3) hx hb hg inGX8 hown hK hP 3 rfl rfl 1 (by decide) (hg _ q_2_71) (fun _ h9 => h9) hse_1 dX8_read_1 ?_
  have hPc_1 := hP.sub (ws' := [px_o sm 7 fsm]) [4] rfl
  have hDc_1 := hD.sub (ws' := [px_o sm 7 fsm]) [4] (by decide +kernel) rfl
  have hFc_1 := va_free (wc := [px_o sm 7 fsm]) hD hS hA [4] rfl
  refine va_callv (va_runV (As := []) (rest := []) ⟨hx, hb, hml, hown, hg⟩ (c_X7_clear l D y s.heap.size sm fsm hsm_1) (cwV 0 hg (px_gV q_5_146 q_3_100 q_3_101 q_1_5 q_3_102) rfl rfl rfl (by decide +kernel) ⟨Nat.le_of_ble_eq_true rfl, Nat.le_of_ble_eq_true rfl⟩) (px_preV hK hPc_1 hDc_1 (ci := 7) (q0 := 0) rfl rfl) rfl rfl hl.1 rfl (lv_room (Nat.le_of_ble_eq_true rfl)) dX8_read_4 ⟨Nat.le_of_ble_eq_true rfl, Nat.le_of_ble_eq_true rfl⟩) hS (fun q _ h => hFc_1 q h) hFc_1 (fun u_1 t_1 H_1 locs_1 ht_1 hvm_1 hw_1 hB_1 hz_1 hk_1 hS_1 => ?_)
  refine W.cs (cells' := 0) (slots' := 0) rfl rfl ?_
  obtain ⟨hP1_1, hD1_1⟩ := hB_1
  rw [ht_1] at hP1_1
  obtain ⟨hP_1, hD_1⟩ := va_join (wr := [px_i tp (y 0) 940 ftp, px_o g 2 fg, px_o rd 6 frd, px_o se 8 fse]) (w1 := [px_o sm 7 (fsm.set 1 (.int 0))]) hP hD [4] [0, 1, 2, 3] rfl rfl (by decide +kernel) (by decide +kernel) hk_1 hFc_1 hP1_1 hD1_1
  clear hP hD hS hPc_1 hDc_1 hFc_1 hz_1 hk_1 hvm_1 ht_1 hP1_1 hD1_1
  have hP : va_P D vwCl [px_i tp (y 0) 940 ftp, px_o g 2 fg, px_o rd 6 frd, px_o se 8 fse, px_o sm 7 (fsm.set 1 (.int 0))] H_1 := hP_1
  have hD : va_D A [px_i tp (y 0) 940 ftp, px_o g 2 fg, px_o rd 6 frd, px_o se 8 fse, px_o sm 7 (fsm.set 1 (.int 0))] := hD_1
  have hS := hS_1
  clear hP_1 hD_1 hS_1
  refine lv_aload_n hx hb dX8_read_7 rfl (lv_at hl 0 rfl) ?_
  refine lv_iconst (v := 0) hx hb dX8_read_8 (by decide) ?_
  refine va_put (D := D) (ci := 8) (v := .int 0) (ty := .int) (C := RX8) (T := TX8) (N := 3) hx hb hg inGX8 tyX8 tyX8_ok nmX8 hown hK hP hD hS 3 rfl rfl 2 (by decide) (hg _ q_2_73) (fun _ h9 => h9) rfl (by decide +kernel) rfl rfl (px_len hse_2) dX8_read_9 (fun H_2 locs_2 hP_2 hD_2 hS_2 => ?_)
  clear hP hD hS
  have hP : va_P D vwCl [px_i tp (y 0) 940 ftp, px_o g 2 fg, px_o rd 6 frd, px_o se 8 (fse.set 2 (.int 0)), px_o sm 7 (fsm.set 1 (.int 0))] H_2 := hP_2
  have hD : va_D A [px_i tp (y 0) 940 ftp, px_o g 2 fg, px_o rd 6 frd, px_o se 8 (fse.set 2 (.int 0)), px_o sm 7 (fsm.set 1 (.int 0))] := hD_2
  have hS := hS_2
  clear hP_2 hD_2 hS_2
  refine lv_aload_n hx hb dX8_read_12 rfl (lv_at hl 0 rfl) ?_
  refine va_get (D := D) (ci := 8) (v := .ref rd) (C := RX8) (T := TX8) (N := 3) hx hb hg inGX8 hown hK hP 3 rfl rfl 0 (by decide) (hg _ q_2_70) (fun _ h9 => h9) (px_sn (by decide) hse_0) dX8_read_13 ?_
  refine lv_aload_n hx hb dX8_read_16 rfl (lv_at hl 1 rfl) ?_
  refine lv_iload_n hx hb dX8_read_17 rfl (lv_at hl 2 rfl) ?_
  refine lv_sipush (v := 200) hx hb dX8_read_18 (by decide) ?_
  have hPc_3 := hP.sub (ws' := [px_i tp (y 0) 940 ftp, px_o rd 6 frd]) [0, 2] rfl
  have hDc_3 := hD.sub (ws' := [px_i tp (y 0) 940 ftp, px_o rd 6 frd]) [0, 2] (by decide +kernel) rfl
  have hFc_3 := va_free (wc := [px_i tp (y 0) 940 ftp, px_o rd 6 frd]) hD hS hA [0, 2] rfl
  refine va_callv (va_runV (As := [.ref tp, .int 0, .int 200]) (rest := []) ⟨hx, hb, hml, hown, hg⟩ (c_X6_begin_200 l D y H_2.size rd tp ftp frd rt hrd_1 hrd_2 hrd_3 hrd_4 hrd_5 hrd_6 hrd_9 hrd_10) (cwV 3 hg (px_gV q_5_147 q_2_194 q_2_195 q_1_6 q_2_196) rfl rfl rfl (by decide +kernel) ⟨Nat.le_of_ble_eq_true rfl, Nat.le_of_ble_eq_true rfl⟩) (px_preV hK hPc_3 hDc_3 (ci := 6) (q0 := 1) rfl rfl) rfl rfl hl.1 rfl (lv_room (Nat.le_of_ble_eq_true rfl)) dX8_read_21 ⟨Nat.le_of_ble_eq_true rfl, Nat.le_of_ble_eq_true rfl⟩) hS (fun q _ h => hFc_3 q h) hFc_3 (fun u_3 t_3 H_3 locs_3 ht_3 hvm_3 hw_3 hB_3 hz_3 hk_3 hS_3 => ?_)
  refine W.cs (cells' := 0) (slots' := 0) rfl rfl ?_
  obtain ⟨hP1_3, hD1_3⟩ := hB_3
  rw [ht_3] at hP1_3
  obtain ⟨hP_3, hD_3⟩ := va_join (wr := [px_o g 2 fg, px_o se 8 (fse.set 2 (.int 0)), px_o sm 7 (fsm.set 1 (.int 0))]) (w1 := [px_i tp (y 0) 940 ftp, px_o rd 6 ((((((((frd.set 1 (.ref tp)).set 2 (.int 0)).set 3 (.int 200)).set 4 (.int 0)).set 9 (.int 0)).set 10 (.int 0)).set 6 (.int 0)).set 5 (.int 302))]) hP hD [0, 2] [1, 3, 4] rfl rfl (by decide +kernel) (by decide +kernel) hk_3 hFc_3 hP1_3 hD1_3
  clear hP hD hS hPc_3 hDc_3 hFc_3 hz_3 hk_3 hvm_3 ht_3 hP1_3 hD1_3
  have hP : va_P D vwCl [px_o g 2 fg, px_o se 8 (fse.set 2 (.int 0)), px_o sm 7 (fsm.set 1 (.int 0)), px_i tp (y 0) 940 ftp, px_o rd 6 ((((((((frd.set 1 (.ref tp)).set 2 (.int 0)).set 3 (.int 200)).set 4 (.int 0)).set 9 (.int 0)).set 10 (.int 0)).set 6 (.int 0)).set 5 (.int 302))] H_3 := hP_3
  have hD : va_D A [px_o g 2 fg, px_o se 8 (fse.set 2 (.int 0)), px_o sm 7 (fsm.set 1 (.int 0)), px_i tp (y 0) 940 ftp, px_o rd 6 ((((((((frd.set 1 (.ref tp)).set 2 (.int 0)).set 3 (.int 200)).set 4 (.int 0)).set 9 (.int 0)).set 10 (.int 0)).set 6 (.int 0)).set 5 (.int 302))] := hD_3
  have hS := hS_3
  clear hP_3 hD_3 hS_3
  refine lv_aload_n hx hb dX8_read_24 rfl (lv_at hl 0 rfl) ?_
  refine lv_aload_n hx hb dX8_read_25 rfl (lv_at hl 3 rfl) ?_
  refine lv_iconst (v := 1) hx hb dX8_read_26 (by decide) ?_
  have hPc_4 := hP.sub (ws' := [px_o g 2 fg, px_o rd 6 ((((((((frd.set 1 (.ref tp)).set 2 (.int 0)).set 3 (.int 200)).set 4 (.int 0)).set 9 (.int 0)).set 10 (.int 0)).set 6 (.int 0)).set 5 (.int 302)), px_o se 8 (fse.set 2 (.int 0))]) [0, 4, 1] rfl
  have hDc_4 := hD.sub (ws' := [px_o g 2 fg, px_o rd 6 ((((((((frd.set 1 (.ref tp)).set 2 (.int 0)).set 3 (.int 200)).set 4 (.int 0)).set 9 (.int 0)).set 10 (.int 0)).set 6 (.int 0)).set 5 (.int 302)), px_o se 8 (fse.set 2 (.int 0))]) [0, 4, 1] (by decide +kernel) rfl
  have hFc_4 := va_free (wc := [px_o g 2 fg, px_o rd 6 ((((((((frd.set 1 (.ref tp)).set 2 (.int 0)).set 3 (.int 200)).set 4 (.int 0)).set 9 (.int 0)).set 10 (.int 0)).set 6 (.int 0)).set 5 (.int 302)), px_o se 8 (fse.set 2 (.int 0))]) hD hS hA [0, 4, 1] rfl
  refine va_calli (va_runV (As := [.ref g, .int 1]) (rest := []) ⟨hx, hb, hml, hown, hg⟩ (c_X8_readCond l D y H_3.size se g fg rd ((((((((frd.set 1 (.ref tp)).set 2 (.int 0)).set 3 (.int 200)).set 4 (.int 0)).set 9 (.int 0)).set 10 (.int 0)).set 6 (.int 0)).set 5 (.int 302)) (fse.set 2 (.int 0)) (px_ss (px_sn (by decide) (px_sn (by decide) (px_sn (by decide) (px_sn (by decide) (px_sn (by decide) (px_sn (by decide) (px_sn (by decide) hrd_5)))))))) (px_sn (by decide) (px_ss (px_sn (by decide) (px_sn (by decide) (px_sn (by decide) (px_sn (by decide) (px_sn (by decide) (px_sn (by decide) hrd_6)))))))) (px_sn (by decide) (px_sn (by decide) (px_sn (by decide) (px_ss (px_sn (by decide) (px_sn (by decide) (px_sn (by decide) (px_sn (by decide) hrd_9)))))))) (px_sn (by decide) (px_sn (by decide) (px_ss (px_sn (by decide) (px_sn (by decide) (px_sn (by decide) (px_sn (by decide) (px_sn (by decide) hrd_10)))))))) (px_sn (by decide) hse_0)) (cwV 2 hg (px_gV q_5_148 q_5_150 q_p_51 q_1_13 q_5_151) rfl rfl rfl (by decide +kernel) ⟨Nat.le_of_ble_eq_true rfl, Nat.le_of_ble_eq_true rfl⟩) (px_preV hK hPc_4 hDc_4 (ci := 8) (q0 := 2) rfl rfl) rfl rfl hl.1 rfl (lv_room (Nat.le_of_ble_eq_true rfl)) dX8_read_27 ⟨Nat.le_of_ble_eq_true rfl, Nat.le_of_ble_eq_true rfl⟩) hS (fun q _ h => hFc_4 q h) hFc_4 (fun r_4 u_4 t_4 H_4 locs_4 ht_4 hvm_4 hw_4 hB_4 hz_4 hk_4 hS_4 => ?_)
  refine W.cs (cells' := 0) (slots' := 0) rfl rfl ?_
  obtain ⟨hP1_4, hD1_4⟩ := hB_4
  rw [ht_4] at hP1_4
  obtain ⟨hP_4, hD_4⟩ := va_join (wr := [px_o sm 7 (fsm.set 1 (.int 0)), px_i tp (y 0) 940 ftp]) (w1 := [px_o g 2 fg, px_o rd 6 ((((((((((frd.set 1 (.ref tp)).set 2 (.int 0)).set 3 (.int 200)).set 4 (.int 0)).set 9 (.int 0)).set 10 (.int 0)).set 6 (.int 0)).set 5 (.int 302)).set 9 (.int 1)).set 10 (.int 0)), px_o se 8 (fse.set 2 (.int 0))]) hP hD [0, 4, 1] [2, 3] rfl rfl (by decide +kernel) (by decide +kernel) hk_4 hFc_4 hP1_4 hD1_4
  clear hP hD hS hPc_4 hDc_4 hFc_4 hz_4 hk_4 hvm_4 ht_4 hP1_4 hD1_4
  have hP : va_P D vwCl [px_o sm 7 (fsm.set 1 (.int 0)), px_i tp (y 0) 940 ftp, px_o g 2 fg, px_o rd 6 ((((((((((frd.set 1 (.ref tp)).set 2 (.int 0)).set 3 (.int 200)).set 4 (.int 0)).set 9 (.int 0)).set 10 (.int 0)).set 6 (.int 0)).set 5 (.int 302)).set 9 (.int 1)).set 10 (.int 0)), px_o se 8 (fse.set 2 (.int 0))] H_4 := hP_4
  have hD : va_D A [px_o sm 7 (fsm.set 1 (.int 0)), px_i tp (y 0) 940 ftp, px_o g 2 fg, px_o rd 6 ((((((((((frd.set 1 (.ref tp)).set 2 (.int 0)).set 3 (.int 200)).set 4 (.int 0)).set 9 (.int 0)).set 10 (.int 0)).set 6 (.int 0)).set 5 (.int 302)).set 9 (.int 1)).set 10 (.int 0)), px_o se 8 (fse.set 2 (.int 0))] := hD_4
  have hS := hS_4
  clear hP_4 hD_4 hS_4
  obtain rfl : r_4 = 0 := hw_4
  refine lv_if_ne (tgt := 35) hx hb dX8_read_30 (by decide) (fun c_5 => absurd c_5 (by decide)) (fun _ => ?_)
  refine lv_iconst (v := 0) hx hb dX8_read_33 (by decide) ?_
  have hP9 := hP.sub (ws' := [px_i tp (y 0) 940 ftp, px_o g 2 fg, px_o rd 6 ((((((((((frd.set 1 (.ref tp)).set 2 (.int 0)).set 3 (.int 200)).set 4 (.int 0)).set 9 (.int 0)).set 10 (.int 0)).set 6 (.int 0)).set 5 (.int 302)).set 9 (.int 1)).set 10 (.int 0)), px_o se 8 (fse.set 2 (.int 0)), px_o sm 7 (fsm.set 1 (.int 0))]) [1, 2, 3, 4, 0] rfl
  have hD9 := hD.sub (ws' := [px_i tp (y 0) 940 ftp, px_o g 2 fg, px_o rd 6 ((((((((((frd.set 1 (.ref tp)).set 2 (.int 0)).set 3 (.int 200)).set 4 (.int 0)).set 9 (.int 0)).set 10 (.int 0)).set 6 (.int 0)).set 5 (.int 302)).set 9 (.int 1)).set 10 (.int 0)), px_o se 8 (fse.set 2 (.int 0)), px_o sm 7 (fsm.set 1 (.int 0))]) [1, 2, 3, 4, 0] (by decide +kernel) rfl
  exact W.zret (v := 0) hx hb hr (by decide) (fun t ht hW => ⟨⟨_, (), rfl, rfl, by rw [ht]; exact hP9, hD9⟩, hS.F ht⟩) hS.2.2 dX8_read_34

set_option maxHeartbeats 4000000 in
set_option maxRecDepth 100000 in
theorem c_X10_sentence (l : Launch) (D : va_G) (y : Nat → ClassId) (sz : Nat) (x : Nat) (fx : List Value) (tp : Nat) (g : Nat) (rd : Nat) (se : Nat) (ftp : Nat → Int32) (fg : List Value) (frd : List Value) (rt : Nat) (fse : List Value) (sm : Nat) (fsm : List Value) (hx_0 : px_g fx 0 (.ref tp)) (hx_1 : px_g fx 1 (.int 0)) (hx_2 : px_g fx 2 (.int 0)) (hx_3 : px_g fx 3 (.ref g)) (hx_6 : px_g fx 6 (.ref rd)) (hx_9 : px_g fx 9 (.ref se)) (hrd_1 : px_g frd 1 (.ref rt)) (hrd_2 : px_g frd 2 (.int 0)) (hrd_3 : px_g frd 3 (.int 0)) (hrd_4 : px_g frd 4 (.int 0)) (hrd_5 : px_g frd 5 (.int 302)) (hrd_6 : px_g frd 6 (.int 0)) (hrd_9 : px_g frd 9 (.int 0)) (hrd_10 : px_g frd 10 (.int 0)) (hse_0 : px_g fse 0 (.ref rd)) (hse_1 : px_g fse 1 (.ref sm)) (hse_2 : px_g fse 2 (.int 0)) (hsm_1 : px_g fsm 1 (.int 0)) : Met l yX10_sentence (px_w yX10_sentence cX10_sentence 2 (some .int)) ({ frames := 5, cells := 0, slots := 0, locals := 113 }) (va_Pc [.ref x] (px_P D y sz [px_o x 10 fx, px_i tp (y 0) 940 ftp, px_o g 2 fg, px_o rd 6 frd, px_o se 8 fse, px_o sm 7 fsm])) (va_Qi (fun (r : Int32) (u : Unit) => r = (-1)) (fun (u : Unit) t => True) (va_A [px_o x 10 fx, px_i tp (y 0) 940 ftp, px_o g 2 fg, px_o rd 6 frd, px_o se 8 fse, px_o sm 7 fsm] sz)) 0 0 (va_A [px_o x 10 fx, px_i tp (y 0) 940 ftp, px_o g 2 fg, px_o rd 6 frd, px_o se 8 fse, px_o sm 7 fsm] sz) := by
  refine Met.ofW (cc := cX10_sentence) (maxL := 2) (ret := (some .int)) (by decide) rfl ?_
  intro p e s m args below meth c s₁ B hml hv
  obtain ⟨rfl, hsz, hP, hK, hD0⟩ := hv
  have hx := B.exec
  have hb := B.bytes
  have hr := B.returns
  have hts := atoms_spec (ws := px_w yX10_sentence cX10_sentence 2 (some .int)) B.pre
  have hg : ∀ w ∈ gw, w.before [.ref x].toArray s = true := fun w h => hts w (List.mem_cons_of_mem _ h)
  have hown : s.vm.findClass RX10 = some m.cls := findClass_of_methodNamed B.named
  have hlocks := B.notSynchronized
  subst hsz
  have hD := hD0.self (sz := s.heap.size)
  generalize hAe : va_A [px_o x 10 fx, px_i tp (y 0) 940 ftp, px_o g 2 fg, px_o rd 6 frd, px_o se 8 fse, px_o sm 7 fsm] s.heap.size = A at hD ⊢
  have hA : ∀ q : Nat, s.heap.size ≤ q → A q := fun q h => by rw [← hAe]; exact Or.inr h
  have hS : va_S A s.heap s.heap [] := va_S.rf
  have hP : va_P D vwCl [px_o x 10 fx, px_i tp (y 0) 940 ftp, px_o g 2 fg, px_o rd 6 frd, px_o se 8 fse, px_o sm 7 fsm] s.heap := hP
  have hl := lv_entry ([.ref x]) (n := 2) (Nat.le_of_ble_eq_true rfl)
  rw [lg_entry_eq]
  generalize (lg_sl ([.ref x]) ++ List.replicate (2 - (lg_sl ([.ref x])).length) Slot.unset).toArray = ls at hl ⊢
  have hl : lv_has ls 2 [(0, .ref x)] := hl
  refine lv_aload_n hx hb dX10_sentence_0 rfl (lv_at hl 0 rfl) ?_
  refine va_get (D := D) (ci := 10) (v := .ref se) (C := RX10) (T := TX10) (N := 20) hx hb hg inGX10 hown hK hP 0 rfl rfl 9 (by decide) (hg _ q_2_112) (fun _ h9 => h9) hx_9 dX10_sentence_1 ?_
  refine lv_aload_n hx hb dX10_sentence_4 rfl (lv_at hl 0 rfl) ?_
  refine va_get (D := D) (ci := 10) (v := .ref tp) (C := RX10) (T := TX10) (N := 20) hx hb hg inGX10 hown hK hP 0 rfl rfl 0 (by decide) (hg _ q_2_103) (fun _ h9 => h9) hx_0 dX10_sentence_5 ?_
  refine lv_aload_n hx hb dX10_sentence_8 rfl (lv_at hl 0 rfl) ?_
  refine va_get (D := D) (ci := 10) (v := .int 0) (C := RX10) (T := TX10) (N := 20) hx hb hg inGX10 hown hK hP 0 rfl rfl 1 (by decide) (hg _ q_2_104) (fun _ h9 => h9) hx_1 dX10_sentence_9 ?_
  refine lv_aload_n hx hb dX10_sentence_12 rfl (lv_at hl 0 rfl) ?_
  refine va_get (D := D) (ci := 10) (v := .ref g) (C := RX10) (T := TX10) (N := 20) hx hb hg inGX10 hown hK hP 0 rfl rfl 3 (by decide) (hg _ q_2_106) (fun _ h9 => h9) hx_3 dX10_sentence_13 ?_
  have hPc_1 := hP.sub (ws' := [px_i tp (y 0) 940 ftp, px_o g 2 fg, px_o rd 6 frd, px_o se 8 fse, px_o sm 7 fsm]) [1, 2, 3, 4, 5] rfl
  have hDc_1 := hD.sub (ws' := [px_i tp (y 0) 940 ftp, px_o g 2 fg, px_o rd 6 frd, px_o se 8 fse, px_o sm 7 fsm]) [1, 2, 3, 4, 5] (by decide +kernel) rfl
  have hFc_1 := va_free (wc := [px_i tp (y 0) 940 ftp, px_o g 2 fg, px_o rd 6 frd, px_o se 8 fse, px_o sm 7 fsm]) hD hS hA [1, 2, 3, 4, 5] rfl
  refine va_calli (va_runV (As := [.ref tp, .int 0, .ref g]) (rest := []) ⟨hx, hb, hml, hown, hg⟩ (c_X8_read l D y s.heap.size se tp g ftp fg rd frd rt fse sm fsm hrd_1 hrd_2 hrd_3 hrd_4 hrd_5 hrd_6 hrd_9 hrd_10 hse_0 hse_1 hse_2 hsm_1) (cwV 3 hg (px_gV q_5_142 q_5_143 q_5_144 q_1_13 q_5_145) rfl rfl rfl (by decide +kernel) ⟨Nat.le_of_ble_eq_true rfl, Nat.le_of_ble_eq_true rfl⟩) (px_preV hK hPc_1 hDc_1 (ci := 8) (q0 := 3) rfl rfl) rfl rfl hl.1 rfl (lv_room (Nat.le_of_ble_eq_true rfl)) dX10_sentence_16 ⟨Nat.le_of_ble_eq_true rfl, Nat.le_of_ble_eq_true rfl⟩) hS (fun q _ h => hFc_1 q h) hFc_1 (fun r_1 u_1 t_1 H_1 locs_1 ht_1 hvm_1 hw_1 hB_1 hz_1 hk_1 hS_1 => ?_)
  refine W.cs (cells' := 0) (slots' := 0) rfl rfl ?_
  obtain ⟨hP1_1, hD1_1⟩ := hB_1
  rw [ht_1] at hP1_1
  obtain ⟨hP_1, hD_1⟩ := va_join (wr := [px_o x 10 fx]) (w1 := [px_i tp (y 0) 940 ftp, px_o g 2 fg, px_o rd 6 ((((((((((frd.set 1 (.ref tp)).set 2 (.int 0)).set 3 (.int 200)).set 4 (.int 0)).set 9 (.int 0)).set 10 (.int 0)).set 6 (.int 0)).set 5 (.int 302)).set 9 (.int 1)).set 10 (.int 0)), px_o se 8 (fse.set 2 (.int 0)), px_o sm 7 (fsm.set 1 (.int 0))]) hP hD [1, 2, 3, 4, 5] [0] rfl rfl (by decide +kernel) (by decide +kernel) hk_1 hFc_1 hP1_1 hD1_1
  clear hP hD hS hPc_1 hDc_1 hFc_1 hz_1 hk_1 hvm_1 ht_1 hP1_1 hD1_1
  have hP : va_P D vwCl [px_o x 10 fx, px_i tp (y 0) 940 ftp, px_o g 2 fg, px_o rd 6 ((((((((((frd.set 1 (.ref tp)).set 2 (.int 0)).set 3 (.int 200)).set 4 (.int 0)).set 9 (.int 0)).set 10 (.int 0)).set 6 (.int 0)).set 5 (.int 302)).set 9 (.int 1)).set 10 (.int 0)), px_o se 8 (fse.set 2 (.int 0)), px_o sm 7 (fsm.set 1 (.int 0))] H_1 := hP_1
  have hD : va_D A [px_o x 10 fx, px_i tp (y 0) 940 ftp, px_o g 2 fg, px_o rd 6 ((((((((((frd.set 1 (.ref tp)).set 2 (.int 0)).set 3 (.int 200)).set 4 (.int 0)).set 9 (.int 0)).set 10 (.int 0)).set 6 (.int 0)).set 5 (.int 302)).set 9 (.int 1)).set 10 (.int 0)), px_o se 8 (fse.set 2 (.int 0)), px_o sm 7 (fsm.set 1 (.int 0))] := hD_1
  have hS := hS_1
  clear hP_1 hD_1 hS_1
  obtain rfl : r_1 = 0 := hw_1
  refine lv_istore_n (lv' := [(1, .int 0), (0, .ref x)]) hx hb dX10_sentence_19 rfl hl (by decide) rfl (fun ls hl => ?_)
  refine lv_aload_n hx hb dX10_sentence_20 rfl (lv_at hl 1 rfl) ?_
  refine lv_iconst (v := 0) hx hb dX10_sentence_21 (by decide) ?_
  refine va_put (D := D) (ci := 10) (v := .int 0) (ty := .int) (C := RX10) (T := TX10) (N := 20) hx hb hg inGX10 tyX10 tyX10_ok nmX10 hown hK hP hD hS 0 rfl rfl 1 (by decide) (hg _ q_2_104) (fun _ h9 => h9) rfl (by decide +kernel) rfl rfl (px_len hx_1) dX10_sentence_22 (fun H_2 locs_2 hP_2 hD_2 hS_2 => ?_)
  clear hP hD hS
  have hP : va_P D vwCl [px_o x 10 (fx.set 1 (.int 0)), px_i tp (y 0) 940 ftp, px_o g 2 fg, px_o rd 6 ((((((((((frd.set 1 (.ref tp)).set 2 (.int 0)).set 3 (.int 200)).set 4 (.int 0)).set 9 (.int 0)).set 10 (.int 0)).set 6 (.int 0)).set 5 (.int 302)).set 9 (.int 1)).set 10 (.int 0)), px_o se 8 (fse.set 2 (.int 0)), px_o sm 7 (fsm.set 1 (.int 0))] H_2 := hP_2
  have hD : va_D A [px_o x 10 (fx.set 1 (.int 0)), px_i tp (y 0) 940 ftp, px_o g 2 fg, px_o rd 6 ((((((((((frd.set 1 (.ref tp)).set 2 (.int 0)).set 3 (.int 200)).set 4 (.int 0)).set 9 (.int 0)).set 10 (.int 0)).set 6 (.int 0)).set 5 (.int 302)).set 9 (.int 1)).set 10 (.int 0)), px_o se 8 (fse.set 2 (.int 0)), px_o sm 7 (fsm.set 1 (.int 0))] := hD_2
  have hS := hS_2
  clear hP_2 hD_2 hS_2
  refine lv_aload_n hx hb dX10_sentence_25 rfl (lv_at hl 1 rfl) ?_
  refine lv_aload_n hx hb dX10_sentence_26 rfl (lv_at hl 1 rfl) ?_
  refine va_get (D := D) (ci := 10) (v := .ref rd) (C := RX10) (T := TX10) (N := 20) hx hb hg inGX10 hown hK hP 0 rfl rfl 6 (by decide) (hg _ q_2_109) (fun _ h9 => h9) (px_sn (by decide) hx_6) dX10_sentence_27 ?_
  refine va_get (D := D) (ci := 6) (v := .int 1) (C := RX6) (T := TX6) (N := 11) hx hb hg inGX6 hown hK hP 3 rfl rfl 9 (by decide) (hg _ q_1_239) (fun _ h9 => h9) (px_sn (by decide) (px_ss (px_sn (by decide) (px_sn (by decide) (px_sn (by decide) (px_ss (px_sn (by decide) (px_sn (by decide) (px_sn (by decide) (px_sn (by decide) hrd_9)))))))))) dX10_sentence_30 ?_
  refine va_put (D := D) (ci := 10) (v := .int 1) (ty := .int) (C := RX10) (T := TX10) (N := 20) hx hb hg inGX10 tyX10 tyX10_ok nmX10 hown hK hP hD hS 0 rfl rfl 2 (by decide) (hg _ q_2_105) (fun _ h9 => h9) rfl (by decide +kernel) rfl rfl (px_len (px_sn (by decide) hx_2)) dX10_sentence_33 (fun H_3 locs_3 hP_3 hD_3 hS_3 => ?_)
  clear hP hD hS
  have hP : va_P D vwCl [px_o x 10 ((fx.set 1 (.int 0)).set 2 (.int 1)), px_i tp (y 0) 940 ftp, px_o g 2 fg, px_o rd 6 ((((((((((frd.set 1 (.ref tp)).set 2 (.int 0)).set 3 (.int 200)).set 4 (.int 0)).set 9 (.int 0)).set 10 (.int 0)).set 6 (.int 0)).set 5 (.int 302)).set 9 (.int 1)).set 10 (.int 0)), px_o se 8 (fse.set 2 (.int 0)), px_o sm 7 (fsm.set 1 (.int 0))] H_3 := hP_3
  have hD : va_D A [px_o x 10 ((fx.set 1 (.int 0)).set 2 (.int 1)), px_i tp (y 0) 940 ftp, px_o g 2 fg, px_o rd 6 ((((((((((frd.set 1 (.ref tp)).set 2 (.int 0)).set 3 (.int 200)).set 4 (.int 0)).set 9 (.int 0)).set 10 (.int 0)).set 6 (.int 0)).set 5 (.int 302)).set 9 (.int 1)).set 10 (.int 0)), px_o se 8 (fse.set 2 (.int 0)), px_o sm 7 (fsm.set 1 (.int 0))] := hD_3
  have hS := hS_3
  clear hP_3 hD_3 hS_3
  refine lv_iload_n hx hb dX10_sentence_36 rfl (lv_at hl 0 rfl) ?_
  refine lv_if_ne (tgt := 50) hx hb dX10_sentence_37 (by decide) (fun c_4 => absurd c_4 (by decide)) (fun _ => ?_)
  refine lv_iconst (v := (-1)) hx hb dX10_sentence_40 (by decide) ?_
  refine lv_aload_n hx hb dX10_sentence_41 rfl (lv_at hl 1 rfl) ?_
  refine va_get (D := D) (ci := 10) (v := .ref rd) (C := RX10) (T := TX10) (N := 20) hx hb hg inGX10 hown hK hP 0 rfl rfl 6 (by decide) (hg _ q_2_109) (fun _ h9 => h9) (px_sn (by decide) (px_sn (by decide) hx_6)) dX10_sentence_42 ?_
  refine va_get (D := D) (ci := 6) (v := .int 0) (C := RX6) (T := TX6) (N := 11) hx hb hg inGX6 hown hK hP 3 rfl rfl 10 (by decide) (hg _ q_2_1) (fun _ h9 => h9) (px_ss (px_sn (by decide) (px_sn (by decide) (px_sn (by decide) (px_ss (px_sn (by decide) (px_sn (by decide) (px_sn (by decide) (px_sn (by decide) (px_sn (by decide) hrd_10)))))))))) dX10_sentence_45 ?_
  refine lv_isub hx hb dX10_sentence_48 ?_
  refine px_top (v := (-1)) (by decide) ?_
  exact W.iret (v := (-1)) hx hb hr (fun t ht hW => ⟨⟨_, (), rfl, rfl, trivial⟩, hS.F ht⟩) hS.2.2 dX10_sentence_49
