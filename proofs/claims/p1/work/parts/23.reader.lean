set_option maxHeartbeats 4000000 in
set_option maxRecDepth 100000 in
theorem c_X6_init (l : Launch) (D : va_G) (y : Nat → ClassId) (sz : Nat) (ad : Nat → Nat) (bb : Nat → Int32) (rd : Nat) (frd : List Value) (hrd_0 : px_g frd 0 (.null)) (hrd_1 : px_g frd 1 (.null)) (hrd_2 : px_g frd 2 (.int 0)) (hrd_3 : px_g frd 3 (.int 0)) (hrd_4 : px_g frd 4 (.int 0)) (hrd_5 : px_g frd 5 (.int 0)) (hrd_6 : px_g frd 6 (.int 0)) (hrd_7 : px_g frd 7 (.int 0)) (hrd_8 : px_g frd 8 (.long 0)) (hrd_9 : px_g frd 9 (.int 0)) (hrd_10 : px_g frd 10 (.int 0)) : Met l yX6_init (px_w yX6_init cX6_init 6 none) ({ frames := 4, cells := 2, slots := 19, locals := 85 }) (va_Pc [.ref rd] (fun U => px_P D y sz [px_o rd 6 frd] U ∧ px_Y ad bb (va_A [px_o rd 6 frd] sz) U U.heap)) (va_Qv (fun (u : px_U) => True) (fun (u : px_U) t => va_P D vwCl [px_o rd 6 (((((((((((frd.set 0 (.ref (u.1 0))).set 1 (.ref (u.1 1))).set 2 (.int 0)).set 3 (.int 0)).set 4 (.int 0)).set 5 (.int 302)).set 6 (.int 0)).set 7 (.int 0)).set 8 (.long 0)).set 9 (.int 0)).set 10 (.int 0)), px_l (u.1 0) (y 2) 19 (u.2.2 0), px_i (u.1 1) (y 0) 0 (fun _ => 0)] t.heap ∧ va_D (va_A [px_o rd 6 frd] sz) [px_o rd 6 (((((((((((frd.set 0 (.ref (u.1 0))).set 1 (.ref (u.1 1))).set 2 (.int 0)).set 3 (.int 0)).set 4 (.int 0)).set 5 (.int 302)).set 6 (.int 0)).set 7 (.int 0)).set 8 (.long 0)).set 9 (.int 0)).set 10 (.int 0)), px_l (u.1 0) (y 2) 19 (u.2.2 0), px_i (u.1 1) (y 0) 0 (fun _ => 0)]) (va_A [px_o rd 6 frd] sz)) 2 19 (va_A [px_o rd 6 frd] sz) := by
  refine Met.ofW (cc := cX6_init) (maxL := 6) (ret := none) (by decide) rfl ?_
  intro p e s m args below meth c s₁ B hml hv
  obtain ⟨rfl, ⟨hsz, hP, hK, hD0⟩, hYY⟩ := hv
  have hXX := hYY.x
  have haoG := hXX.1
  have haoS := hXX.2.1
  have hx := B.exec
  have hb := B.bytes
  have hr := B.returns
  have hts := atoms_spec (ws := px_w yX6_init cX6_init 6 none) B.pre
  have hg : ∀ w ∈ gw, w.before [.ref rd].toArray s = true := fun w h => hts w (List.mem_cons_of_mem _ h)
  have hown : s.vm.findClass RX6 = some m.cls := findClass_of_methodNamed B.named
  have hlocks := B.notSynchronized
  have hin : meth.name = "<init>" := (name_of_methodNamed B.named B.method).1
  subst hsz
  have hD := hD0.self (sz := s.heap.size)
  generalize hAe : va_A [px_o rd 6 frd] s.heap.size = A at hD hYY ⊢
  have hA : ∀ q : Nat, s.heap.size ≤ q → A q := fun q h => by rw [← hAe]; exact Or.inr h
  have hS : va_S A s.heap s.heap [] := va_S.rf
  have hP : va_P D vwCl [px_o rd 6 frd] s.heap := hP
  have hl := lv_entry ([.ref rd]) (n := 6) (Nat.le_of_ble_eq_true rfl)
  rw [lg_entry_eq]
  generalize (lg_sl ([.ref rd]) ++ List.replicate (6 - (lg_sl ([.ref rd])).length) Slot.unset).toArray = ls at hl ⊢
  have hl : lv_has ls 6 [(0, .ref rd)] := hl
  refine lv_aload_n hx hb dX6_init_0 rfl (lv_at hl 0 rfl) ?_
  refine W.objInit hx hb hown (hg _ q_1_170) (hg _ q_1_30) (hg _ q_1_31) rfl (by rw [hml]; exact hl.1) rfl dX6_init_1 (Nat.le_of_ble_eq_true rfl) (Nat.le_of_ble_eq_true rfl) ?_
  refine W.eq (g2 := F0 m 4 ls []) rfl ?_
  refine lv_aload_n hx hb dX6_init_4 rfl (lv_at hl 0 rfl) ?_
  refine lv_bipush (v := 19) hx hb dX6_init_5 (by decide) ?_
  refine px_newa (atype := .long) (ty := .long) hx hb (hg _ q_1_59) rfl hK hP hD hS hA 2 rfl (N' := 19) (a0 := (19, .inr (.inl (fun _ => 0)))) (px_along _) (by decide) (by decide) (by decide) (Nat.le_of_ble_eq_true rfl) (Nat.le_of_ble_eq_true rfl) dX6_init_7 (fun q1 H_2 hP_2 hD_2 hS_2 => ?_)
  clear hP hD hS
  have hP : va_P D vwCl [px_o rd 6 frd, px_l q1 (y 2) 19 (fun _ => 0)] H_2 := hP_2
  have hD : va_D A [px_o rd 6 frd, px_l q1 (y 2) 19 (fun _ => 0)] := hD_2
  have hS := hS_2
  clear hP_2 hD_2 hS_2
  refine W.cs (cells' := 1) (slots' := 19) rfl rfl ?_
  refine va_putF (D := D) (ci := 6) (v := .ref q1) (ty := (.array .long)) (C := RX6) (T := TX6) (N := 11) hx hb hg inGX6 tyX6 tyX6_ok nmX6 hown hK hP hD hS 0 rfl rfl 0 (by decide) (hg _ q_1_221) (fun _ h9 => h9) rfl hin rfl (by decide +kernel) rfl rfl (px_len hrd_0) dX6_init_9 (fun H_3 locs_3 hP_3 hD_3 hS_3 => ?_)
  clear hP hD hS
  have hP : va_P D vwCl [px_o rd 6 (frd.set 0 (.ref q1)), px_l q1 (y 2) 19 (fun _ => 0)] H_3 := hP_3
  have hD : va_D A [px_o rd 6 (frd.set 0 (.ref q1)), px_l q1 (y 2) 19 (fun _ => 0)] := hD_3
  have hS := hS_3
  clear hP_3 hD_3 hS_3
  refine lv_aload_n hx hb dX6_init_12 rfl (lv_at hl 0 rfl) ?_
  refine lv_iconst (v := 0) hx hb dX6_init_13 (by decide) ?_
  refine px_newa (atype := .byte) (ty := .byte) hx hb (hg _ q_1_58) rfl hK hP hD hS hA 0 rfl (N' := 0) (a0 := (0, .inl (fun _ => 0))) (px_abyte _) (by decide) (by decide) (by decide) (Nat.le_of_ble_eq_true rfl) (Nat.le_of_ble_eq_true rfl) dX6_init_14 (fun q4 H_5 hP_5 hD_5 hS_5 => ?_)
  clear hP hD hS
  have hP : va_P D vwCl [px_o rd 6 (frd.set 0 (.ref q1)), px_l q1 (y 2) 19 (fun _ => 0), px_i q4 (y 0) 0 (fun _ => 0)] H_5 := hP_5
  have hD : va_D A [px_o rd 6 (frd.set 0 (.ref q1)), px_l q1 (y 2) 19 (fun _ => 0), px_i q4 (y 0) 0 (fun _ => 0)] := hD_5
  have hS := hS_5
  clear hP_5 hD_5 hS_5
  refine W.cs (cells' := 2) (slots' := 19) rfl rfl ?_
  refine va_put (D := D) (ci := 6) (v := .ref q4) (ty := (.array .byte)) (C := RX6) (T := TX6) (N := 11) hx hb hg inGX6 tyX6 tyX6_ok nmX6 hown hK hP hD hS 0 rfl rfl 1 (by decide) (hg _ q_1_222) (fun _ h9 => h9) rfl (by decide +kernel) rfl rfl (px_len (px_sn (by decide) hrd_1)) dX6_init_16 (fun H_6 locs_6 hP_6 hD_6 hS_6 => ?_)
  clear hP hD hS
  have hP : va_P D vwCl [px_o rd 6 ((frd.set 0 (.ref q1)).set 1 (.ref q4)), px_l q1 (y 2) 19 (fun _ => 0), px_i q4 (y 0) 0 (fun _ => 0)] H_6 := hP_6
  have hD : va_D A [px_o rd 6 ((frd.set 0 (.ref q1)).set 1 (.ref q4)), px_l q1 (y 2) 19 (fun _ => 0), px_i q4 (y 0) 0 (fun _ => 0)] := hD_6
  have hS := hS_6
  clear hP_6 hD_6 hS_6
  refine lv_aload_n hx hb dX6_init_19 rfl (lv_at hl 0 rfl) ?_
  refine lv_iconst (v := 0) hx hb dX6_init_20 (by decide) ?_
  refine va_put (D := D) (ci := 6) (v := .int 0) (ty := .int) (C := RX6) (T := TX6) (N := 11) hx hb hg inGX6 tyX6 tyX6_ok nmX6 hown hK hP hD hS 0 rfl rfl 2 (by decide) (hg _ q_1_223) (fun _ h9 => h9) rfl (by decide +kernel) rfl rfl (px_len (px_sn (by decide) (px_sn (by decide) hrd_2))) dX6_init_21 (fun H_7 locs_7 hP_7 hD_7 hS_7 => ?_)
  clear hP hD hS
  have hP : va_P D vwCl [px_o rd 6 (((frd.set 0 (.ref q1)).set 1 (.ref q4)).set 2 (.int 0)), px_l q1 (y 2) 19 (fun _ => 0), px_i q4 (y 0) 0 (fun _ => 0)] H_7 := hP_7
  have hD : va_D A [px_o rd 6 (((frd.set 0 (.ref q1)).set 1 (.ref q4)).set 2 (.int 0)), px_l q1 (y 2) 19 (fun _ => 0), px_i q4 (y 0) 0 (fun _ => 0)] := hD_7
  have hS := hS_7
  clear hP_7 hD_7 hS_7
  refine lv_aload_n hx hb dX6_init_24 rfl (lv_at hl 0 rfl) ?_
  refine lv_iconst (v := 0) hx hb dX6_init_25 (by decide) ?_
  refine va_put (D := D) (ci := 6) (v := .int 0) (ty := .int) (C := RX6) (T := TX6) (N := 11) hx hb hg inGX6 tyX6 tyX6_ok nmX6 hown hK hP hD hS 0 rfl rfl 3 (by decide) (hg _ q_1_224) (fun _ h9 => h9) rfl (by decide +kernel) rfl rfl (px_len (px_sn (by decide) (px_sn (by decide) (px_sn (by decide) hrd_3)))) dX6_init_26 (fun H_8 locs_8 hP_8 hD_8 hS_8 => ?_)
  clear hP hD hS
  have hP : va_P D vwCl [px_o rd 6 ((((frd.set 0 (.ref q1)).set 1 (.ref q4)).set 2 (.int 0)).set 3 (.int 0)), px_l q1 (y 2) 19 (fun _ => 0), px_i q4 (y 0) 0 (fun _ => 0)] H_8 := hP_8
  have hD : va_D A [px_o rd 6 ((((frd.set 0 (.ref q1)).set 1 (.ref q4)).set 2 (.int 0)).set 3 (.int 0)), px_l q1 (y 2) 19 (fun _ => 0), px_i q4 (y 0) 0 (fun _ => 0)] := hD_8
  have hS := hS_8
  clear hP_8 hD_8 hS_8
  refine lv_aload_n hx hb dX6_init_29 rfl (lv_at hl 0 rfl) ?_
  refine lv_iconst (v := 0) hx hb dX6_init_30 (by decide) ?_
  refine va_put (D := D) (ci := 6) (v := .int 0) (ty := .int) (C := RX6) (T := TX6) (N := 11) hx hb hg inGX6 tyX6 tyX6_ok nmX6 hown hK hP hD hS 0 rfl rfl 4 (by decide) (hg _ q_1_225) (fun _ h9 => h9) rfl (by decide +kernel) rfl rfl (px_len (px_sn (by decide) (px_sn (by decide) (px_sn (by decide) (px_sn (by decide) hrd_4))))) dX6_init_31 (fun H_9 locs_9 hP_9 hD_9 hS_9 => ?_)
  clear hP hD hS
  have hP : va_P D vwCl [px_o rd 6 (((((frd.set 0 (.ref q1)).set 1 (.ref q4)).set 2 (.int 0)).set 3 (.int 0)).set 4 (.int 0)), px_l q1 (y 2) 19 (fun _ => 0), px_i q4 (y 0) 0 (fun _ => 0)] H_9 := hP_9
  have hD : va_D A [px_o rd 6 (((((frd.set 0 (.ref q1)).set 1 (.ref q4)).set 2 (.int 0)).set 3 (.int 0)).set 4 (.int 0)), px_l q1 (y 2) 19 (fun _ => 0), px_i q4 (y 0) 0 (fun _ => 0)] := hD_9
  have hS := hS_9
  clear hP_9 hD_9 hS_9
  refine lv_aload_n hx hb dX6_init_34 rfl (lv_at hl 0 rfl) ?_
  refine lv_sipush (v := 302) hx hb dX6_init_35 (by decide) ?_
  refine va_put (D := D) (ci := 6) (v := .int 302) (ty := .int) (C := RX6) (T := TX6) (N := 11) hx hb hg inGX6 tyX6 tyX6_ok nmX6 hown hK hP hD hS 0 rfl rfl 5 (by decide) (hg _ q_1_226) (fun _ h9 => h9) rfl (by decide +kernel) rfl rfl (px_len (px_sn (by decide) (px_sn (by decide) (px_sn (by decide) (px_sn (by decide) (px_sn (by decide) hrd_5)))))) dX6_init_38 (fun H_10 locs_10 hP_10 hD_10 hS_10 => ?_)
  clear hP hD hS
  have hP : va_P D vwCl [px_o rd 6 ((((((frd.set 0 (.ref q1)).set 1 (.ref q4)).set 2 (.int 0)).set 3 (.int 0)).set 4 (.int 0)).set 5 (.int 302)), px_l q1 (y 2) 19 (fun _ => 0), px_i q4 (y 0) 0 (fun _ => 0)] H_10 := hP_10
  have hD : va_D A [px_o rd 6 ((((((frd.set 0 (.ref q1)).set 1 (.ref q4)).set 2 (.int 0)).set 3 (.int 0)).set 4 (.int 0)).set 5 (.int 302)), px_l q1 (y 2) 19 (fun _ => 0), px_i q4 (y 0) 0 (fun _ => 0)] := hD_10
  have hS := hS_10
  clear hP_10 hD_10 hS_10
  refine lv_aload_n hx hb dX6_init_41 rfl (lv_at hl 0 rfl) ?_
  refine lv_iconst (v := 0) hx hb dX6_init_42 (by decide) ?_
  refine va_put (D := D) (ci := 6) (v := .int 0) (ty := .int) (C := RX6) (T := TX6) (N := 11) hx hb hg inGX6 tyX6 tyX6_ok nmX6 hown hK hP hD hS 0 rfl rfl 6 (by decide) (hg _ q_1_229) (fun _ h9 => h9) rfl (by decide +kernel) rfl rfl (px_len (px_sn (by decide) (px_sn (by decide) (px_sn (by decide) (px_sn (by decide) (px_sn (by decide) (px_sn (by decide) hrd_6))))))) dX6_init_43 (fun H_11 locs_11 hP_11 hD_11 hS_11 => ?_)
  clear hP hD hS
  have hP : va_P D vwCl [px_o rd 6 (((((((frd.set 0 (.ref q1)).set 1 (.ref q4)).set 2 (.int 0)).set 3 (.int 0)).set 4 (.int 0)).set 5 (.int 302)).set 6 (.int 0)), px_l q1 (y 2) 19 (fun _ => 0), px_i q4 (y 0) 0 (fun _ => 0)] H_11 := hP_11
  have hD : va_D A [px_o rd 6 (((((((frd.set 0 (.ref q1)).set 1 (.ref q4)).set 2 (.int 0)).set 3 (.int 0)).set 4 (.int 0)).set 5 (.int 302)).set 6 (.int 0)), px_l q1 (y 2) 19 (fun _ => 0), px_i q4 (y 0) 0 (fun _ => 0)] := hD_11
  have hS := hS_11
  clear hP_11 hD_11 hS_11
  refine lv_aload_n hx hb dX6_init_46 rfl (lv_at hl 0 rfl) ?_
  refine lv_iconst (v := 0) hx hb dX6_init_47 (by decide) ?_
  refine va_put (D := D) (ci := 6) (v := .int 0) (ty := .int) (C := RX6) (T := TX6) (N := 11) hx hb hg inGX6 tyX6 tyX6_ok nmX6 hown hK hP hD hS 0 rfl rfl 7 (by decide) (hg _ q_1_230) (fun _ h9 => h9) rfl (by decide +kernel) rfl rfl (px_len (px_sn (by decide) (px_sn (by decide) (px_sn (by decide) (px_sn (by decide) (px_sn (by decide) (px_sn (by decide) (px_sn (by decide) hrd_7)))))))) dX6_init_48 (fun H_12 locs_12 hP_12 hD_12 hS_12 => ?_)
  clear hP hD hS
  have hP : va_P D vwCl [px_o rd 6 ((((((((frd.set 0 (.ref q1)).set 1 (.ref q4)).set 2 (.int 0)).set 3 (.int 0)).set 4 (.int 0)).set 5 (.int 302)).set 6 (.int 0)).set 7 (.int 0)), px_l q1 (y 2) 19 (fun _ => 0), px_i q4 (y 0) 0 (fun _ => 0)] H_12 := hP_12
  have hD : va_D A [px_o rd 6 ((((((((frd.set 0 (.ref q1)).set 1 (.ref q4)).set 2 (.int 0)).set 3 (.int 0)).set 4 (.int 0)).set 5 (.int 302)).set 6 (.int 0)).set 7 (.int 0)), px_l q1 (y 2) 19 (fun _ => 0), px_i q4 (y 0) 0 (fun _ => 0)] := hD_12
  have hS := hS_12
  clear hP_12 hD_12 hS_12
  refine lv_aload_n hx hb dX6_init_51 rfl (lv_at hl 0 rfl) ?_
  refine lv_lconst (v := 0) hx hb dX6_init_52 (by decide) ?_
  refine va_put (D := D) (ci := 6) (v := .long 0) (ty := .long) (C := RX6) (T := TX6) (N := 11) hx hb hg inGX6 tyX6 tyX6_ok nmX6 hown hK hP hD hS 0 rfl rfl 8 (by decide) (hg _ q_1_234) (fun _ h9 => h9) rfl (by decide +kernel) rfl rfl (px_len (px_sn (by decide) (px_sn (by decide) (px_sn (by decide) (px_sn (by decide) (px_sn (by decide) (px_sn (by decide) (px_sn (by decide) (px_sn (by decide) hrd_8))))))))) dX6_init_53 (fun H_13 locs_13 hP_13 hD_13 hS_13 => ?_)
  clear hP hD hS
  have hP : va_P D vwCl [px_o rd 6 (((((((((frd.set 0 (.ref q1)).set 1 (.ref q4)).set 2 (.int 0)).set 3 (.int 0)).set 4 (.int 0)).set 5 (.int 302)).set 6 (.int 0)).set 7 (.int 0)).set 8 (.long 0)), px_l q1 (y 2) 19 (fun _ => 0), px_i q4 (y 0) 0 (fun _ => 0)] H_13 := hP_13
  have hD : va_D A [px_o rd 6 (((((((((frd.set 0 (.ref q1)).set 1 (.ref q4)).set 2 (.int 0)).set 3 (.int 0)).set 4 (.int 0)).set 5 (.int 302)).set 6 (.int 0)).set 7 (.int 0)).set 8 (.long 0)), px_l q1 (y 2) 19 (fun _ => 0), px_i q4 (y 0) 0 (fun _ => 0)] := hD_13
  have hS := hS_13
  clear hP_13 hD_13 hS_13
  refine lv_aload_n hx hb dX6_init_56 rfl (lv_at hl 0 rfl) ?_
  refine lv_iconst (v := 0) hx hb dX6_init_57 (by decide) ?_
  refine va_put (D := D) (ci := 6) (v := .int 0) (ty := .int) (C := RX6) (T := TX6) (N := 11) hx hb hg inGX6 tyX6 tyX6_ok nmX6 hown hK hP hD hS 0 rfl rfl 9 (by decide) (hg _ q_1_238) (fun _ h9 => h9) rfl (by decide +kernel) rfl rfl (px_len (px_sn (by decide) (px_sn (by decide) (px_sn (by decide) (px_sn (by decide) (px_sn (by decide) (px_sn (by decide) (px_sn (by decide) (px_sn (by decide) (px_sn (by decide) hrd_9)))))))))) dX6_init_58 (fun H_14 locs_14 hP_14 hD_14 hS_14 => ?_)
  clear hP hD hS
  have hP : va_P D vwCl [px_o rd 6 ((((((((((frd.set 0 (.ref q1)).set 1 (.ref q4)).set 2 (.int 0)).set 3 (.int 0)).set 4 (.int 0)).set 5 (.int 302)).set 6 (.int 0)).set 7 (.int 0)).set 8 (.long 0)).set 9 (.int 0)), px_l q1 (y 2) 19 (fun _ => 0), px_i q4 (y 0) 0 (fun _ => 0)] H_14 := hP_14
  have hD : va_D A [px_o rd 6 ((((((((((frd.set 0 (.ref q1)).set 1 (.ref q4)).set 2 (.int 0)).set 3 (.int 0)).set 4 (.int 0)).set 5 (.int 302)).set 6 (.int 0)).set 7 (.int 0)).set 8 (.long 0)).set 9 (.int 0)), px_l q1 (y 2) 19 (fun _ => 0), px_i q4 (y 0) 0 (fun _ => 0)] := hD_14
  have hS := hS_14
  clear hP_14 hD_14 hS_14
  refine lv_aload_n hx hb dX6_init_61 rfl (lv_at hl 0 rfl) ?_
  refine lv_iconst (v := 0) hx hb dX6_init_62 (by decide) ?_
  refine va_put (D := D) (ci := 6) (v := .int 0) (ty := .int) (C := RX6) (T := TX6) (N := 11) hx hb hg inGX6 tyX6 tyX6_ok nmX6 hown hK hP hD hS 0 rfl rfl 10 (by decide) (hg _ q_2_0) (fun _ h9 => h9) rfl (by decide +kernel) rfl rfl (px_len (px_sn (by decide) (px_sn (by decide) (px_sn (by decide) (px_sn (by decide) (px_sn (by decide) (px_sn (by decide) (px_sn (by decide) (px_sn (by decide) (px_sn (by decide) (px_sn (by decide) hrd_10))))))))))) dX6_init_63 (fun H_15 locs_15 hP_15 hD_15 hS_15 => ?_)
  clear hP hD hS
  have hP : va_P D vwCl [px_o rd 6 (((((((((((frd.set 0 (.ref q1)).set 1 (.ref q4)).set 2 (.int 0)).set 3 (.int 0)).set 4 (.int 0)).set 5 (.int 302)).set 6 (.int 0)).set 7 (.int 0)).set 8 (.long 0)).set 9 (.int 0)).set 10 (.int 0)), px_l q1 (y 2) 19 (fun _ => 0), px_i q4 (y 0) 0 (fun _ => 0)] H_15 := hP_15
  have hD : va_D A [px_o rd 6 (((((((((((frd.set 0 (.ref q1)).set 1 (.ref q4)).set 2 (.int 0)).set 3 (.int 0)).set 4 (.int 0)).set 5 (.int 302)).set 6 (.int 0)).set 7 (.int 0)).set 8 (.long 0)).set 9 (.int 0)).set 10 (.int 0)), px_l q1 (y 2) 19 (fun _ => 0), px_i q4 (y 0) 0 (fun _ => 0)] := hD_15
  have hS := hS_15
  clear hP_15 hD_15 hS_15
  refine lv_iconst (v := 0) hx hb dX6_init_66 (by decide) ?_
  refine lv_istore_n (lv' := [(1, .int 0), (0, .ref rd)]) hx hb dX6_init_67 rfl hl (by decide) rfl (fun ls hl => ?_)
  refine lv_lconst (v := 0) hx hb dX6_init_68 (by decide) ?_
  refine lv_lstore_n (lv' := [(2, .long 0), (1, .int 0), (0, .ref rd)]) hx hb dX6_init_69 rfl hl (by decide) rfl (fun ls hl => ?_)
  refine lv_iconst (v := 0) hx hb dX6_init_70 (by decide) ?_
  refine lv_istore (lv' := [(4, .int 0), (2, .long 0), (1, .int 0), (0, .ref rd)]) hx hb dX6_init_71 hl (by decide) rfl (fun ls hl => ?_)
  refine px_loop1 (α := (Nat → Int64) × Nat × Int64) (nL := 6) 101 (ws := fun i_16 F_16 => [px_o rd 6 (((((((((((frd.set 0 (.ref q1)).set 1 (.ref q4)).set 2 (.int 0)).set 3 (.int 0)).set 4 (.int 0)).set 5 (.int 302)).set 6 (.int 0)).set 7 (.int 0)).set 8 (.long 0)).set 9 (.int 0)).set 10 (.int 0)), px_l q1 (y 2) 19 F_16.1, px_i q4 (y 0) 0 (fun _ => 0)]) (lv := fun i_16 F_16 => [(4, .int (nI i_16)), (2, .long F_16.2.2), (1, .int (nI F_16.2.1)), (0, .ref rd)]) (inv := fun i_16 F_16 => F_16.2.1 ≤ 19) ?_ ?_ 0 (by decide) ((fun _ => 0), 0, 0) (Nat.zero_le _) hP hD hS (lv_sub hl [0, 1, 2, 3] rfl)
  · clear hP hD hS
    intro i_16 F_16 hi_16 hv_16 ih_16 H_16 locs_16 ls hP hD hS hl
    have hv_16 : F_16.2.1 ≤ 19 := hv_16
    have hP : va_P D vwCl [px_o rd 6 (((((((((((frd.set 0 (.ref q1)).set 1 (.ref q4)).set 2 (.int 0)).set 3 (.int 0)).set 4 (.int 0)).set 5 (.int 302)).set 6 (.int 0)).set 7 (.int 0)).set 8 (.long 0)).set 9 (.int 0)).set 10 (.int 0)), px_l q1 (y 2) 19 F_16.1, px_i q4 (y 0) 0 (fun _ => 0)] H_16 := hP
    have hD : va_D A [px_o rd 6 (((((((((((frd.set 0 (.ref q1)).set 1 (.ref q4)).set 2 (.int 0)).set 3 (.int 0)).set 4 (.int 0)).set 5 (.int 302)).set 6 (.int 0)).set 7 (.int 0)).set 8 (.long 0)).set 9 (.int 0)).set 10 (.int 0)), px_l q1 (y 2) 19 F_16.1, px_i q4 (y 0) 0 (fun _ => 0)] := hD
    have hl : lv_has ls 6 [(4, .int (nI i_16)), (2, .long F_16.2.2), (1, .int (nI F_16.2.1)), (0, .ref rd)] := hl
    refine lv_iload hx hb dX6_init_73 (lv_at hl 0 rfl) ?_
    refine va_ldcS hx hb hown hYY.r.1 dX6_init_75 ?_
    have hPc_17 := hP.sub (ws' := []) [] rfl
    have hDc_17 := hD.sub (ws' := []) [] (by decide +kernel) rfl
    have hFc_17 := va_free (wc := []) hD hS hA [] rfl
    refine vp_callSi (va_Run.run (va_runV (As := []) (rest := [.int (nI i_16)]) ⟨hx, hb, hml, hown, hg⟩ (c_J0_length_8abf5 l D y H_16.size ad bb  ) (cwV 0 hg (px_gV q_1_172 q_1_173 q_1_174 q_1_7 q_1_175) rfl rfl rfl (by decide +kernel) ⟨Nat.le_of_ble_eq_true rfl, Nat.le_of_ble_eq_true rfl⟩) (px_preTY hK hYY hS hFc_17) rfl rfl hl.1 rfl (lv_room (Nat.le_of_ble_eq_true rfl)) dX6_init_77 ⟨Nat.le_of_ble_eq_true rfl, Nat.le_of_ble_eq_true rfl⟩)) (fun r_17 hw_17 => ?_)
    clear hPc_17 hDc_17
    obtain rfl : r_17 = 101 := hw_17
    refine lv_icmp_ge (tgt := 141) hx hb dX6_init_80 (by decide) (fun c_18 => absurd c_18 (nI_ge (by omega) (by decide))) (fun _ => ?_)
    refine lv_iload_n hx hb dX6_init_83 rfl (lv_at hl 2 rfl) ?_
    refine lv_bipush (v := 19) hx hb dX6_init_84 (by decide) ?_
    rcases Nat.lt_or_ge F_16.2.1 19 with hn_21 | hn_21
    · refine lv_icmp_ge (tgt := 141) hx hb dX6_init_86 (by decide) (fun c_20 => absurd c_20 (nI_ge hn_21 (by decide))) (fun _ => ?_)
      refine va_ldcS hx hb hown hYY.r.1 dX6_init_89 ?_
      refine lv_iload hx hb dX6_init_91 (lv_at hl 0 rfl) ?_
      have hPc_22 := hP.sub (ws' := []) [] rfl
      have hDc_22 := hD.sub (ws' := []) [] (by decide +kernel) rfl
      have hFc_22 := va_free (wc := []) hD hS hA [] rfl
      refine vp_callSi (va_Run.run (va_runV (As := [.int (nI i_16)]) (rest := []) ⟨hx, hb, hml, hown, hg⟩ (c_J0_charAt_5068e l D y H_16.size ad bb i_16 (by omega)) (cwV 1 hg (px_gV q_1_182 q_1_183 q_1_184 q_1_7 q_1_185) rfl rfl rfl (by decide +kernel) ⟨Nat.le_of_ble_eq_true rfl, Nat.le_of_ble_eq_true rfl⟩) (px_preTY hK hYY hS hFc_22) rfl rfl hl.1 rfl (lv_room (Nat.le_of_ble_eq_true rfl)) dX6_init_93 ⟨Nat.le_of_ble_eq_true rfl, Nat.le_of_ble_eq_true rfl⟩)) (fun r_22 hw_22 => ?_)
      clear hPc_22 hDc_22
      refine lv_istore (lv' := [(5, .int r_22), (4, .int (nI i_16)), (2, .long F_16.2.2), (1, .int (nI F_16.2.1)), (0, .ref rd)]) hx hb dX6_init_96 hl (by decide) rfl (fun ls hl => ?_)
      refine lv_iload hx hb dX6_init_98 (lv_at hl 0 rfl) ?_
      refine lv_bipush (v := 32) hx hb dX6_init_100 (by decide) ?_
      refine lv_icmp_ne (tgt := 120) hx hb dX6_init_102 (by decide) (fun c_23 => ?_) (fun c_23 => ?_)
      · refine lv_lload_n hx hb dX6_init_120 rfl (lv_at hl 2 rfl) ?_
        refine lv_ldc2 (v := 32) hx hb hown (hg _ q_1_220) dX6_init_121 ?_
        refine lv_lmul hx hb dX6_init_124 ?_
        refine lv_iload hx hb dX6_init_125 (lv_at hl 0 rfl) ?_
        refine lv_bipush (v := 97) hx hb dX6_init_127 (by decide) ?_
        refine lv_isub hx hb dX6_init_129 ?_
        refine lv_iconst (v := 1) hx hb dX6_init_130 (by decide) ?_
        refine lv_iadd hx hb dX6_init_131 ?_
        refine lv_i2l (v := _) hx hb dX6_init_132 rfl ?_
        refine lv_ladd hx hb dX6_init_133 ?_
        refine lv_lstore_n (lv' := [(2, .long ((F_16.2.2 * 32) + (Int32.toInt64 ((r_22 - 97) + 1)))), (5, .int r_22), (4, .int (nI i_16)), (1, .int (nI F_16.2.1)), (0, .ref rd)]) hx hb dX6_init_134 rfl hl (by decide) rfl (fun ls hl => ?_)
        refine lv_iinc (v := nI (i_16 + 1)) (lv' := [(4, .int (nI (i_16 + 1))), (2, .long ((F_16.2.2 * 32) + (Int32.toInt64 ((r_22 - 97) + 1)))), (5, .int r_22), (1, .int (nI F_16.2.1)), (0, .ref rd)]) hx hb dX6_init_135 hl (k := 2) rfl (nI_1 i_16) (by decide) rfl (fun ls hl => ?_)
        refine lv_goto (tgt := 73) hx hb dX6_init_138 (by decide) ?_
        exact ih_16 (F_16.1, F_16.2.1, ((F_16.2.2 * 32) + (Int32.toInt64 ((r_22 - 97) + 1)))) _ _ ls (show F_16.2.1 ≤ 19 by omega) hP hD hS (lv_sub hl [0, 1, 3, 4] rfl)
      · refine lv_aload_n hx hb dX6_init_105 rfl (lv_at hl 4 rfl) ?_
        refine va_get (D := D) (ci := 6) (v := .ref q1) (C := RX6) (T := TX6) (N := 11) hx hb hg inGX6 hown hK hP 0 rfl rfl 0 (by decide) (hg _ q_1_221) (fun _ h9 => h9) (px_sn (by decide) (px_sn (by decide) (px_sn (by decide) (px_sn (by decide) (px_sn (by decide) (px_sn (by decide) (px_sn (by decide) (px_sn (by decide) (px_sn (by decide) (px_sn (by decide) (px_ss hrd_0))))))))))) dX6_init_106 ?_
        refine lv_iload_n hx hb dX6_init_109 rfl (lv_at hl 3 rfl) ?_
        refine lv_lload_n hx hb dX6_init_110 rfl (lv_at hl 2 rfl) ?_
        refine va_last hx hb hK hP hD hS 1 2 rfl rfl (i := (nI F_16.2.1)) (vp_in_nI (by omega) (by decide)) dX6_init_111 (fun H_24 locs_24 hP_24 hD_24 hS_24 => ?_)
        clear hP hD hS
        have hP : va_P D vwCl [px_o rd 6 (((((((((((frd.set 0 (.ref q1)).set 1 (.ref q4)).set 2 (.int 0)).set 3 (.int 0)).set 4 (.int 0)).set 5 (.int 302)).set 6 (.int 0)).set 7 (.int 0)).set 8 (.long 0)).set 9 (.int 0)).set 10 (.int 0)), px_l q1 (y 2) 19 (vp_updL F_16.1 (nI F_16.2.1).toNatClampNeg F_16.2.2), px_i q4 (y 0) 0 (fun _ => 0)] H_24 := hP_24
        have hD : va_D A [px_o rd 6 (((((((((((frd.set 0 (.ref q1)).set 1 (.ref q4)).set 2 (.int 0)).set 3 (.int 0)).set 4 (.int 0)).set 5 (.int 302)).set 6 (.int 0)).set 7 (.int 0)).set 8 (.long 0)).set 9 (.int 0)).set 10 (.int 0)), px_l q1 (y 2) 19 (vp_updL F_16.1 (nI F_16.2.1).toNatClampNeg F_16.2.2), px_i q4 (y 0) 0 (fun _ => 0)] := hD_24
        have hS := hS_24
        clear hP_24 hD_24 hS_24
        refine lv_iinc (v := nI (F_16.2.1 + 1)) (lv' := [(1, .int (nI (F_16.2.1 + 1))), (5, .int r_22), (4, .int (nI i_16)), (2, .long F_16.2.2), (0, .ref rd)]) hx hb dX6_init_112 hl (k := 3) rfl (nI_1 F_16.2.1) (by decide) rfl (fun ls hl => ?_)
        refine lv_lconst (v := 0) hx hb dX6_init_115 (by decide) ?_
        refine lv_lstore_n (lv' := [(2, .long 0), (1, .int (nI (F_16.2.1 + 1))), (5, .int r_22), (4, .int (nI i_16)), (0, .ref rd)]) hx hb dX6_init_116 rfl hl (by decide) rfl (fun ls hl => ?_)
        refine lv_goto (tgt := 135) hx hb dX6_init_117 (by decide) ?_
        refine lv_iinc (v := nI (i_16 + 1)) (lv' := [(4, .int (nI (i_16 + 1))), (2, .long 0), (1, .int (nI (F_16.2.1 + 1))), (5, .int r_22), (0, .ref rd)]) hx hb dX6_init_135 hl (k := 3) rfl (nI_1 i_16) (by decide) rfl (fun ls hl => ?_)
        refine lv_goto (tgt := 73) hx hb dX6_init_138 (by decide) ?_
        exact ih_16 ((vp_updL F_16.1 (nI F_16.2.1).toNatClampNeg F_16.2.2), (F_16.2.1 + 1), 0) _ _ ls (show (F_16.2.1 + 1) ≤ 19 by omega) hP hD hS (lv_sub hl [0, 1, 2, 4] rfl)
    · refine lv_icmp_ge (tgt := 141) hx hb dX6_init_86 (by decide) (fun _ => ?_) (fun c_20 => absurd (nI_le hn_21 (by omega)) c_20)
      have hP9 := hP.sub (ws' := [px_o rd 6 (((((((((((frd.set 0 (.ref q1)).set 1 (.ref q4)).set 2 (.int 0)).set 3 (.int 0)).set 4 (.int 0)).set 5 (.int 302)).set 6 (.int 0)).set 7 (.int 0)).set 8 (.long 0)).set 9 (.int 0)).set 10 (.int 0)), px_l q1 (y 2) 19 F_16.1, px_i q4 (y 0) 0 (fun _ => 0)]) [0, 1, 2] rfl
      have hD9 := hD.sub (ws' := [px_o rd 6 (((((((((((frd.set 0 (.ref q1)).set 1 (.ref q4)).set 2 (.int 0)).set 3 (.int 0)).set 4 (.int 0)).set 5 (.int 302)).set 6 (.int 0)).set 7 (.int 0)).set 8 (.long 0)).set 9 (.int 0)).set 10 (.int 0)), px_l q1 (y 2) 19 F_16.1, px_i q4 (y 0) 0 (fun _ => 0)]) [0, 1, 2] (by decide +kernel) rfl
      exact W.vret hx hb hr (fun t ht hW => ⟨⟨(px_v [q1, q4], px_vi [], px_vl [F_16.1]), rfl, trivial, by rw [ht]; exact hP9, hD9⟩, hS.F ht⟩) hS.2.2 dX6_init_141
  · clear hP hD hS
    intro F_16 hv_16 H_16 locs_16 ls hP hD hS hl
    have hv_16 : F_16.2.1 ≤ 19 := hv_16
    have hP : va_P D vwCl [px_o rd 6 (((((((((((frd.set 0 (.ref q1)).set 1 (.ref q4)).set 2 (.int 0)).set 3 (.int 0)).set 4 (.int 0)).set 5 (.int 302)).set 6 (.int 0)).set 7 (.int 0)).set 8 (.long 0)).set 9 (.int 0)).set 10 (.int 0)), px_l q1 (y 2) 19 F_16.1, px_i q4 (y 0) 0 (fun _ => 0)] H_16 := hP
    have hD : va_D A [px_o rd 6 (((((((((((frd.set 0 (.ref q1)).set 1 (.ref q4)).set 2 (.int 0)).set 3 (.int 0)).set 4 (.int 0)).set 5 (.int 302)).set 6 (.int 0)).set 7 (.int 0)).set 8 (.long 0)).set 9 (.int 0)).set 10 (.int 0)), px_l q1 (y 2) 19 F_16.1, px_i q4 (y 0) 0 (fun _ => 0)] := hD
    have hl : lv_has ls 6 [(4, .int 101), (2, .long F_16.2.2), (1, .int (nI F_16.2.1)), (0, .ref rd)] := hl
    refine lv_iload hx hb dX6_init_73 (lv_at hl 0 rfl) ?_
    refine va_ldcS hx hb hown hYY.r.1 dX6_init_75 ?_
    have hPc_25 := hP.sub (ws' := []) [] rfl
    have hDc_25 := hD.sub (ws' := []) [] (by decide +kernel) rfl
    have hFc_25 := va_free (wc := []) hD hS hA [] rfl
    refine vp_callSi (va_Run.run (va_runV (As := []) (rest := [.int 101]) ⟨hx, hb, hml, hown, hg⟩ (c_J0_length_8abf5 l D y H_16.size ad bb  ) (cwV 0 hg (px_gV q_1_172 q_1_173 q_1_174 q_1_7 q_1_175) rfl rfl rfl (by decide +kernel) ⟨Nat.le_of_ble_eq_true rfl, Nat.le_of_ble_eq_true rfl⟩) (px_preTY hK hYY hS hFc_25) rfl rfl hl.1 rfl (lv_room (Nat.le_of_ble_eq_true rfl)) dX6_init_77 ⟨Nat.le_of_ble_eq_true rfl, Nat.le_of_ble_eq_true rfl⟩)) (fun r_25 hw_25 => ?_)
    clear hPc_25 hDc_25
    obtain rfl : r_25 = 101 := hw_25
    refine lv_icmp_ge (tgt := 141) hx hb dX6_init_80 (by decide) (fun _ => ?_) (fun c_26 => absurd c_26 (by decide))
    have hP9 := hP.sub (ws' := [px_o rd 6 (((((((((((frd.set 0 (.ref q1)).set 1 (.ref q4)).set 2 (.int 0)).set 3 (.int 0)).set 4 (.int 0)).set 5 (.int 302)).set 6 (.int 0)).set 7 (.int 0)).set 8 (.long 0)).set 9 (.int 0)).set 10 (.int 0)), px_l q1 (y 2) 19 F_16.1, px_i q4 (y 0) 0 (fun _ => 0)]) [0, 1, 2] rfl
    have hD9 := hD.sub (ws' := [px_o rd 6 (((((((((((frd.set 0 (.ref q1)).set 1 (.ref q4)).set 2 (.int 0)).set 3 (.int 0)).set 4 (.int 0)).set 5 (.int 302)).set 6 (.int 0)).set 7 (.int 0)).set 8 (.long 0)).set 9 (.int 0)).set 10 (.int 0)), px_l q1 (y 2) 19 F_16.1, px_i q4 (y 0) 0 (fun _ => 0)]) [0, 1, 2] (by decide +kernel) rfl
    exact W.vret hx hb hr (fun t ht hW => ⟨⟨(px_v [q1, q4], px_vi [], px_vl [F_16.1]), rfl, trivial, by rw [ht]; exact hP9, hD9⟩, hS.F ht⟩) hS.2.2 dX6_init_141

