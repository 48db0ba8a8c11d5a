/-! The class's new Game, what its rows hold. -/
set_option maxHeartbeats 4000000 in
set_option maxRecDepth 100000 in
theorem c_X2_initF (l : Launch) (D : va_G) (y : Nat → ClassId) (sz : Nat) (g : Nat) (fg : List Value) (hg_0 : px_g fg 0 (.int 0)) (hg_1 : px_g fg 1 (.int 0)) (hg_2 : px_g fg 2 (.int 0)) (hg_3 : px_g fg 3 (.int 0)) (hg_4 : px_g fg 4 (.null)) (hg_5 : px_g fg 5 (.null)) (hg_6 : px_g fg 6 (.null)) (hg_7 : px_g fg 7 (.null)) (hg_8 : px_g fg 8 (.int 0)) (hg_9 : px_g fg 9 (.int 0)) (hg_10 : px_g fg 10 (.null)) (hg_11 : px_g fg 11 (.null)) (hg_12 : px_g fg 12 (.null)) (hg_13 : px_g fg 13 (.null)) (hg_14 : px_g fg 14 (.int 0)) (hg_15 : px_g fg 15 (.int 0)) (hg_16 : px_g fg 16 (.int 0)) (hg_17 : px_g fg 17 (.null)) : Met l yX2_init (px_w yX2_init cX2_init 1 none) ({ frames := 2, cells := 12, slots := 313, locals := 32 }) (va_Pc [.ref g] (fun U => px_P D y sz [px_o g 2 fg] U ∧ px_X U)) (va_Qv (fun (u : px_U) => (∀ j, j < 13 → u.2.1 0 j = -1) ∧ ∀ j, j < 6 → u.2.1 1 j = -1) (fun (u : px_U) t => va_P D vwCl [px_o g 2 ((((((((((((((((((fg.set 0 (.int 0)).set 1 (.int 0)).set 2 (.int 0)).set 3 (.int 0)).set 4 (.ref (u.1 0))).set 5 (.ref (u.1 1))).set 6 (.ref (u.1 2))).set 7 (.ref (u.1 3))).set 8 (.int 0)).set 9 (.int 0)).set 10 (.ref (u.1 10))).set 11 (.ref (u.1 4))).set 12 (.ref (u.1 5))).set 13 (.ref (u.1 11))).set 14 (.int (-1))).set 15 (.int 0)).set 16 (.int 0)).set 17 (.ref (u.1 6))), px_l (u.1 0) (y 2) 6 (fun _ => 0), px_i (u.1 1) (y 1) 78 (fun _ => 0), px_i (u.1 2) (y 1) 6 (fun _ => 0), px_i (u.1 3) (y 1) 52 (fun _ => 0), px_i (u.1 4) (y 1) 6 (fun _ => 0), px_i (u.1 5) (y 1) 6 (fun _ => 0), px_o (u.1 6) 3 [.ref (u.1 7), .ref (u.1 8), .int 0, .ref (u.1 9)], px_i (u.1 7) (y 1) 78 (fun _ => 0), px_i (u.1 8) (y 1) 52 (fun _ => 0), px_i (u.1 9) (y 1) 6 (fun _ => 0), px_i (u.1 10) (y 1) 13 (u.2.1 0), px_i (u.1 11) (y 1) 6 (u.2.1 1)] t.heap ∧ va_D (va_A [px_o g 2 fg] sz) [px_o g 2 ((((((((((((((((((fg.set 0 (.int 0)).set 1 (.int 0)).set 2 (.int 0)).set 3 (.int 0)).set 4 (.ref (u.1 0))).set 5 (.ref (u.1 1))).set 6 (.ref (u.1 2))).set 7 (.ref (u.1 3))).set 8 (.int 0)).set 9 (.int 0)).set 10 (.ref (u.1 10))).set 11 (.ref (u.1 4))).set 12 (.ref (u.1 5))).set 13 (.ref (u.1 11))).set 14 (.int (-1))).set 15 (.int 0)).set 16 (.int 0)).set 17 (.ref (u.1 6))), px_l (u.1 0) (y 2) 6 (fun _ => 0), px_i (u.1 1) (y 1) 78 (fun _ => 0), px_i (u.1 2) (y 1) 6 (fun _ => 0), px_i (u.1 3) (y 1) 52 (fun _ => 0), px_i (u.1 4) (y 1) 6 (fun _ => 0), px_i (u.1 5) (y 1) 6 (fun _ => 0), px_o (u.1 6) 3 [.ref (u.1 7), .ref (u.1 8), .int 0, .ref (u.1 9)], px_i (u.1 7) (y 1) 78 (fun _ => 0), px_i (u.1 8) (y 1) 52 (fun _ => 0), px_i (u.1 9) (y 1) 6 (fun _ => 0), px_i (u.1 10) (y 1) 13 (u.2.1 0), px_i (u.1 11) (y 1) 6 (u.2.1 1)]) (va_A [px_o g 2 fg] sz)) 12 313 (va_A [px_o g 2 fg] sz) := by
  refine Met.ofW (cc := cX2_init) (maxL := 1) (ret := none) (by decide) rfl ?_
  intro p e s m args below meth c s₁ B hml hv
  obtain ⟨rfl, ⟨hsz, hP, hK, hD0⟩, hXX⟩ := hv
  have haoG := hXX.1
  have haoS := hXX.2.1
  have hx := B.exec
  have hb := B.bytes
  have hr := B.returns
  have hts := atoms_spec (ws := px_w yX2_init cX2_init 1 none) B.pre
  have hg : ∀ w ∈ gw, w.before [.ref g].toArray s = true := fun w h => hts w (List.mem_cons_of_mem _ h)
  have hown : s.vm.findClass RX2 = some m.cls := findClass_of_methodNamed B.named
  have hlocks := B.notSynchronized
  have hin : meth.name = "<init>" := (name_of_methodNamed B.named B.method).1
  subst hsz
  have hD := hD0.self (sz := s.heap.size)
  generalize hAe : va_A [px_o g 2 fg] s.heap.size = A at hD ⊢
  have hA : ∀ q : Nat, s.heap.size ≤ q → A q := fun q h => by rw [← hAe]; exact Or.inr h
  have hS : va_S A s.heap s.heap [] := va_S.rf
  have hP : va_P D vwCl [px_o g 2 fg] s.heap := hP
  have hl := lv_entry ([.ref g]) (n := 1) (Nat.le_of_ble_eq_true rfl)
  rw [lg_entry_eq]
  generalize (lg_sl ([.ref g]) ++ List.replicate (1 - (lg_sl ([.ref g])).length) Slot.unset).toArray = ls at hl ⊢
  have hl : lv_has ls 1 [(0, .ref g)] := hl
  refine lv_aload_n hx hb dX2_init_0 rfl (lv_at hl 0 rfl) ?_
  refine W.objInit hx hb hown (hg _ q_1_37) (hg _ q_1_30) (hg _ q_1_31) rfl (by rw [hml]; exact hl.1) rfl dX2_init_1 (Nat.le_of_ble_eq_true rfl) (Nat.le_of_ble_eq_true rfl) ?_
  refine W.eq (g2 := F0 m 4 ls []) rfl ?_
  refine lv_aload_n hx hb dX2_init_4 rfl (lv_at hl 0 rfl) ?_
  refine lv_iconst (v := 0) hx hb dX2_init_5 (by decide) ?_
  refine va_put (D := D) (ci := 2) (v := .int 0) (ty := .int) (C := RX2) (T := TX2) (N := 18) hx hb hg inGX2 tyX2 tyX2_ok nmX2 hown hK hP hD hS 0 rfl rfl 0 (by decide) (hg _ q_1_64) (fun _ h9 => h9) rfl (by decide +kernel) rfl rfl (px_len hg_0) dX2_init_6 (fun H_1 locs_1 hP_1 hD_1 hS_1 => ?_)
  clear hP hD hS
  have hP : va_P D vwCl [px_o g 2 (fg.set 0 (.int 0))] H_1 := hP_1
  have hD : va_D A [px_o g 2 (fg.set 0 (.int 0))] := hD_1
  have hS := hS_1
  clear hP_1 hD_1 hS_1
  refine lv_aload_n hx hb dX2_init_9 rfl (lv_at hl 0 rfl) ?_
  refine lv_iconst (v := 0) hx hb dX2_init_10 (by decide) ?_
  refine va_put (D := D) (ci := 2) (v := .int 0) (ty := .int) (C := RX2) (T := TX2) (N := 18) hx hb hg inGX2 tyX2 tyX2_ok nmX2 hown hK hP hD hS 0 rfl rfl 1 (by decide) (hg _ q_1_70) (fun _ h9 => h9) rfl (by decide +kernel) rfl rfl (px_len (px_sn (by decide) hg_1)) dX2_init_11 (fun H_2 locs_2 hP_2 hD_2 hS_2 => ?_)
  clear hP hD hS
  have hP : va_P D vwCl [px_o g 2 ((fg.set 0 (.int 0)).set 1 (.int 0))] H_2 := hP_2
  have hD : va_D A [px_o g 2 ((fg.set 0 (.int 0)).set 1 (.int 0))] := hD_2
  have hS := hS_2
  clear hP_2 hD_2 hS_2
  refine lv_aload_n hx hb dX2_init_14 rfl (lv_at hl 0 rfl) ?_
  refine lv_iconst (v := 0) hx hb dX2_init_15 (by decide) ?_
  refine va_put (D := D) (ci := 2) (v := .int 0) (ty := .boolean) (C := RX2) (T := TX2) (N := 18) hx hb hg inGX2 tyX2 tyX2_ok nmX2 hown hK hP hD hS 0 rfl rfl 2 (by decide) (hg _ q_1_74) (fun _ h9 => h9) rfl (by decide +kernel) (by decide) rfl (px_len (px_sn (by decide) (px_sn (by decide) hg_2))) dX2_init_16 (fun H_3 locs_3 hP_3 hD_3 hS_3 => ?_)
  clear hP hD hS
  have hP : va_P D vwCl [px_o g 2 (((fg.set 0 (.int 0)).set 1 (.int 0)).set 2 (.int 0))] H_3 := hP_3
  have hD : va_D A [px_o g 2 (((fg.set 0 (.int 0)).set 1 (.int 0)).set 2 (.int 0))] := hD_3
  have hS := hS_3
  clear hP_3 hD_3 hS_3
  refine lv_aload_n hx hb dX2_init_19 rfl (lv_at hl 0 rfl) ?_
  refine lv_iconst (v := 0) hx hb dX2_init_20 (by decide) ?_
  refine va_put (D := D) (ci := 2) (v := .int 0) (ty := .int) (C := RX2) (T := TX2) (N := 18) hx hb hg inGX2 tyX2 tyX2_ok nmX2 hown hK hP hD hS 0 rfl rfl 3 (by decide) (hg _ q_1_78) (fun _ h9 => h9) rfl (by decide +kernel) rfl rfl (px_len (px_sn (by decide) (px_sn (by decide) (px_sn (by decide) hg_3)))) dX2_init_21 (fun H_4 locs_4 hP_4 hD_4 hS_4 => ?_)
  clear hP hD hS
  have hP : va_P D vwCl [px_o g 2 ((((fg.set 0 (.int 0)).set 1 (.int 0)).set 2 (.int 0)).set 3 (.int 0))] H_4 := hP_4
  have hD : va_D A [px_o g 2 ((((fg.set 0 (.int 0)).set 1 (.int 0)).set 2 (.int 0)).set 3 (.int 0))] := hD_4
  have hS := hS_4
  clear hP_4 hD_4 hS_4
  refine lv_aload_n hx hb dX2_init_24 rfl (lv_at hl 0 rfl) ?_
  refine lv_bipush (v := 6) hx hb dX2_init_25 (by decide) ?_
  refine px_newa (atype := .long) (ty := .long) hx hb (hg _ q_1_59) rfl hK hP hD hS hA 2 rfl (N' := 6) (a0 := (6, .inr (.inl (fun _ => 0)))) (px_along _) (by decide) (by decide) (by decide) (Nat.le_of_ble_eq_true rfl) (Nat.le_of_ble_eq_true rfl) dX2_init_27 (fun q5 H_6 hP_6 hD_6 hS_6 => ?_)
  clear hP hD hS
  have hP : va_P D vwCl [px_o g 2 ((((fg.set 0 (.int 0)).set 1 (.int 0)).set 2 (.int 0)).set 3 (.int 0)), px_l q5 (y 2) 6 (fun _ => 0)] H_6 := hP_6
  have hD : va_D A [px_o g 2 ((((fg.set 0 (.int 0)).set 1 (.int 0)).set 2 (.int 0)).set 3 (.int 0)), px_l q5 (y 2) 6 (fun _ => 0)] := hD_6
  have hS := hS_6
  clear hP_6 hD_6 hS_6
  refine W.cs (cells' := 1) (slots' := 6) rfl rfl ?_
  refine va_putF (D := D) (ci := 2) (v := .ref q5) (ty := (.array .long)) (C := RX2) (T := TX2) (N := 18) hx hb hg inGX2 tyX2 tyX2_ok nmX2 hown hK hP hD hS 0 rfl rfl 4 (by decide) (hg _ q_1_82) (fun _ h9 => h9) rfl hin rfl (by decide +kernel) rfl rfl (px_len (px_sn (by decide) (px_sn (by decide) (px_sn (by decide) (px_sn (by decide) hg_4))))) dX2_init_29 (fun H_7 locs_7 hP_7 hD_7 hS_7 => ?_)
  clear hP hD hS
  have hP : va_P D vwCl [px_o g 2 (((((fg.set 0 (.int 0)).set 1 (.int 0)).set 2 (.int 0)).set 3 (.int 0)).set 4 (.ref q5)), px_l q5 (y 2) 6 (fun _ => 0)] H_7 := hP_7
  have hD : va_D A [px_o g 2 (((((fg.set 0 (.int 0)).set 1 (.int 0)).set 2 (.int 0)).set 3 (.int 0)).set 4 (.ref q5)), px_l q5 (y 2) 6 (fun _ => 0)] := hD_7
  have hS := hS_7
  clear hP_7 hD_7 hS_7
  refine lv_aload_n hx hb dX2_init_32 rfl (lv_at hl 0 rfl) ?_
  refine lv_bipush (v := 78) hx hb dX2_init_33 (by decide) ?_
  refine px_newa (atype := .int) (ty := .int) hx hb (hg _ q_1_60) rfl hK hP hD hS hA 1 rfl (N' := 78) (a0 := (78, .inl (fun _ => 0))) (px_aint _) (by decide) (by decide) (by decide) (Nat.le_of_ble_eq_true rfl) (Nat.le_of_ble_eq_true rfl) dX2_init_35 (fun q8 H_9 hP_9 hD_9 hS_9 => ?_)
  clear hP hD hS
  have hP : va_P D vwCl [px_o g 2 (((((fg.set 0 (.int 0)).set 1 (.int 0)).set 2 (.int 0)).set 3 (.int 0)).set 4 (.ref q5)), px_l q5 (y 2) 6 (fun _ => 0), px_i q8 (y 1) 78 (fun _ => 0)] H_9 := hP_9
  have hD : va_D A [px_o g 2 (((((fg.set 0 (.int 0)).set 1 (.int 0)).set 2 (.int 0)).set 3 (.int 0)).set 4 (.ref q5)), px_l q5 (y 2) 6 (fun _ => 0), px_i q8 (y 1) 78 (fun _ => 0)] := hD_9
  have hS := hS_9
  clear hP_9 hD_9 hS_9
  refine W.cs (cells' := 2) (slots' := 84) rfl rfl ?_
  refine va_putF (D := D) (ci := 2) (v := .ref q8) (ty := (.array .int)) (C := RX2) (T := TX2) (N := 18) hx hb hg inGX2 tyX2 tyX2_ok nmX2 hown hK hP hD hS 0 rfl rfl 5 (by decide) (hg _ q_1_83) (fun _ h9 => h9) rfl hin rfl (by decide +kernel) rfl rfl (px_len (px_sn (by decide) (px_sn (by decide) (px_sn (by decide) (px_sn (by decide) (px_sn (by decide) hg_5)))))) dX2_init_37 (fun H_10 locs_10 hP_10 hD_10 hS_10 => ?_)
  clear hP hD hS
  have hP : va_P D vwCl [px_o g 2 ((((((fg.set 0 (.int 0)).set 1 (.int 0)).set 2 (.int 0)).set 3 (.int 0)).set 4 (.ref q5)).set 5 (.ref q8)), px_l q5 (y 2) 6 (fun _ => 0), px_i q8 (y 1) 78 (fun _ => 0)] H_10 := hP_10
  have hD : va_D A [px_o g 2 ((((((fg.set 0 (.int 0)).set 1 (.int 0)).set 2 (.int 0)).set 3 (.int 0)).set 4 (.ref q5)).set 5 (.ref q8)), px_l q5 (y 2) 6 (fun _ => 0), px_i q8 (y 1) 78 (fun _ => 0)] := hD_10
  have hS := hS_10
  clear hP_10 hD_10 hS_10
  refine lv_aload_n hx hb dX2_init_40 rfl (lv_at hl 0 rfl) ?_
  refine lv_bipush (v := 6) hx hb dX2_init_41 (by decide) ?_
  refine px_newa (atype := .int) (ty := .int) hx hb (hg _ q_1_60) rfl hK hP hD hS hA 1 rfl (N' := 6) (a0 := (6, .inl (fun _ => 0))) (px_aint _) (by decide) (by decide) (by decide) (Nat.le_of_ble_eq_true rfl) (Nat.le_of_ble_eq_true rfl) dX2_init_43 (fun q11 H_12 hP_12 hD_12 hS_12 => ?_)
  clear hP hD hS
  have hP : va_P D vwCl [px_o g 2 ((((((fg.set 0 (.int 0)).set 1 (.int 0)).set 2 (.int 0)).set 3 (.int 0)).set 4 (.ref q5)).set 5 (.ref q8)), px_l q5 (y 2) 6 (fun _ => 0), px_i q8 (y 1) 78 (fun _ => 0), px_i q11 (y 1) 6 (fun _ => 0)] H_12 := hP_12
  have hD : va_D A [px_o g 2 ((((((fg.set 0 (.int 0)).set 1 (.int 0)).set 2 (.int 0)).set 3 (.int 0)).set 4 (.ref q5)).set 5 (.ref q8)), px_l q5 (y 2) 6 (fun _ => 0), px_i q8 (y 1) 78 (fun _ => 0), px_i q11 (y 1) 6 (fun _ => 0)] := hD_12
  have hS := hS_12
  clear hP_12 hD_12 hS_12
  refine W.cs (cells' := 3) (slots' := 90) rfl rfl ?_
  refine va_putF (D := D) (ci := 2) (v := .ref q11) (ty := (.array .int)) (C := RX2) (T := TX2) (N := 18) hx hb hg inGX2 tyX2 tyX2_ok nmX2 hown hK hP hD hS 0 rfl rfl 6 (by decide) (hg _ q_1_84) (fun _ h9 => h9) rfl hin rfl (by decide +kernel) rfl rfl (px_len (px_sn (by decide) (px_sn (by decide) (px_sn (by decide) (px_sn (by decide) (px_sn (by decide) (px_sn (by decide) hg_6))))))) dX2_init_45 (fun H_13 locs_13 hP_13 hD_13 hS_13 => ?_)
  clear hP hD hS
  have hP : va_P D vwCl [px_o g 2 (((((((fg.set 0 (.int 0)).set 1 (.int 0)).set 2 (.int 0)).set 3 (.int 0)).set 4 (.ref q5)).set 5 (.ref q8)).set 6 (.ref q11)), px_l q5 (y 2) 6 (fun _ => 0), px_i q8 (y 1) 78 (fun _ => 0), px_i q11 (y 1) 6 (fun _ => 0)] H_13 := hP_13
  have hD : va_D A [px_o g 2 (((((((fg.set 0 (.int 0)).set 1 (.int 0)).set 2 (.int 0)).set 3 (.int 0)).set 4 (.ref q5)).set 5 (.ref q8)).set 6 (.ref q11)), px_l q5 (y 2) 6 (fun _ => 0), px_i q8 (y 1) 78 (fun _ => 0), px_i q11 (y 1) 6 (fun _ => 0)] := hD_13
  have hS := hS_13
  clear hP_13 hD_13 hS_13
  refine lv_aload_n hx hb dX2_init_48 rfl (lv_at hl 0 rfl) ?_
  refine lv_bipush (v := 52) hx hb dX2_init_49 (by decide) ?_
  refine px_newa (atype := .int) (ty := .int) hx hb (hg _ q_1_60) rfl hK hP hD hS hA 1 rfl (N' := 52) (a0 := (52, .inl (fun _ => 0))) (px_aint _) (by decide) (by decide) (by decide) (Nat.le_of_ble_eq_true rfl) (Nat.le_of_ble_eq_true rfl) dX2_init_51 (fun q14 H_15 hP_15 hD_15 hS_15 => ?_)
  clear hP hD hS
  have hP : va_P D vwCl [px_o g 2 (((((((fg.set 0 (.int 0)).set 1 (.int 0)).set 2 (.int 0)).set 3 (.int 0)).set 4 (.ref q5)).set 5 (.ref q8)).set 6 (.ref q11)), px_l q5 (y 2) 6 (fun _ => 0), px_i q8 (y 1) 78 (fun _ => 0), px_i q11 (y 1) 6 (fun _ => 0), px_i q14 (y 1) 52 (fun _ => 0)] H_15 := hP_15
  have hD : va_D A [px_o g 2 (((((((fg.set 0 (.int 0)).set 1 (.int 0)).set 2 (.int 0)).set 3 (.int 0)).set 4 (.ref q5)).set 5 (.ref q8)).set 6 (.ref q11)), px_l q5 (y 2) 6 (fun _ => 0), px_i q8 (y 1) 78 (fun _ => 0), px_i q11 (y 1) 6 (fun _ => 0), px_i q14 (y 1) 52 (fun _ => 0)] := hD_15
  have hS := hS_15
  clear hP_15 hD_15 hS_15
  refine W.cs (cells' := 4) (slots' := 142) rfl rfl ?_
  refine va_putF (D := D) (ci := 2) (v := .ref q14) (ty := (.array .int)) (C := RX2) (T := TX2) (N := 18) hx hb hg inGX2 tyX2 tyX2_ok nmX2 hown hK hP hD hS 0 rfl rfl 7 (by decide) (hg _ q_1_86) (fun _ h9 => h9) rfl hin rfl (by decide +kernel) rfl rfl (px_len (px_sn (by decide) (px_sn (by decide) (px_sn (by decide) (px_sn (by decide) (px_sn (by decide) (px_sn (by decide) (px_sn (by decide) hg_7)))))))) dX2_init_53 (fun H_16 locs_16 hP_16 hD_16 hS_16 => ?_)
  clear hP hD hS
  have hP : va_P D vwCl [px_o g 2 ((((((((fg.set 0 (.int 0)).set 1 (.int 0)).set 2 (.int 0)).set 3 (.int 0)).set 4 (.ref q5)).set 5 (.ref q8)).set 6 (.ref q11)).set 7 (.ref q14)), px_l q5 (y 2) 6 (fun _ => 0), px_i q8 (y 1) 78 (fun _ => 0), px_i q11 (y 1) 6 (fun _ => 0), px_i q14 (y 1) 52 (fun _ => 0)] H_16 := hP_16
  have hD : va_D A [px_o g 2 ((((((((fg.set 0 (.int 0)).set 1 (.int 0)).set 2 (.int 0)).set 3 (.int 0)).set 4 (.ref q5)).set 5 (.ref q8)).set 6 (.ref q11)).set 7 (.ref q14)), px_l q5 (y 2) 6 (fun _ => 0), px_i q8 (y 1) 78 (fun _ => 0), px_i q11 (y 1) 6 (fun _ => 0), px_i q14 (y 1) 52 (fun _ => 0)] := hD_16
  have hS := hS_16
  clear hP_16 hD_16 hS_16
  refine lv_aload_n hx hb dX2_init_56 rfl (lv_at hl 0 rfl) ?_
  refine lv_iconst (v := 0) hx hb dX2_init_57 (by decide) ?_
  refine va_put (D := D) (ci := 2) (v := .int 0) (ty := .int) (C := RX2) (T := TX2) (N := 18) hx hb hg inGX2 tyX2 tyX2_ok nmX2 hown hK hP hD hS 0 rfl rfl 8 (by decide) (hg _ q_1_89) (fun _ h9 => h9) rfl (by decide +kernel) rfl rfl (px_len (px_sn (by decide) (px_sn (by decide) (px_sn (by decide) (px_sn (by decide) (px_sn (by decide) (px_sn (by decide) (px_sn (by decide) (px_sn (by decide) hg_8))))))))) dX2_init_58 (fun H_17 locs_17 hP_17 hD_17 hS_17 => ?_)
  clear hP hD hS
  have hP : va_P D vwCl [px_o g 2 (((((((((fg.set 0 (.int 0)).set 1 (.int 0)).set 2 (.int 0)).set 3 (.int 0)).set 4 (.ref q5)).set 5 (.ref q8)).set 6 (.ref q11)).set 7 (.ref q14)).set 8 (.int 0)), px_l q5 (y 2) 6 (fun _ => 0), px_i q8 (y 1) 78 (fun _ => 0), px_i q11 (y 1) 6 (fun _ => 0), px_i q14 (y 1) 52 (fun _ => 0)] H_17 := hP_17
  have hD : va_D A [px_o g 2 (((((((((fg.set 0 (.int 0)).set 1 (.int 0)).set 2 (.int 0)).set 3 (.int 0)).set 4 (.ref q5)).set 5 (.ref q8)).set 6 (.ref q11)).set 7 (.ref q14)).set 8 (.int 0)), px_l q5 (y 2) 6 (fun _ => 0), px_i q8 (y 1) 78 (fun _ => 0), px_i q11 (y 1) 6 (fun _ => 0), px_i q14 (y 1) 52 (fun _ => 0)] := hD_17
  have hS := hS_17
  clear hP_17 hD_17 hS_17
  refine lv_aload_n hx hb dX2_init_61 rfl (lv_at hl 0 rfl) ?_
  refine lv_iconst (v := 0) hx hb dX2_init_62 (by decide) ?_
  refine va_put (D := D) (ci := 2) (v := .int 0) (ty := .int) (C := RX2) (T := TX2) (N := 18) hx hb hg inGX2 tyX2 tyX2_ok nmX2 hown hK hP hD hS 0 rfl rfl 9 (by decide) (hg _ q_1_92) (fun _ h9 => h9) rfl (by decide +kernel) rfl rfl (px_len (px_sn (by decide) (px_sn (by decide) (px_sn (by decide) (px_sn (by decide) (px_sn (by decide) (px_sn (by decide) (px_sn (by decide) (px_sn (by decide) (px_sn (by decide) hg_9)))))))))) dX2_init_63 (fun H_18 locs_18 hP_18 hD_18 hS_18 => ?_)
  clear hP hD hS
  have hP : va_P D vwCl [px_o g 2 ((((((((((fg.set 0 (.int 0)).set 1 (.int 0)).set 2 (.int 0)).set 3 (.int 0)).set 4 (.ref q5)).set 5 (.ref q8)).set 6 (.ref q11)).set 7 (.ref q14)).set 8 (.int 0)).set 9 (.int 0)), px_l q5 (y 2) 6 (fun _ => 0), px_i q8 (y 1) 78 (fun _ => 0), px_i q11 (y 1) 6 (fun _ => 0), px_i q14 (y 1) 52 (fun _ => 0)] H_18 := hP_18
  have hD : va_D A [px_o g 2 ((((((((((fg.set 0 (.int 0)).set 1 (.int 0)).set 2 (.int 0)).set 3 (.int 0)).set 4 (.ref q5)).set 5 (.ref q8)).set 6 (.ref q11)).set 7 (.ref q14)).set 8 (.int 0)).set 9 (.int 0)), px_l q5 (y 2) 6 (fun _ => 0), px_i q8 (y 1) 78 (fun _ => 0), px_i q11 (y 1) 6 (fun _ => 0), px_i q14 (y 1) 52 (fun _ => 0)] := hD_18
  have hS := hS_18
  clear hP_18 hD_18 hS_18
  refine lv_aload_n hx hb dX2_init_66 rfl (lv_at hl 0 rfl) ?_
  refine lv_bipush (v := 13) hx hb dX2_init_67 (by decide) ?_
  refine px_newa (atype := .int) (ty := .int) hx hb (hg _ q_1_60) rfl hK hP hD hS hA 1 rfl (N' := 13) (a0 := (13, .inl (fun _ => 0))) (px_aint _) (by decide) (by decide) (by decide) (Nat.le_of_ble_eq_true rfl) (Nat.le_of_ble_eq_true rfl) dX2_init_69 (fun q19 H_20 hP_20 hD_20 hS_20 => ?_)
  clear hP hD hS
  have hP : va_P D vwCl [px_o g 2 ((((((((((fg.set 0 (.int 0)).set 1 (.int 0)).set 2 (.int 0)).set 3 (.int 0)).set 4 (.ref q5)).set 5 (.ref q8)).set 6 (.ref q11)).set 7 (.ref q14)).set 8 (.int 0)).set 9 (.int 0)), px_l q5 (y 2) 6 (fun _ => 0), px_i q8 (y 1) 78 (fun _ => 0), px_i q11 (y 1) 6 (fun _ => 0), px_i q14 (y 1) 52 (fun _ => 0), px_i q19 (y 1) 13 (fun _ => 0)] H_20 := hP_20
  have hD : va_D A [px_o g 2 ((((((((((fg.set 0 (.int 0)).set 1 (.int 0)).set 2 (.int 0)).set 3 (.int 0)).set 4 (.ref q5)).set 5 (.ref q8)).set 6 (.ref q11)).set 7 (.ref q14)).set 8 (.int 0)).set 9 (.int 0)), px_l q5 (y 2) 6 (fun _ => 0), px_i q8 (y 1) 78 (fun _ => 0), px_i q11 (y 1) 6 (fun _ => 0), px_i q14 (y 1) 52 (fun _ => 0), px_i q19 (y 1) 13 (fun _ => 0)] := hD_20
  have hS := hS_20
  clear hP_20 hD_20 hS_20
  refine W.cs (cells' := 5) (slots' := 155) rfl rfl ?_
  refine va_putF (D := D) (ci := 2) (v := .ref q19) (ty := (.array .int)) (C := RX2) (T := TX2) (N := 18) hx hb hg inGX2 tyX2 tyX2_ok nmX2 hown hK hP hD hS 0 rfl rfl 10 (by decide) (hg _ q_1_93) (fun _ h9 => h9) rfl hin rfl (by decide +kernel) rfl rfl (px_len (px_sn (by decide) (px_sn (by decide) (px_sn (by decide) (px_sn (by decide) (px_sn (by decide) (px_sn (by decide) (px_sn (by decide) (px_sn (by decide) (px_sn (by decide) (px_sn (by decide) hg_10))))))))))) dX2_init_71 (fun H_21 locs_21 hP_21 hD_21 hS_21 => ?_)
  clear hP hD hS
  have hP : va_P D vwCl [px_o g 2 (((((((((((fg.set 0 (.int 0)).set 1 (.int 0)).set 2 (.int 0)).set 3 (.int 0)).set 4 (.ref q5)).set 5 (.ref q8)).set 6 (.ref q11)).set 7 (.ref q14)).set 8 (.int 0)).set 9 (.int 0)).set 10 (.ref q19)), px_l q5 (y 2) 6 (fun _ => 0), px_i q8 (y 1) 78 (fun _ => 0), px_i q11 (y 1) 6 (fun _ => 0), px_i q14 (y 1) 52 (fun _ => 0), px_i q19 (y 1) 13 (fun _ => 0)] H_21 := hP_21
  have hD : va_D A [px_o g 2 (((((((((((fg.set 0 (.int 0)).set 1 (.int 0)).set 2 (.int 0)).set 3 (.int 0)).set 4 (.ref q5)).set 5 (.ref q8)).set 6 (.ref q11)).set 7 (.ref q14)).set 8 (.int 0)).set 9 (.int 0)).set 10 (.ref q19)), px_l q5 (y 2) 6 (fun _ => 0), px_i q8 (y 1) 78 (fun _ => 0), px_i q11 (y 1) 6 (fun _ => 0), px_i q14 (y 1) 52 (fun _ => 0), px_i q19 (y 1) 13 (fun _ => 0)] := hD_21
  have hS := hS_21
  clear hP_21 hD_21 hS_21
  refine lv_aload_n hx hb dX2_init_74 rfl (lv_at hl 0 rfl) ?_
  refine lv_bipush (v := 6) hx hb dX2_init_75 (by decide) ?_
  refine px_newa (atype := .int) (ty := .int) hx hb (hg _ q_1_60) rfl hK hP hD hS hA 1 rfl (N' := 6) (a0 := (6, .inl (fun _ => 0))) (px_aint _) (by decide) (by decide) (by decide) (Nat.le_of_ble_eq_true rfl) (Nat.le_of_ble_eq_true rfl) dX2_init_77 (fun q22 H_23 hP_23 hD_23 hS_23 => ?_)
  clear hP hD hS
  have hP : va_P D vwCl [px_o g 2 (((((((((((fg.set 0 (.int 0)).set 1 (.int 0)).set 2 (.int 0)).set 3 (.int 0)).set 4 (.ref q5)).set 5 (.ref q8)).set 6 (.ref q11)).set 7 (.ref q14)).set 8 (.int 0)).set 9 (.int 0)).set 10 (.ref q19)), px_l q5 (y 2) 6 (fun _ => 0), px_i q8 (y 1) 78 (fun _ => 0), px_i q11 (y 1) 6 (fun _ => 0), px_i q14 (y 1) 52 (fun _ => 0), px_i q19 (y 1) 13 (fun _ => 0), px_i q22 (y 1) 6 (fun _ => 0)] H_23 := hP_23
  have hD : va_D A [px_o g 2 (((((((((((fg.set 0 (.int 0)).set 1 (.int 0)).set 2 (.int 0)).set 3 (.int 0)).set 4 (.ref q5)).set 5 (.ref q8)).set 6 (.ref q11)).set 7 (.ref q14)).set 8 (.int 0)).set 9 (.int 0)).set 10 (.ref q19)), px_l q5 (y 2) 6 (fun _ => 0), px_i q8 (y 1) 78 (fun _ => 0), px_i q11 (y 1) 6 (fun _ => 0), px_i q14 (y 1) 52 (fun _ => 0), px_i q19 (y 1) 13 (fun _ => 0), px_i q22 (y 1) 6 (fun _ => 0)] := hD_23
  have hS := hS_23
  clear hP_23 hD_23 hS_23
  refine W.cs (cells' := 6) (slots' := 161) rfl rfl ?_
  refine va_putF (D := D) (ci := 2) (v := .ref q22) (ty := (.array .int)) (C := RX2) (T := TX2) (N := 18) hx hb hg inGX2 tyX2 tyX2_ok nmX2 hown hK hP hD hS 0 rfl rfl 11 (by decide) (hg _ q_1_96) (fun _ h9 => h9) rfl hin rfl (by decide +kernel) rfl rfl (px_len (px_sn (by decide) (px_sn (by decide) (px_sn (by decide) (px_sn (by decide) (px_sn (by decide) (px_sn (by decide) (px_sn (by decide) (px_sn (by decide) (px_sn (by decide) (px_sn (by decide) (px_sn (by decide) hg_11)))))))))))) dX2_init_79 (fun H_24 locs_24 hP_24 hD_24 hS_24 => ?_)
  clear hP hD hS
  have hP : va_P D vwCl [px_o g 2 ((((((((((((fg.set 0 (.int 0)).set 1 (.int 0)).set 2 (.int 0)).set 3 (.int 0)).set 4 (.ref q5)).set 5 (.ref q8)).set 6 (.ref q11)).set 7 (.ref q14)).set 8 (.int 0)).set 9 (.int 0)).set 10 (.ref q19)).set 11 (.ref q22)), px_l q5 (y 2) 6 (fun _ => 0), px_i q8 (y 1) 78 (fun _ => 0), px_i q11 (y 1) 6 (fun _ => 0), px_i q14 (y 1) 52 (fun _ => 0), px_i q19 (y 1) 13 (fun _ => 0), px_i q22 (y 1) 6 (fun _ => 0)] H_24 := hP_24
  have hD : va_D A [px_o g 2 ((((((((((((fg.set 0 (.int 0)).set 1 (.int 0)).set 2 (.int 0)).set 3 (.int 0)).set 4 (.ref q5)).set 5 (.ref q8)).set 6 (.ref q11)).set 7 (.ref q14)).set 8 (.int 0)).set 9 (.int 0)).set 10 (.ref q19)).set 11 (.ref q22)), px_l q5 (y 2) 6 (fun _ => 0), px_i q8 (y 1) 78 (fun _ => 0), px_i q11 (y 1) 6 (fun _ => 0), px_i q14 (y 1) 52 (fun _ => 0), px_i q19 (y 1) 13 (fun _ => 0), px_i q22 (y 1) 6 (fun _ => 0)] := hD_24
  have hS := hS_24
  clear hP_24 hD_24 hS_24
  refine lv_aload_n hx hb dX2_init_82 rfl (lv_at hl 0 rfl) ?_
  refine lv_bipush (v := 6) hx hb dX2_init_83 (by decide) ?_
  refine px_newa (atype := .int) (ty := .int) hx hb (hg _ q_1_60) rfl hK hP hD hS hA 1 rfl (N' := 6) (a0 := (6, .inl (fun _ => 0))) (px_aint _) (by decide) (by decide) (by decide) (Nat.le_of_ble_eq_true rfl) (Nat.le_of_ble_eq_true rfl) dX2_init_85 (fun q25 H_26 hP_26 hD_26 hS_26 => ?_)
  clear hP hD hS
  have hP : va_P D vwCl [px_o g 2 ((((((((((((fg.set 0 (.int 0)).set 1 (.int 0)).set 2 (.int 0)).set 3 (.int 0)).set 4 (.ref q5)).set 5 (.ref q8)).set 6 (.ref q11)).set 7 (.ref q14)).set 8 (.int 0)).set 9 (.int 0)).set 10 (.ref q19)).set 11 (.ref q22)), px_l q5 (y 2) 6 (fun _ => 0), px_i q8 (y 1) 78 (fun _ => 0), px_i q11 (y 1) 6 (fun _ => 0), px_i q14 (y 1) 52 (fun _ => 0), px_i q19 (y 1) 13 (fun _ => 0), px_i q22 (y 1) 6 (fun _ => 0), px_i q25 (y 1) 6 (fun _ => 0)] H_26 := hP_26
  have hD : va_D A [px_o g 2 ((((((((((((fg.set 0 (.int 0)).set 1 (.int 0)).set 2 (.int 0)).set 3 (.int 0)).set 4 (.ref q5)).set 5 (.ref q8)).set 6 (.ref q11)).set 7 (.ref q14)).set 8 (.int 0)).set 9 (.int 0)).set 10 (.ref q19)).set 11 (.ref q22)), px_l q5 (y 2) 6 (fun _ => 0), px_i q8 (y 1) 78 (fun _ => 0), px_i q11 (y 1) 6 (fun _ => 0), px_i q14 (y 1) 52 (fun _ => 0), px_i q19 (y 1) 13 (fun _ => 0), px_i q22 (y 1) 6 (fun _ => 0), px_i q25 (y 1) 6 (fun _ => 0)] := hD_26
  have hS := hS_26
  clear hP_26 hD_26 hS_26
  refine W.cs (cells' := 7) (slots' := 167) rfl rfl ?_
  refine va_putF (D := D) (ci := 2) (v := .ref q25) (ty := (.array .int)) (C := RX2) (T := TX2) (N := 18) hx hb hg inGX2 tyX2 tyX2_ok nmX2 hown hK hP hD hS 0 rfl rfl 12 (by decide) (hg _ q_1_98) (fun _ h9 => h9) rfl hin rfl (by decide +kernel) rfl rfl (px_len (px_sn (by decide) (px_sn (by decide) (px_sn (by decide) (px_sn (by decide) (px_sn (by decide) (px_sn (by decide) (px_sn (by decide) (px_sn (by decide) (px_sn (by decide) (px_sn (by decide) (px_sn (by decide) (px_sn (by decide) hg_12))))))))))))) dX2_init_87 (fun H_27 locs_27 hP_27 hD_27 hS_27 => ?_)
  clear hP hD hS
  have hP : va_P D vwCl [px_o g 2 (((((((((((((fg.set 0 (.int 0)).set 1 (.int 0)).set 2 (.int 0)).set 3 (.int 0)).set 4 (.ref q5)).set 5 (.ref q8)).set 6 (.ref q11)).set 7 (.ref q14)).set 8 (.int 0)).set 9 (.int 0)).set 10 (.ref q19)).set 11 (.ref q22)).set 12 (.ref q25)), px_l q5 (y 2) 6 (fun _ => 0), px_i q8 (y 1) 78 (fun _ => 0), px_i q11 (y 1) 6 (fun _ => 0), px_i q14 (y 1) 52 (fun _ => 0), px_i q19 (y 1) 13 (fun _ => 0), px_i q22 (y 1) 6 (fun _ => 0), px_i q25 (y 1) 6 (fun _ => 0)] H_27 := hP_27
  have hD : va_D A [px_o g 2 (((((((((((((fg.set 0 (.int 0)).set 1 (.int 0)).set 2 (.int 0)).set 3 (.int 0)).set 4 (.ref q5)).set 5 (.ref q8)).set 6 (.ref q11)).set 7 (.ref q14)).set 8 (.int 0)).set 9 (.int 0)).set 10 (.ref q19)).set 11 (.ref q22)).set 12 (.ref q25)), px_l q5 (y 2) 6 (fun _ => 0), px_i q8 (y 1) 78 (fun _ => 0), px_i q11 (y 1) 6 (fun _ => 0), px_i q14 (y 1) 52 (fun _ => 0), px_i q19 (y 1) 13 (fun _ => 0), px_i q22 (y 1) 6 (fun _ => 0), px_i q25 (y 1) 6 (fun _ => 0)] := hD_27
  have hS := hS_27
  clear hP_27 hD_27 hS_27
  refine lv_aload_n hx hb dX2_init_90 rfl (lv_at hl 0 rfl) ?_
  refine lv_bipush (v := 6) hx hb dX2_init_91 (by decide) ?_
  refine px_newa (atype := .int) (ty := .int) hx hb (hg _ q_1_60) rfl hK hP hD hS hA 1 rfl (N' := 6) (a0 := (6, .inl (fun _ => 0))) (px_aint _) (by decide) (by decide) (by decide) (Nat.le_of_ble_eq_true rfl) (Nat.le_of_ble_eq_true rfl) dX2_init_93 (fun q28 H_29 hP_29 hD_29 hS_29 => ?_)
  clear hP hD hS
  have hP : va_P D vwCl [px_o g 2 (((((((((((((fg.set 0 (.int 0)).set 1 (.int 0)).set 2 (.int 0)).set 3 (.int 0)).set 4 (.ref q5)).set 5 (.ref q8)).set 6 (.ref q11)).set 7 (.ref q14)).set 8 (.int 0)).set 9 (.int 0)).set 10 (.ref q19)).set 11 (.ref q22)).set 12 (.ref q25)), px_l q5 (y 2) 6 (fun _ => 0), px_i q8 (y 1) 78 (fun _ => 0), px_i q11 (y 1) 6 (fun _ => 0), px_i q14 (y 1) 52 (fun _ => 0), px_i q19 (y 1) 13 (fun _ => 0), px_i q22 (y 1) 6 (fun _ => 0), px_i q25 (y 1) 6 (fun _ => 0), px_i q28 (y 1) 6 (fun _ => 0)] H_29 := hP_29
  have hD : va_D A [px_o g 2 (((((((((((((fg.set 0 (.int 0)).set 1 (.int 0)).set 2 (.int 0)).set 3 (.int 0)).set 4 (.ref q5)).set 5 (.ref q8)).set 6 (.ref q11)).set 7 (.ref q14)).set 8 (.int 0)).set 9 (.int 0)).set 10 (.ref q19)).set 11 (.ref q22)).set 12 (.ref q25)), px_l q5 (y 2) 6 (fun _ => 0), px_i q8 (y 1) 78 (fun _ => 0), px_i q11 (y 1) 6 (fun _ => 0), px_i q14 (y 1) 52 (fun _ => 0), px_i q19 (y 1) 13 (fun _ => 0), px_i q22 (y 1) 6 (fun _ => 0), px_i q25 (y 1) 6 (fun _ => 0), px_i q28 (y 1) 6 (fun _ => 0)] := hD_29
  have hS := hS_29
  clear hP_29 hD_29 hS_29
  refine W.cs (cells' := 8) (slots' := 173) rfl rfl ?_
  refine va_putF (D := D) (ci := 2) (v := .ref q28) (ty := (.array .int)) (C := RX2) (T := TX2) (N := 18) hx hb hg inGX2 tyX2 tyX2_ok nmX2 hown hK hP hD hS 0 rfl rfl 13 (by decide) (hg _ q_1_100) (fun _ h9 => h9) rfl hin rfl (by decide +kernel) rfl rfl (px_len (px_sn (by decide) (px_sn (by decide) (px_sn (by decide) (px_sn (by decide) (px_sn (by decide) (px_sn (by decide) (px_sn (by decide) (px_sn (by decide) (px_sn (by decide) (px_sn (by decide) (px_sn (by decide) (px_sn (by decide) (px_sn (by decide) hg_13)))))))))))))) dX2_init_95 (fun H_30 locs_30 hP_30 hD_30 hS_30 => ?_)
  clear hP hD hS
  have hP : va_P D vwCl [px_o g 2 ((((((((((((((fg.set 0 (.int 0)).set 1 (.int 0)).set 2 (.int 0)).set 3 (.int 0)).set 4 (.ref q5)).set 5 (.ref q8)).set 6 (.ref q11)).set 7 (.ref q14)).set 8 (.int 0)).set 9 (.int 0)).set 10 (.ref q19)).set 11 (.ref q22)).set 12 (.ref q25)).set 13 (.ref q28)), px_l q5 (y 2) 6 (fun _ => 0), px_i q8 (y 1) 78 (fun _ => 0), px_i q11 (y 1) 6 (fun _ => 0), px_i q14 (y 1) 52 (fun _ => 0), px_i q19 (y 1) 13 (fun _ => 0), px_i q22 (y 1) 6 (fun _ => 0), px_i q25 (y 1) 6 (fun _ => 0), px_i q28 (y 1) 6 (fun _ => 0)] H_30 := hP_30
  have hD : va_D A [px_o g 2 ((((((((((((((fg.set 0 (.int 0)).set 1 (.int 0)).set 2 (.int 0)).set 3 (.int 0)).set 4 (.ref q5)).set 5 (.ref q8)).set 6 (.ref q11)).set 7 (.ref q14)).set 8 (.int 0)).set 9 (.int 0)).set 10 (.ref q19)).set 11 (.ref q22)).set 12 (.ref q25)).set 13 (.ref q28)), px_l q5 (y 2) 6 (fun _ => 0), px_i q8 (y 1) 78 (fun _ => 0), px_i q11 (y 1) 6 (fun _ => 0), px_i q14 (y 1) 52 (fun _ => 0), px_i q19 (y 1) 13 (fun _ => 0), px_i q22 (y 1) 6 (fun _ => 0), px_i q25 (y 1) 6 (fun _ => 0), px_i q28 (y 1) 6 (fun _ => 0)] := hD_30
  have hS := hS_30
  clear hP_30 hD_30 hS_30
  refine lv_aload_n hx hb dX2_init_98 rfl (lv_at hl 0 rfl) ?_
  refine lv_iconst (v := (-1)) hx hb dX2_init_99 (by decide) ?_
  refine va_put (D := D) (ci := 2) (v := .int (-1)) (ty := .int) (C := RX2) (T := TX2) (N := 18) hx hb hg inGX2 tyX2 tyX2_ok nmX2 hown hK hP hD hS 0 rfl rfl 14 (by decide) (hg _ q_1_102) (fun _ h9 => h9) rfl (by decide +kernel) rfl rfl (px_len (px_sn (by decide) (px_sn (by decide) (px_sn (by decide) (px_sn (by decide) (px_sn (by decide) (px_sn (by decide) (px_sn (by decide) (px_sn (by decide) (px_sn (by decide) (px_sn (by decide) (px_sn (by decide) (px_sn (by decide) (px_sn (by decide) (px_sn (by decide) hg_14))))))))))))))) dX2_init_100 (fun H_31 locs_31 hP_31 hD_31 hS_31 => ?_)
  clear hP hD hS
  have hP : va_P D vwCl [px_o g 2 (((((((((((((((fg.set 0 (.int 0)).set 1 (.int 0)).set 2 (.int 0)).set 3 (.int 0)).set 4 (.ref q5)).set 5 (.ref q8)).set 6 (.ref q11)).set 7 (.ref q14)).set 8 (.int 0)).set 9 (.int 0)).set 10 (.ref q19)).set 11 (.ref q22)).set 12 (.ref q25)).set 13 (.ref q28)).set 14 (.int (-1))), px_l q5 (y 2) 6 (fun _ => 0), px_i q8 (y 1) 78 (fun _ => 0), px_i q11 (y 1) 6 (fun _ => 0), px_i q14 (y 1) 52 (fun _ => 0), px_i q19 (y 1) 13 (fun _ => 0), px_i q22 (y 1) 6 (fun _ => 0), px_i q25 (y 1) 6 (fun _ => 0), px_i q28 (y 1) 6 (fun _ => 0)] H_31 := hP_31
  have hD : va_D A [px_o g 2 (((((((((((((((fg.set 0 (.int 0)).set 1 (.int 0)).set 2 (.int 0)).set 3 (.int 0)).set 4 (.ref q5)).set 5 (.ref q8)).set 6 (.ref q11)).set 7 (.ref q14)).set 8 (.int 0)).set 9 (.int 0)).set 10 (.ref q19)).set 11 (.ref q22)).set 12 (.ref q25)).set 13 (.ref q28)).set 14 (.int (-1))), px_l q5 (y 2) 6 (fun _ => 0), px_i q8 (y 1) 78 (fun _ => 0), px_i q11 (y 1) 6 (fun _ => 0), px_i q14 (y 1) 52 (fun _ => 0), px_i q19 (y 1) 13 (fun _ => 0), px_i q22 (y 1) 6 (fun _ => 0), px_i q25 (y 1) 6 (fun _ => 0), px_i q28 (y 1) 6 (fun _ => 0)] := hD_31
  have hS := hS_31
  clear hP_31 hD_31 hS_31
  refine lv_aload_n hx hb dX2_init_103 rfl (lv_at hl 0 rfl) ?_
  refine lv_iconst (v := 0) hx hb dX2_init_104 (by decide) ?_
  refine va_put (D := D) (ci := 2) (v := .int 0) (ty := .int) (C := RX2) (T := TX2) (N := 18) hx hb hg inGX2 tyX2 tyX2_ok nmX2 hown hK hP hD hS 0 rfl rfl 15 (by decide) (hg _ q_1_105) (fun _ h9 => h9) rfl (by decide +kernel) rfl rfl (px_len (px_sn (by decide) (px_sn (by decide) (px_sn (by decide) (px_sn (by decide) (px_sn (by decide) (px_sn (by decide) (px_sn (by decide) (px_sn (by decide) (px_sn (by decide) (px_sn (by decide) (px_sn (by decide) (px_sn (by decide) (px_sn (by decide) (px_sn (by decide) (px_sn (by decide) hg_15)))))))))))))))) dX2_init_105 (fun H_32 locs_32 hP_32 hD_32 hS_32 => ?_)
  clear hP hD hS
  have hP : va_P D vwCl [px_o g 2 ((((((((((((((((fg.set 0 (.int 0)).set 1 (.int 0)).set 2 (.int 0)).set 3 (.int 0)).set 4 (.ref q5)).set 5 (.ref q8)).set 6 (.ref q11)).set 7 (.ref q14)).set 8 (.int 0)).set 9 (.int 0)).set 10 (.ref q19)).set 11 (.ref q22)).set 12 (.ref q25)).set 13 (.ref q28)).set 14 (.int (-1))).set 15 (.int 0)), px_l q5 (y 2) 6 (fun _ => 0), px_i q8 (y 1) 78 (fun _ => 0), px_i q11 (y 1) 6 (fun _ => 0), px_i q14 (y 1) 52 (fun _ => 0), px_i q19 (y 1) 13 (fun _ => 0), px_i q22 (y 1) 6 (fun _ => 0), px_i q25 (y 1) 6 (fun _ => 0), px_i q28 (y 1) 6 (fun _ => 0)] H_32 := hP_32
  have hD : va_D A [px_o g 2 ((((((((((((((((fg.set 0 (.int 0)).set 1 (.int 0)).set 2 (.int 0)).set 3 (.int 0)).set 4 (.ref q5)).set 5 (.ref q8)).set 6 (.ref q11)).set 7 (.ref q14)).set 8 (.int 0)).set 9 (.int 0)).set 10 (.ref q19)).set 11 (.ref q22)).set 12 (.ref q25)).set 13 (.ref q28)).set 14 (.int (-1))).set 15 (.int 0)), px_l q5 (y 2) 6 (fun _ => 0), px_i q8 (y 1) 78 (fun _ => 0), px_i q11 (y 1) 6 (fun _ => 0), px_i q14 (y 1) 52 (fun _ => 0), px_i q19 (y 1) 13 (fun _ => 0), px_i q22 (y 1) 6 (fun _ => 0), px_i q25 (y 1) 6 (fun _ => 0), px_i q28 (y 1) 6 (fun _ => 0)] := hD_32
  have hS := hS_32
  clear hP_32 hD_32 hS_32
  refine lv_aload_n hx hb dX2_init_108 rfl (lv_at hl 0 rfl) ?_
  refine lv_iconst (v := 0) hx hb dX2_init_109 (by decide) ?_
  refine va_put (D := D) (ci := 2) (v := .int 0) (ty := .int) (C := RX2) (T := TX2) (N := 18) hx hb hg inGX2 tyX2 tyX2_ok nmX2 hown hK hP hD hS 0 rfl rfl 16 (by decide) (hg _ q_1_107) (fun _ h9 => h9) rfl (by decide +kernel) rfl rfl (px_len (px_sn (by decide) (px_sn (by decide) (px_sn (by decide) (px_sn (by decide) (px_sn (by decide) (px_sn (by decide) (px_sn (by decide) (px_sn (by decide) (px_sn (by decide) (px_sn (by decide) (px_sn (by decide) (px_sn (by decide) (px_sn (by decide) (px_sn (by decide) (px_sn (by decide) (px_sn (by decide) hg_16))))))))))))))))) dX2_init_110 (fun H_33 locs_33 hP_33 hD_33 hS_33 => ?_)
  clear hP hD hS
  have hP : va_P D vwCl [px_o g 2 (((((((((((((((((fg.set 0 (.int 0)).set 1 (.int 0)).set 2 (.int 0)).set 3 (.int 0)).set 4 (.ref q5)).set 5 (.ref q8)).set 6 (.ref q11)).set 7 (.ref q14)).set 8 (.int 0)).set 9 (.int 0)).set 10 (.ref q19)).set 11 (.ref q22)).set 12 (.ref q25)).set 13 (.ref q28)).set 14 (.int (-1))).set 15 (.int 0)).set 16 (.int 0)), px_l q5 (y 2) 6 (fun _ => 0), px_i q8 (y 1) 78 (fun _ => 0), px_i q11 (y 1) 6 (fun _ => 0), px_i q14 (y 1) 52 (fun _ => 0), px_i q19 (y 1) 13 (fun _ => 0), px_i q22 (y 1) 6 (fun _ => 0), px_i q25 (y 1) 6 (fun _ => 0), px_i q28 (y 1) 6 (fun _ => 0)] H_33 := hP_33
  have hD : va_D A [px_o g 2 (((((((((((((((((fg.set 0 (.int 0)).set 1 (.int 0)).set 2 (.int 0)).set 3 (.int 0)).set 4 (.ref q5)).set 5 (.ref q8)).set 6 (.ref q11)).set 7 (.ref q14)).set 8 (.int 0)).set 9 (.int 0)).set 10 (.ref q19)).set 11 (.ref q22)).set 12 (.ref q25)).set 13 (.ref q28)).set 14 (.int (-1))).set 15 (.int 0)).set 16 (.int 0)), px_l q5 (y 2) 6 (fun _ => 0), px_i q8 (y 1) 78 (fun _ => 0), px_i q11 (y 1) 6 (fun _ => 0), px_i q14 (y 1) 52 (fun _ => 0), px_i q19 (y 1) 13 (fun _ => 0), px_i q22 (y 1) 6 (fun _ => 0), px_i q25 (y 1) 6 (fun _ => 0), px_i q28 (y 1) 6 (fun _ => 0)] := hD_33
  have hS := hS_33
  clear hP_33 hD_33 hS_33
  refine lv_aload_n hx hb dX2_init_113 rfl (lv_at hl 0 rfl) ?_
  refine va_new (ci := 3) (fs := [.null, .null, .int 0, .null]) (C := RX3) (T := TX3) (N := 4) hx hb hg inGX3 tyX3 tyX3_ok hown (hg _ q_1_38) (hg _ q_1_39) (hg _ q_1_3) hK hP hD hS hA rfl (px_fsX3) (Nat.le_of_ble_eq_true rfl) (Nat.le_of_ble_eq_true rfl) dX2_init_114 (fun q34 H_35 hP_35 hD_35 hS_35 => ?_)
  clear hP hD hS
  have hP : va_P D vwCl [px_o g 2 (((((((((((((((((fg.set 0 (.int 0)).set 1 (.int 0)).set 2 (.int 0)).set 3 (.int 0)).set 4 (.ref q5)).set 5 (.ref q8)).set 6 (.ref q11)).set 7 (.ref q14)).set 8 (.int 0)).set 9 (.int 0)).set 10 (.ref q19)).set 11 (.ref q22)).set 12 (.ref q25)).set 13 (.ref q28)).set 14 (.int (-1))).set 15 (.int 0)).set 16 (.int 0)), px_l q5 (y 2) 6 (fun _ => 0), px_i q8 (y 1) 78 (fun _ => 0), px_i q11 (y 1) 6 (fun _ => 0), px_i q14 (y 1) 52 (fun _ => 0), px_i q19 (y 1) 13 (fun _ => 0), px_i q22 (y 1) 6 (fun _ => 0), px_i q25 (y 1) 6 (fun _ => 0), px_i q28 (y 1) 6 (fun _ => 0), px_o q34 3 [.null, .null, .int 0, .null]] H_35 := hP_35
  have hD : va_D A [px_o g 2 (((((((((((((((((fg.set 0 (.int 0)).set 1 (.int 0)).set 2 (.int 0)).set 3 (.int 0)).set 4 (.ref q5)).set 5 (.ref q8)).set 6 (.ref q11)).set 7 (.ref q14)).set 8 (.int 0)).set 9 (.int 0)).set 10 (.ref q19)).set 11 (.ref q22)).set 12 (.ref q25)).set 13 (.ref q28)).set 14 (.int (-1))).set 15 (.int 0)).set 16 (.int 0)), px_l q5 (y 2) 6 (fun _ => 0), px_i q8 (y 1) 78 (fun _ => 0), px_i q11 (y 1) 6 (fun _ => 0), px_i q14 (y 1) 52 (fun _ => 0), px_i q19 (y 1) 13 (fun _ => 0), px_i q22 (y 1) 6 (fun _ => 0), px_i q25 (y 1) 6 (fun _ => 0), px_i q28 (y 1) 6 (fun _ => 0), px_o q34 3 [.null, .null, .int 0, .null]] := hD_35
  have hS := hS_35
  clear hP_35 hD_35 hS_35
  refine W.cs (cells' := 9) (slots' := 177) rfl rfl ?_
  refine lv_dup hx hb dX2_init_117 rfl ?_
  have hPc_36 := hP.sub (ws' := [px_o q34 3 [.null, .null, .int 0, .null]]) [9] rfl
  have hDc_36 := hD.sub (ws' := [px_o q34 3 [.null, .null, .int 0, .null]]) [9] (by decide +kernel) rfl
  have hFc_36 := va_free (wc := [px_o q34 3 [.null, .null, .int 0, .null]]) hD hS hA [9] rfl
  refine va_callv (va_runIN (As := []) (rest := [.ref q34, .ref g]) ⟨hx, hb, hml, hown, hg⟩ (c_X3_init l D y H_35.size q34 ([.null, .null, .int 0, .null]) rfl rfl rfl rfl) ⟨va_cnB 0 hg (px_gI q_1_42) rfl rfl rfl hXX.2.2.1 (hg _ q_1_3) (by decide +kernel) ⟨Nat.le_of_ble_eq_true rfl, Nat.le_of_ble_eq_true rfl⟩, rfl, (hg _ q_1_41)⟩ (px_preS hK hPc_36 hDc_36) rfl rfl hl.1 rfl (lv_room (Nat.le_of_ble_eq_true rfl)) dX2_init_118 ⟨Nat.le_of_ble_eq_true rfl, Nat.le_of_ble_eq_true rfl⟩) hS (fun q _ h => hFc_36 q h) hFc_36 (fun u_36 t_36 H_36 locs_36 ht_36 hvm_36 hw_36 hB_36 hz_36 hk_36 hS_36 => ?_)
  refine W.cs (cells' := 12) (slots' := 313) rfl rfl ?_
  obtain ⟨hP1_36, hD1_36⟩ := hB_36
  rw [ht_36] at hP1_36
  obtain ⟨hP_36, hD_36⟩ := va_join (wr := [px_o g 2 (((((((((((((((((fg.set 0 (.int 0)).set 1 (.int 0)).set 2 (.int 0)).set 3 (.int 0)).set 4 (.ref q5)).set 5 (.ref q8)).set 6 (.ref q11)).set 7 (.ref q14)).set 8 (.int 0)).set 9 (.int 0)).set 10 (.ref q19)).set 11 (.ref q22)).set 12 (.ref q25)).set 13 (.ref q28)).set 14 (.int (-1))).set 15 (.int 0)).set 16 (.int 0)), px_l q5 (y 2) 6 (fun _ => 0), px_i q8 (y 1) 78 (fun _ => 0), px_i q11 (y 1) 6 (fun _ => 0), px_i q14 (y 1) 52 (fun _ => 0), px_i q19 (y 1) 13 (fun _ => 0), px_i q22 (y 1) 6 (fun _ => 0), px_i q25 (y 1) 6 (fun _ => 0), px_i q28 (y 1) 6 (fun _ => 0)]) (w1 := [px_o q34 3 [.ref (u_36.1 0), .ref (u_36.1 1), .int 0, .ref (u_36.1 2)], px_i (u_36.1 0) (y 1) 78 (fun _ => 0), px_i (u_36.1 1) (y 1) 52 (fun _ => 0), px_i (u_36.1 2) (y 1) 6 (fun _ => 0)]) hP hD [9] [0, 1, 2, 3, 4, 5, 6, 7, 8] rfl rfl (by decide +kernel) (by decide +kernel) hk_36 hFc_36 hP1_36 hD1_36
  clear hP hD hS hPc_36 hDc_36 hFc_36 hz_36 hk_36 hvm_36 ht_36 hP1_36 hD1_36
  have hP : va_P D vwCl [px_o g 2 (((((((((((((((((fg.set 0 (.int 0)).set 1 (.int 0)).set 2 (.int 0)).set 3 (.int 0)).set 4 (.ref q5)).set 5 (.ref q8)).set 6 (.ref q11)).set 7 (.ref q14)).set 8 (.int 0)).set 9 (.int 0)).set 10 (.ref q19)).set 11 (.ref q22)).set 12 (.ref q25)).set 13 (.ref q28)).set 14 (.int (-1))).set 15 (.int 0)).set 16 (.int 0)), px_l q5 (y 2) 6 (fun _ => 0), px_i q8 (y 1) 78 (fun _ => 0), px_i q11 (y 1) 6 (fun _ => 0), px_i q14 (y 1) 52 (fun _ => 0), px_i q19 (y 1) 13 (fun _ => 0), px_i q22 (y 1) 6 (fun _ => 0), px_i q25 (y 1) 6 (fun _ => 0), px_i q28 (y 1) 6 (fun _ => 0), px_o q34 3 [.ref (u_36.1 0), .ref (u_36.1 1), .int 0, .ref (u_36.1 2)], px_i (u_36.1 0) (y 1) 78 (fun _ => 0), px_i (u_36.1 1) (y 1) 52 (fun _ => 0), px_i (u_36.1 2) (y 1) 6 (fun _ => 0)] H_36 := hP_36
  have hD : va_D A [px_o g 2 (((((((((((((((((fg.set 0 (.int 0)).set 1 (.int 0)).set 2 (.int 0)).set 3 (.int 0)).set 4 (.ref q5)).set 5 (.ref q8)).set 6 (.ref q11)).set 7 (.ref q14)).set 8 (.int 0)).set 9 (.int 0)).set 10 (.ref q19)).set 11 (.ref q22)).set 12 (.ref q25)).set 13 (.ref q28)).set 14 (.int (-1))).set 15 (.int 0)).set 16 (.int 0)), px_l q5 (y 2) 6 (fun _ => 0), px_i q8 (y 1) 78 (fun _ => 0), px_i q11 (y 1) 6 (fun _ => 0), px_i q14 (y 1) 52 (fun _ => 0), px_i q19 (y 1) 13 (fun _ => 0), px_i q22 (y 1) 6 (fun _ => 0), px_i q25 (y 1) 6 (fun _ => 0), px_i q28 (y 1) 6 (fun _ => 0), px_o q34 3 [.ref (u_36.1 0), .ref (u_36.1 1), .int 0, .ref (u_36.1 2)], px_i (u_36.1 0) (y 1) 78 (fun _ => 0), px_i (u_36.1 1) (y 1) 52 (fun _ => 0), px_i (u_36.1 2) (y 1) 6 (fun _ => 0)] := hD_36
  have hS := hS_36
  clear hP_36 hD_36 hS_36
  refine va_putF (D := D) (ci := 2) (v := .ref q34) (ty := (.object "SevenTable$Knowledge")) (C := RX2) (T := TX2) (N := 18) hx hb hg inGX2 tyX2 tyX2_ok nmX2 hown hK hP hD hS 0 rfl rfl 17 (by decide) (hg _ q_1_110) (fun _ h9 => h9) rfl hin rfl (by decide +kernel) rfl rfl (px_len (px_sn (by decide) (px_sn (by decide) (px_sn (by decide) (px_sn (by decide) (px_sn (by decide) (px_sn (by decide) (px_sn (by decide) (px_sn (by decide) (px_sn (by decide) (px_sn (by decide) (px_sn (by decide) (px_sn (by decide) (px_sn (by decide) (px_sn (by decide) (px_sn (by decide) (px_sn (by decide) (px_sn (by decide) hg_17)))))))))))))))))) dX2_init_121 (fun H_37 locs_37 hP_37 hD_37 hS_37 => ?_)
  clear hP hD hS
  have hP : va_P D vwCl [px_o g 2 ((((((((((((((((((fg.set 0 (.int 0)).set 1 (.int 0)).set 2 (.int 0)).set 3 (.int 0)).set 4 (.ref q5)).set 5 (.ref q8)).set 6 (.ref q11)).set 7 (.ref q14)).set 8 (.int 0)).set 9 (.int 0)).set 10 (.ref q19)).set 11 (.ref q22)).set 12 (.ref q25)).set 13 (.ref q28)).set 14 (.int (-1))).set 15 (.int 0)).set 16 (.int 0)).set 17 (.ref q34)), px_l q5 (y 2) 6 (fun _ => 0), px_i q8 (y 1) 78 (fun _ => 0), px_i q11 (y 1) 6 (fun _ => 0), px_i q14 (y 1) 52 (fun _ => 0), px_i q19 (y 1) 13 (fun _ => 0), px_i q22 (y 1) 6 (fun _ => 0), px_i q25 (y 1) 6 (fun _ => 0), px_i q28 (y 1) 6 (fun _ => 0), px_o q34 3 [.ref (u_36.1 0), .ref (u_36.1 1), .int 0, .ref (u_36.1 2)], px_i (u_36.1 0) (y 1) 78 (fun _ => 0), px_i (u_36.1 1) (y 1) 52 (fun _ => 0), px_i (u_36.1 2) (y 1) 6 (fun _ => 0)] H_37 := hP_37
  have hD : va_D A [px_o g 2 ((((((((((((((((((fg.set 0 (.int 0)).set 1 (.int 0)).set 2 (.int 0)).set 3 (.int 0)).set 4 (.ref q5)).set 5 (.ref q8)).set 6 (.ref q11)).set 7 (.ref q14)).set 8 (.int 0)).set 9 (.int 0)).set 10 (.ref q19)).set 11 (.ref q22)).set 12 (.ref q25)).set 13 (.ref q28)).set 14 (.int (-1))).set 15 (.int 0)).set 16 (.int 0)).set 17 (.ref q34)), px_l q5 (y 2) 6 (fun _ => 0), px_i q8 (y 1) 78 (fun _ => 0), px_i q11 (y 1) 6 (fun _ => 0), px_i q14 (y 1) 52 (fun _ => 0), px_i q19 (y 1) 13 (fun _ => 0), px_i q22 (y 1) 6 (fun _ => 0), px_i q25 (y 1) 6 (fun _ => 0), px_i q28 (y 1) 6 (fun _ => 0), px_o q34 3 [.ref (u_36.1 0), .ref (u_36.1 1), .int 0, .ref (u_36.1 2)], px_i (u_36.1 0) (y 1) 78 (fun _ => 0), px_i (u_36.1 1) (y 1) 52 (fun _ => 0), px_i (u_36.1 2) (y 1) 6 (fun _ => 0)] := hD_37
  have hS := hS_37
  clear hP_37 hD_37 hS_37
  refine lv_aload_n hx hb dX2_init_124 rfl (lv_at hl 0 rfl) ?_
  refine va_get (D := D) (ci := 2) (v := .ref q19) (C := RX2) (T := TX2) (N := 18) hx hb hg inGX2 hown hK hP 0 rfl rfl 10 (by decide) (hg _ q_1_93) (fun _ h9 => h9) (px_sn (by decide) (px_sn (by decide) (px_sn (by decide) (px_sn (by decide) (px_sn (by decide) (px_sn (by decide) (px_sn (by decide) (px_ss (px_sn (by decide) (px_sn (by decide) (px_sn (by decide) (px_sn (by decide) (px_sn (by decide) (px_sn (by decide) (px_sn (by decide) (px_sn (by decide) (px_sn (by decide) (px_sn (by decide) hg_10)))))))))))))))))) dX2_init_125 ?_
  refine lv_iconst (v := (-1)) hx hb dX2_init_128 (by decide) ?_
  have hPc_38 := hP.sub (ws' := [px_i q19 (y 1) 13 (fun _ => 0)]) [5] rfl
  have hDc_38 := hD.sub (ws' := [px_i q19 (y 1) 13 (fun _ => 0)]) [5] (by decide +kernel) rfl
  have hFc_38 := va_free (wc := [px_i q19 (y 1) 13 (fun _ => 0)]) hD hS hA [5] rfl
  refine va_callv (va_runS (As := [.ref q19, .int (-1)]) (rest := []) ⟨hx, hb, hml, hown, hg⟩ (c_fill_13 l D y H_37.size q19 (fun _ => 0) (-1) ) (va_cwS 2 hg (px_gS q_1_61 q_1_62 q_1_4 q_1_63) rfl rfl rfl (by decide +kernel) ⟨Nat.le_of_ble_eq_true rfl, Nat.le_of_ble_eq_true rfl⟩) (px_preS hK hPc_38 hDc_38) rfl rfl hl.1 rfl (lv_room (Nat.le_of_ble_eq_true rfl)) dX2_init_129 ⟨Nat.le_of_ble_eq_true rfl, Nat.le_of_ble_eq_true rfl⟩) hS (fun q _ h => hFc_38 q h) hFc_38 (fun u_38 t_38 H_38 locs_38 ht_38 hvm_38 hw_38 hB_38 hz_38 hk_38 hS_38 => ?_)
  refine W.cs (cells' := 12) (slots' := 313) rfl rfl ?_
  obtain ⟨hP1_38, hD1_38⟩ := hB_38
  rw [ht_38] at hP1_38
  obtain ⟨hP_38, hD_38⟩ := va_join (wr := [px_o g 2 ((((((((((((((((((fg.set 0 (.int 0)).set 1 (.int 0)).set 2 (.int 0)).set 3 (.int 0)).set 4 (.ref q5)).set 5 (.ref q8)).set 6 (.ref q11)).set 7 (.ref q14)).set 8 (.int 0)).set 9 (.int 0)).set 10 (.ref q19)).set 11 (.ref q22)).set 12 (.ref q25)).set 13 (.ref q28)).set 14 (.int (-1))).set 15 (.int 0)).set 16 (.int 0)).set 17 (.ref q34)), px_l q5 (y 2) 6 (fun _ => 0), px_i q8 (y 1) 78 (fun _ => 0), px_i q11 (y 1) 6 (fun _ => 0), px_i q14 (y 1) 52 (fun _ => 0), px_i q22 (y 1) 6 (fun _ => 0), px_i q25 (y 1) 6 (fun _ => 0), px_i q28 (y 1) 6 (fun _ => 0), px_o q34 3 [.ref (u_36.1 0), .ref (u_36.1 1), .int 0, .ref (u_36.1 2)], px_i (u_36.1 0) (y 1) 78 (fun _ => 0), px_i (u_36.1 1) (y 1) 52 (fun _ => 0), px_i (u_36.1 2) (y 1) 6 (fun _ => 0)]) (w1 := [px_i q19 (y 1) 13 (u_38.2.1 0)]) hP hD [5] [0, 1, 2, 3, 4, 6, 7, 8, 9, 10, 11, 12] rfl rfl (by decide +kernel) (by decide +kernel) hk_38 hFc_38 hP1_38 hD1_38
  clear hP hD hS hPc_38 hDc_38 hFc_38 hz_38 hk_38 hvm_38 ht_38 hP1_38 hD1_38
  have hP : va_P D vwCl [px_o g 2 ((((((((((((((((((fg.set 0 (.int 0)).set 1 (.int 0)).set 2 (.int 0)).set 3 (.int 0)).set 4 (.ref q5)).set 5 (.ref q8)).set 6 (.ref q11)).set 7 (.ref q14)).set 8 (.int 0)).set 9 (.int 0)).set 10 (.ref q19)).set 11 (.ref q22)).set 12 (.ref q25)).set 13 (.ref q28)).set 14 (.int (-1))).set 15 (.int 0)).set 16 (.int 0)).set 17 (.ref q34)), px_l q5 (y 2) 6 (fun _ => 0), px_i q8 (y 1) 78 (fun _ => 0), px_i q11 (y 1) 6 (fun _ => 0), px_i q14 (y 1) 52 (fun _ => 0), px_i q22 (y 1) 6 (fun _ => 0), px_i q25 (y 1) 6 (fun _ => 0), px_i q28 (y 1) 6 (fun _ => 0), px_o q34 3 [.ref (u_36.1 0), .ref (u_36.1 1), .int 0, .ref (u_36.1 2)], px_i (u_36.1 0) (y 1) 78 (fun _ => 0), px_i (u_36.1 1) (y 1) 52 (fun _ => 0), px_i (u_36.1 2) (y 1) 6 (fun _ => 0), px_i q19 (y 1) 13 (u_38.2.1 0)] H_38 := hP_38
  have hD : va_D A [px_o g 2 ((((((((((((((((((fg.set 0 (.int 0)).set 1 (.int 0)).set 2 (.int 0)).set 3 (.int 0)).set 4 (.ref q5)).set 5 (.ref q8)).set 6 (.ref q11)).set 7 (.ref q14)).set 8 (.int 0)).set 9 (.int 0)).set 10 (.ref q19)).set 11 (.ref q22)).set 12 (.ref q25)).set 13 (.ref q28)).set 14 (.int (-1))).set 15 (.int 0)).set 16 (.int 0)).set 17 (.ref q34)), px_l q5 (y 2) 6 (fun _ => 0), px_i q8 (y 1) 78 (fun _ => 0), px_i q11 (y 1) 6 (fun _ => 0), px_i q14 (y 1) 52 (fun _ => 0), px_i q22 (y 1) 6 (fun _ => 0), px_i q25 (y 1) 6 (fun _ => 0), px_i q28 (y 1) 6 (fun _ => 0), px_o q34 3 [.ref (u_36.1 0), .ref (u_36.1 1), .int 0, .ref (u_36.1 2)], px_i (u_36.1 0) (y 1) 78 (fun _ => 0), px_i (u_36.1 1) (y 1) 52 (fun _ => 0), px_i (u_36.1 2) (y 1) 6 (fun _ => 0), px_i q19 (y 1) 13 (u_38.2.1 0)] := hD_38
  have hS := hS_38
  clear hP_38 hD_38 hS_38
  refine lv_aload_n hx hb dX2_init_132 rfl (lv_at hl 0 rfl) ?_
  refine va_get (D := D) (ci := 2) (v := .ref q28) (C := RX2) (T := TX2) (N := 18) hx hb hg inGX2 hown hK hP 0 rfl rfl 13 (by decide) (hg _ q_1_100) (fun _ h9 => h9) (px_sn (by decide) (px_sn (by decide) (px_sn (by decide) (px_sn (by decide) (px_ss (px_sn (by decide) (px_sn (by decide) (px_sn (by decide) (px_sn (by decide) (px_sn (by decide) (px_sn (by decide) (px_sn (by decide) (px_sn (by decide) (px_sn (by decide) (px_sn (by decide) (px_sn (by decide) (px_sn (by decide) (px_sn (by decide) hg_13)))))))))))))))))) dX2_init_133 ?_
  refine lv_iconst (v := (-1)) hx hb dX2_init_136 (by decide) ?_
  have hPc_39 := hP.sub (ws' := [px_i q28 (y 1) 6 (fun _ => 0)]) [7] rfl
  have hDc_39 := hD.sub (ws' := [px_i q28 (y 1) 6 (fun _ => 0)]) [7] (by decide +kernel) rfl
  have hFc_39 := va_free (wc := [px_i q28 (y 1) 6 (fun _ => 0)]) hD hS hA [7] rfl
  refine va_callv (va_runS (As := [.ref q28, .int (-1)]) (rest := []) ⟨hx, hb, hml, hown, hg⟩ (c_fill_6 l D y H_38.size q28 (fun _ => 0) (-1) ) (va_cwS 2 hg (px_gS q_1_61 q_1_62 q_1_4 q_1_63) rfl rfl rfl (by decide +kernel) ⟨Nat.le_of_ble_eq_true rfl, Nat.le_of_ble_eq_true rfl⟩) (px_preS hK hPc_39 hDc_39) rfl rfl hl.1 rfl (lv_room (Nat.le_of_ble_eq_true rfl)) dX2_init_137 ⟨Nat.le_of_ble_eq_true rfl, Nat.le_of_ble_eq_true rfl⟩) hS (fun q _ h => hFc_39 q h) hFc_39 (fun u_39 t_39 H_39 locs_39 ht_39 hvm_39 hw_39 hB_39 hz_39 hk_39 hS_39 => ?_)
  refine W.cs (cells' := 12) (slots' := 313) rfl rfl ?_
  obtain ⟨hP1_39, hD1_39⟩ := hB_39
  rw [ht_39] at hP1_39
  obtain ⟨hP_39, hD_39⟩ := va_join (wr := [px_o g 2 ((((((((((((((((((fg.set 0 (.int 0)).set 1 (.int 0)).set 2 (.int 0)).set 3 (.int 0)).set 4 (.ref q5)).set 5 (.ref q8)).set 6 (.ref q11)).set 7 (.ref q14)).set 8 (.int 0)).set 9 (.int 0)).set 10 (.ref q19)).set 11 (.ref q22)).set 12 (.ref q25)).set 13 (.ref q28)).set 14 (.int (-1))).set 15 (.int 0)).set 16 (.int 0)).set 17 (.ref q34)), px_l q5 (y 2) 6 (fun _ => 0), px_i q8 (y 1) 78 (fun _ => 0), px_i q11 (y 1) 6 (fun _ => 0), px_i q14 (y 1) 52 (fun _ => 0), px_i q22 (y 1) 6 (fun _ => 0), px_i q25 (y 1) 6 (fun _ => 0), px_o q34 3 [.ref (u_36.1 0), .ref (u_36.1 1), .int 0, .ref (u_36.1 2)], px_i (u_36.1 0) (y 1) 78 (fun _ => 0), px_i (u_36.1 1) (y 1) 52 (fun _ => 0), px_i (u_36.1 2) (y 1) 6 (fun _ => 0), px_i q19 (y 1) 13 (u_38.2.1 0)]) (w1 := [px_i q28 (y 1) 6 (u_39.2.1 0)]) hP hD [7] [0, 1, 2, 3, 4, 5, 6, 8, 9, 10, 11, 12] rfl rfl (by decide +kernel) (by decide +kernel) hk_39 hFc_39 hP1_39 hD1_39
  clear hP hD hS hPc_39 hDc_39 hFc_39 hz_39 hk_39 hvm_39 ht_39 hP1_39 hD1_39
  have hP : va_P D vwCl [px_o g 2 ((((((((((((((((((fg.set 0 (.int 0)).set 1 (.int 0)).set 2 (.int 0)).set 3 (.int 0)).set 4 (.ref q5)).set 5 (.ref q8)).set 6 (.ref q11)).set 7 (.ref q14)).set 8 (.int 0)).set 9 (.int 0)).set 10 (.ref q19)).set 11 (.ref q22)).set 12 (.ref q25)).set 13 (.ref q28)).set 14 (.int (-1))).set 15 (.int 0)).set 16 (.int 0)).set 17 (.ref q34)), px_l q5 (y 2) 6 (fun _ => 0), px_i q8 (y 1) 78 (fun _ => 0), px_i q11 (y 1) 6 (fun _ => 0), px_i q14 (y 1) 52 (fun _ => 0), px_i q22 (y 1) 6 (fun _ => 0), px_i q25 (y 1) 6 (fun _ => 0), px_o q34 3 [.ref (u_36.1 0), .ref (u_36.1 1), .int 0, .ref (u_36.1 2)], px_i (u_36.1 0) (y 1) 78 (fun _ => 0), px_i (u_36.1 1) (y 1) 52 (fun _ => 0), px_i (u_36.1 2) (y 1) 6 (fun _ => 0), px_i q19 (y 1) 13 (u_38.2.1 0), px_i q28 (y 1) 6 (u_39.2.1 0)] H_39 := hP_39
  have hD : va_D A [px_o g 2 ((((((((((((((((((fg.set 0 (.int 0)).set 1 (.int 0)).set 2 (.int 0)).set 3 (.int 0)).set 4 (.ref q5)).set 5 (.ref q8)).set 6 (.ref q11)).set 7 (.ref q14)).set 8 (.int 0)).set 9 (.int 0)).set 10 (.ref q19)).set 11 (.ref q22)).set 12 (.ref q25)).set 13 (.ref q28)).set 14 (.int (-1))).set 15 (.int 0)).set 16 (.int 0)).set 17 (.ref q34)), px_l q5 (y 2) 6 (fun _ => 0), px_i q8 (y 1) 78 (fun _ => 0), px_i q11 (y 1) 6 (fun _ => 0), px_i q14 (y 1) 52 (fun _ => 0), px_i q22 (y 1) 6 (fun _ => 0), px_i q25 (y 1) 6 (fun _ => 0), px_o q34 3 [.ref (u_36.1 0), .ref (u_36.1 1), .int 0, .ref (u_36.1 2)], px_i (u_36.1 0) (y 1) 78 (fun _ => 0), px_i (u_36.1 1) (y 1) 52 (fun _ => 0), px_i (u_36.1 2) (y 1) 6 (fun _ => 0), px_i q19 (y 1) 13 (u_38.2.1 0), px_i q28 (y 1) 6 (u_39.2.1 0)] := hD_39
  have hS := hS_39
  clear hP_39 hD_39 hS_39
  have hP9 := hP.sub (ws' := [px_o g 2 ((((((((((((((((((fg.set 0 (.int 0)).set 1 (.int 0)).set 2 (.int 0)).set 3 (.int 0)).set 4 (.ref q5)).set 5 (.ref q8)).set 6 (.ref q11)).set 7 (.ref q14)).set 8 (.int 0)).set 9 (.int 0)).set 10 (.ref q19)).set 11 (.ref q22)).set 12 (.ref q25)).set 13 (.ref q28)).set 14 (.int (-1))).set 15 (.int 0)).set 16 (.int 0)).set 17 (.ref q34)), px_l q5 (y 2) 6 (fun _ => 0), px_i q8 (y 1) 78 (fun _ => 0), px_i q11 (y 1) 6 (fun _ => 0), px_i q14 (y 1) 52 (fun _ => 0), px_i q22 (y 1) 6 (fun _ => 0), px_i q25 (y 1) 6 (fun _ => 0), px_o q34 3 [.ref (u_36.1 0), .ref (u_36.1 1), .int 0, .ref (u_36.1 2)], px_i (u_36.1 0) (y 1) 78 (fun _ => 0), px_i (u_36.1 1) (y 1) 52 (fun _ => 0), px_i (u_36.1 2) (y 1) 6 (fun _ => 0), px_i q19 (y 1) 13 (u_38.2.1 0), px_i q28 (y 1) 6 (u_39.2.1 0)]) [0, 1, 2, 3, 4, 5, 6, 7, 8, 9, 10, 11, 12] rfl
  have hD9 := hD.sub (ws' := [px_o g 2 ((((((((((((((((((fg.set 0 (.int 0)).set 1 (.int 0)).set 2 (.int 0)).set 3 (.int 0)).set 4 (.ref q5)).set 5 (.ref q8)).set 6 (.ref q11)).set 7 (.ref q14)).set 8 (.int 0)).set 9 (.int 0)).set 10 (.ref q19)).set 11 (.ref q22)).set 12 (.ref q25)).set 13 (.ref q28)).set 14 (.int (-1))).set 15 (.int 0)).set 16 (.int 0)).set 17 (.ref q34)), px_l q5 (y 2) 6 (fun _ => 0), px_i q8 (y 1) 78 (fun _ => 0), px_i q11 (y 1) 6 (fun _ => 0), px_i q14 (y 1) 52 (fun _ => 0), px_i q22 (y 1) 6 (fun _ => 0), px_i q25 (y 1) 6 (fun _ => 0), px_o q34 3 [.ref (u_36.1 0), .ref (u_36.1 1), .int 0, .ref (u_36.1 2)], px_i (u_36.1 0) (y 1) 78 (fun _ => 0), px_i (u_36.1 1) (y 1) 52 (fun _ => 0), px_i (u_36.1 2) (y 1) 6 (fun _ => 0), px_i q19 (y 1) 13 (u_38.2.1 0), px_i q28 (y 1) 6 (u_39.2.1 0)]) [0, 1, 2, 3, 4, 5, 6, 7, 8, 9, 10, 11, 12] (by decide +kernel) rfl
  exact W.vret hx hb hr (fun t ht hW => ⟨⟨(px_v [q5, q8, q11, q14, q22, q25, q34, (u_36.1 0), (u_36.1 1), (u_36.1 2), q19, q28], px_vi [(u_38.2.1 0), (u_39.2.1 0)], px_vl []), rfl, ⟨hw_38, hw_39⟩, by rw [ht]; exact hP9, hD9⟩, hS.F ht⟩) hS.2.2 dX2_init_140
