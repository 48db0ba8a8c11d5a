/-! the words that the rows use, each by its place in the tables; printed by wip/p2/genx.py -/
theorem q_4_146 : Cond.methodLink RX0 3 objectInit ∈ gw := gw_4 146 (by decide +kernel) rfl
theorem q_4_7 : Cond.methodLink RX4 3 objectInit ∈ gw := gw_4 7 (by decide +kernel) rfl
theorem vgs_of {sh : xH} {σ : xS} (h : ∀ t i, xR32 (σ t i)) : xgs sh σ := ⟨fun t _ _ _ j _ _ => ⟨fun _ => h t j, fun _ => xR32L (h t j)⟩, fun t _ _ _ _ i _ => ⟨fun _ => xR32L (h t i), fun _ _ => h t i⟩⟩
theorem dX4_init_0 : decode cX4_init 0 = .ok (.aload_n 0, 1) := by decide +kernel
theorem dX4_init_1 : decode cX4_init 1 = .ok (.invokespecial 3, 3) := by decide +kernel
theorem dX4_init_4 : decode cX4_init 4 = .ok (.aload_n 0, 1) := by decide +kernel
theorem dX4_init_5 : decode cX4_init 5 = .ok (.bipush 12, 2) := by decide +kernel
theorem dX4_init_7 : decode cX4_init 7 = .ok (.newarray .int, 2) := by decide +kernel
theorem dX4_init_9 : decode cX4_init 9 = .ok (.putfield 11, 3) := by decide +kernel
theorem dX4_init_12 : decode cX4_init 12 = .ok (.aload_n 0, 1) := by decide +kernel
theorem dX4_init_13 : decode cX4_init 13 = .ok (.bipush 12, 2) := by decide +kernel
theorem dX4_init_15 : decode cX4_init 15 = .ok (.newarray .int, 2) := by decide +kernel
theorem dX4_init_17 : decode cX4_init 17 = .ok (.putfield 15, 3) := by decide +kernel
theorem dX4_init_20 : decode cX4_init 20 = .ok (.aload_n 0, 1) := by decide +kernel
theorem dX4_init_21 : decode cX4_init 21 = .ok (.iconst 0, 1) := by decide +kernel
theorem dX4_init_22 : decode cX4_init 22 = .ok (.putfield 18, 3) := by decide +kernel
theorem dX4_init_25 : decode cX4_init 25 = .ok (.aload_n 0, 1) := by decide +kernel
theorem dX4_init_26 : decode cX4_init 26 = .ok (.bipush 6, 2) := by decide +kernel
theorem dX4_init_28 : decode cX4_init 28 = .ok (.newarray .int, 2) := by decide +kernel
theorem dX4_init_30 : decode cX4_init 30 = .ok (.putfield 22, 3) := by decide +kernel
theorem dX4_init_33 : decode cX4_init 33 = .ok (.aload_n 0, 1) := by decide +kernel
theorem dX4_init_34 : decode cX4_init 34 = .ok (.bipush 6, 2) := by decide +kernel
theorem dX4_init_36 : decode cX4_init 36 = .ok (.newarray .int, 2) := by decide +kernel
theorem dX4_init_38 : decode cX4_init 38 = .ok (.putfield 25, 3) := by decide +kernel
theorem dX4_init_41 : decode cX4_init 41 = .ok (.aload_n 0, 1) := by decide +kernel
theorem dX4_init_42 : decode cX4_init 42 = .ok (.iconst 0, 1) := by decide +kernel
theorem dX4_init_43 : decode cX4_init 43 = .ok (.putfield 28, 3) := by decide +kernel
theorem dX4_init_46 : decode cX4_init 46 = .ok (.aload_n 0, 1) := by decide +kernel
theorem dX4_init_47 : decode cX4_init 47 = .ok (.bipush 6, 2) := by decide +kernel
theorem dX4_init_49 : decode cX4_init 49 = .ok (.newarray .int, 2) := by decide +kernel
theorem dX4_init_51 : decode cX4_init 51 = .ok (.putfield 31, 3) := by decide +kernel
theorem dX4_init_54 : decode cX4_init 54 = .ok (.aload_n 0, 1) := by decide +kernel
theorem dX4_init_55 : decode cX4_init 55 = .ok (.bipush 7, 2) := by decide +kernel
theorem dX4_init_57 : decode cX4_init 57 = .ok (.newarray .int, 2) := by decide +kernel
theorem dX4_init_59 : decode cX4_init 59 = .ok (.putfield 34, 3) := by decide +kernel
theorem dX4_init_62 : decode cX4_init 62 = .ok (.aload_n 0, 1) := by decide +kernel
theorem dX4_init_63 : decode cX4_init 63 = .ok (.sipush 15625, 3) := by decide +kernel
theorem dX4_init_66 : decode cX4_init 66 = .ok (.newarray .long, 2) := by decide +kernel
theorem dX4_init_68 : decode cX4_init 68 = .ok (.putfield 37, 3) := by decide +kernel
theorem dX4_init_71 : decode cX4_init 71 = .ok (.aload_n 0, 1) := by decide +kernel
theorem dX4_init_72 : decode cX4_init 72 = .ok (.lconst 0, 1) := by decide +kernel
theorem dX4_init_73 : decode cX4_init 73 = .ok (.putfield 41, 3) := by decide +kernel
theorem dX4_init_76 : decode cX4_init 76 = .ok (.return_, 1) := by decide +kernel
def fsX4 : List Value := [.null, .null, .int 0, .null, .null, .int 0, .null, .null, .null, .long 0]
theorem px_fsX4 : ∀ j, j < 10 → defaultValue (tyX4 j) = vp_V fsX4 j := by
  intro j hj
  match j, hj with
  | 0, _ => rfl
  | 1, _ => rfl
  | 2, _ => rfl
  | 3, _ => rfl
  | 4, _ => rfl
  | 5, _ => rfl
  | 6, _ => rfl
  | 7, _ => rfl
  | 8, _ => rfl
  | 9, _ => rfl
set_option maxHeartbeats 4000000 in
set_option maxRecDepth 100000 in
theorem ctX4 (l : Launch) (D : va_G) (y : Nat → ClassId) (sz g : Nat) : Met l yX4_init (px_w yX4_init cX4_init 1 none) { frames := 1, cells := 7, slots := 15674, locals := 12 } (va_Pc [.ref g] (fun U => px_P D y sz [px_o g 4 fsX4] U ∧ vX U)) (ctQ D y 4 fsX4 8 shO0 sz g) 7 15674 (va_A [px_o g 4 fsX4] sz) := by
  refine Met.ofW (cc := cX4_init) (maxL := 1) (ret := none) (by decide) rfl ?_
  intro p e s m args below meth c s₁ B hml hv
  obtain ⟨rfl, ⟨hsz, hP, hK, hD0⟩, hXX⟩ := hv
  have hx := B.exec
  have hb := B.bytes
  have hr := B.returns
  have hts := atoms_spec (ws := px_w yX4_init cX4_init 1 none) B.pre
  have hg : ∀ w ∈ gw, w.before [.ref g].toArray s = true := fun w h => hts w (List.mem_cons_of_mem _ h)
  have hown : s.vm.findClass RX4 = some m.cls := findClass_of_methodNamed B.named
  have hlocks := B.notSynchronized
  have hin : meth.name = "<init>" := (name_of_methodNamed B.named B.method).1
  subst hsz
  have hD := hD0.self (sz := s.heap.size)
  unfold ctQ
  generalize hAe : va_A [px_o g 4 fsX4] s.heap.size = A at hD ⊢
  have hA : ∀ q : Nat, s.heap.size ≤ q → A q := fun q h => by rw [← hAe]; exact Or.inr h
  have hS : va_S A s.heap s.heap [] := va_S.rf
  have hP : va_P D vwCl [px_o g 4 [.null, .null, .int 0, .null, .null, .int 0, .null, .null, .null, .long 0]] s.heap := hP
  have hD : va_D A [px_o g 4 [.null, .null, .int 0, .null, .null, .int 0, .null, .null, .null, .long 0]] := hD
  have hl := lv_entry ([.ref g]) (n := 1) (Nat.le_of_ble_eq_true rfl)
  rw [lg_entry_eq]
  generalize (lg_sl ([.ref g]) ++ List.replicate (1 - (lg_sl ([.ref g])).length) Slot.unset).toArray = ls at hl ⊢
  have hl : lv_has ls 1 [(0, .ref g)] := hl
  refine lv_aload_n hx hb dX4_init_0 rfl (lv_at hl 0 rfl) ?_
  refine W.objInit hx hb hown (hg _ q_4_7) (hg _ q_1_30) (hg _ q_1_31) rfl (by rw [hml]; exact hl.1) rfl dX4_init_1 (Nat.le_of_ble_eq_true rfl) (Nat.le_of_ble_eq_true rfl) ?_
  refine W.eq (g2 := F0 m 4 ls []) rfl ?_
  refine lv_aload_n hx hb dX4_init_4 rfl (lv_at hl 0 rfl) ?_
  refine lv_bipush (v := 12) hx hb dX4_init_5 (by decide) ?_
  refine px_newa (atype := .int) (ty := .int) hx hb (hg _ q_1_60) rfl hK hP hD hS hA 1 rfl (N' := 12) (a0 := (12, .inl (fun _ => 0))) (px_aint _) (by decide) (by decide) (by decide) (Nat.le_of_ble_eq_true rfl) (Nat.le_of_ble_eq_true rfl) dX4_init_7 (fun q1 H_1 hP_1 hD_1 hS_1 => ?_)
  clear hP hD hS
  have hP : va_P D vwCl [px_o g 4 [.null, .null, .int 0, .null, .null, .int 0, .null, .null, .null, .long 0], px_i q1 (y 1) 12 (fun _ => 0)] H_1 := hP_1
  have hD : va_D A [px_o g 4 [.null, .null, .int 0, .null, .null, .int 0, .null, .null, .null, .long 0], px_i q1 (y 1) 12 (fun _ => 0)] := hD_1
  have hS := hS_1
  clear hP_1 hD_1 hS_1
  refine W.cs (cells' := 1) (slots' := 12) rfl rfl ?_
  refine va_putF (D := D) (ci := 4) (v := .ref q1) (ty := (.array .int)) (C := RX4) (T := TX4) (N := 10) hx hb hg inGX4 tyX4 tyX4_ok nmX4 hown hK hP hD hS 0 rfl rfl 0 (by decide) (hg _ q_4_8) (fun _ h9 => h9) rfl hin rfl (by decide +kernel) rfl rfl (px_len (w := .null) rfl) dX4_init_9 (fun H_2 locs_2 hP_2 hD_2 hS_2 => ?_)
  clear hP hD hS
  have hP : va_P D vwCl [px_o g 4 [.ref q1, .null, .int 0, .null, .null, .int 0, .null, .null, .null, .long 0], px_i q1 (y 1) 12 (fun _ => 0)] H_2 := hP_2
  have hD : va_D A [px_o g 4 [.ref q1, .null, .int 0, .null, .null, .int 0, .null, .null, .null, .long 0], px_i q1 (y 1) 12 (fun _ => 0)] := hD_2
  have hS := hS_2
  clear hP_2 hD_2 hS_2
  refine lv_aload_n hx hb dX4_init_12 rfl (lv_at hl 0 rfl) ?_
  refine lv_bipush (v := 12) hx hb dX4_init_13 (by decide) ?_
  refine px_newa (atype := .int) (ty := .int) hx hb (hg _ q_1_60) rfl hK hP hD hS hA 1 rfl (N' := 12) (a0 := (12, .inl (fun _ => 0))) (px_aint _) (by decide) (by decide) (by decide) (Nat.le_of_ble_eq_true rfl) (Nat.le_of_ble_eq_true rfl) dX4_init_15 (fun q2 H_3 hP_3 hD_3 hS_3 => ?_)
  clear hP hD hS
  have hP : va_P D vwCl [px_o g 4 [.ref q1, .null, .int 0, .null, .null, .int 0, .null, .null, .null, .long 0], px_i q1 (y 1) 12 (fun _ => 0), px_i q2 (y 1) 12 (fun _ => 0)] H_3 := hP_3
  have hD : va_D A [px_o g 4 [.ref q1, .null, .int 0, .null, .null, .int 0, .null, .null, .null, .long 0], px_i q1 (y 1) 12 (fun _ => 0), px_i q2 (y 1) 12 (fun _ => 0)] := hD_3
  have hS := hS_3
  clear hP_3 hD_3 hS_3
  refine W.cs (cells' := 2) (slots' := 24) rfl rfl ?_
  refine va_putF (D := D) (ci := 4) (v := .ref q2) (ty := (.array .int)) (C := RX4) (T := TX4) (N := 10) hx hb hg inGX4 tyX4 tyX4_ok nmX4 hown hK hP hD hS 0 rfl rfl 1 (by decide) (hg _ q_4_9) (fun _ h9 => h9) rfl hin rfl (by decide +kernel) rfl rfl (px_len (w := .null) rfl) dX4_init_17 (fun H_4 locs_4 hP_4 hD_4 hS_4 => ?_)
  clear hP hD hS
  have hP : va_P D vwCl [px_o g 4 [.ref q1, .ref q2, .int 0, .null, .null, .int 0, .null, .null, .null, .long 0], px_i q1 (y 1) 12 (fun _ => 0), px_i q2 (y 1) 12 (fun _ => 0)] H_4 := hP_4
  have hD : va_D A [px_o g 4 [.ref q1, .ref q2, .int 0, .null, .null, .int 0, .null, .null, .null, .long 0], px_i q1 (y 1) 12 (fun _ => 0), px_i q2 (y 1) 12 (fun _ => 0)] := hD_4
  have hS := hS_4
  clear hP_4 hD_4 hS_4
  refine lv_aload_n hx hb dX4_init_20 rfl (lv_at hl 0 rfl) ?_
  refine lv_iconst (v := 0) hx hb dX4_init_21 (by decide) ?_
  refine va_put (D := D) (ci := 4) (v := .int 0) (ty := .int) (C := RX4) (T := TX4) (N := 10) hx hb hg inGX4 tyX4 tyX4_ok nmX4 hown hK hP hD hS 0 rfl rfl 2 (by decide) (hg _ q_4_10) (fun _ h9 => h9) rfl  (by decide +kernel) rfl rfl (px_len (w := .int 0) rfl) dX4_init_22 (fun H_5 locs_5 hP_5 hD_5 hS_5 => ?_)
  clear hP hD hS
  have hP : va_P D vwCl [px_o g 4 [.ref q1, .ref q2, .int 0, .null, .null, .int 0, .null, .null, .null, .long 0], px_i q1 (y 1) 12 (fun _ => 0), px_i q2 (y 1) 12 (fun _ => 0)] H_5 := hP_5
  have hD : va_D A [px_o g 4 [.ref q1, .ref q2, .int 0, .null, .null, .int 0, .null, .null, .null, .long 0], px_i q1 (y 1) 12 (fun _ => 0), px_i q2 (y 1) 12 (fun _ => 0)] := hD_5
  have hS := hS_5
  clear hP_5 hD_5 hS_5
  refine lv_aload_n hx hb dX4_init_25 rfl (lv_at hl 0 rfl) ?_
  refine lv_bipush (v := 6) hx hb dX4_init_26 (by decide) ?_
  refine px_newa (atype := .int) (ty := .int) hx hb (hg _ q_1_60) rfl hK hP hD hS hA 1 rfl (N' := 6) (a0 := (6, .inl (fun _ => 0))) (px_aint _) (by decide) (by decide) (by decide) (Nat.le_of_ble_eq_true rfl) (Nat.le_of_ble_eq_true rfl) dX4_init_28 (fun q3 H_6 hP_6 hD_6 hS_6 => ?_)
  clear hP hD hS
  have hP : va_P D vwCl [px_o g 4 [.ref q1, .ref q2, .int 0, .null, .null, .int 0, .null, .null, .null, .long 0], px_i q1 (y 1) 12 (fun _ => 0), px_i q2 (y 1) 12 (fun _ => 0), px_i q3 (y 1) 6 (fun _ => 0)] H_6 := hP_6
  have hD : va_D A [px_o g 4 [.ref q1, .ref q2, .int 0, .null, .null, .int 0, .null, .null, .null, .long 0], px_i q1 (y 1) 12 (fun _ => 0), px_i q2 (y 1) 12 (fun _ => 0), px_i q3 (y 1) 6 (fun _ => 0)] := hD_6
  have hS := hS_6
  clear hP_6 hD_6 hS_6
  refine W.cs (cells' := 3) (slots' := 30) rfl rfl ?_
  refine va_putF (D := D) (ci := 4) (v := .ref q3) (ty := (.array .int)) (C := RX4) (T := TX4) (N := 10) hx hb hg inGX4 tyX4 tyX4_ok nmX4 hown hK hP hD hS 0 rfl rfl 3 (by decide) (hg _ q_4_11) (fun _ h9 => h9) rfl hin rfl (by decide +kernel) rfl rfl (px_len (w := .null) rfl) dX4_init_30 (fun H_7 locs_7 hP_7 hD_7 hS_7 => ?_)
  clear hP hD hS
  have hP : va_P D vwCl [px_o g 4 [.ref q1, .ref q2, .int 0, .ref q3, .null, .int 0, .null, .null, .null, .long 0], px_i q1 (y 1) 12 (fun _ => 0), px_i q2 (y 1) 12 (fun _ => 0), px_i q3 (y 1) 6 (fun _ => 0)] H_7 := hP_7
  have hD : va_D A [px_o g 4 [.ref q1, .ref q2, .int 0, .ref q3, .null, .int 0, .null, .null, .null, .long 0], px_i q1 (y 1) 12 (fun _ => 0), px_i q2 (y 1) 12 (fun _ => 0), px_i q3 (y 1) 6 (fun _ => 0)] := hD_7
  have hS := hS_7
  clear hP_7 hD_7 hS_7
  refine lv_aload_n hx hb dX4_init_33 rfl (lv_at hl 0 rfl) ?_
  refine lv_bipush (v := 6) hx hb dX4_init_34 (by decide) ?_
  refine px_newa (atype := .int) (ty := .int) hx hb (hg _ q_1_60) rfl hK hP hD hS hA 1 rfl (N' := 6) (a0 := (6, .inl (fun _ => 0))) (px_aint _) (by decide) (by decide) (by decide) (Nat.le_of_ble_eq_true rfl) (Nat.le_of_ble_eq_true rfl) dX4_init_36 (fun q4 H_8 hP_8 hD_8 hS_8 => ?_)
  clear hP hD hS
  have hP : va_P D vwCl [px_o g 4 [.ref q1, .ref q2, .int 0, .ref q3, .null, .int 0, .null, .null, .null, .long 0], px_i q1 (y 1) 12 (fun _ => 0), px_i q2 (y 1) 12 (fun _ => 0), px_i q3 (y 1) 6 (fun _ => 0), px_i q4 (y 1) 6 (fun _ => 0)] H_8 := hP_8
  have hD : va_D A [px_o g 4 [.ref q1, .ref q2, .int 0, .ref q3, .null, .int 0, .null, .null, .null, .long 0], px_i q1 (y 1) 12 (fun _ => 0), px_i q2 (y 1) 12 (fun _ => 0), px_i q3 (y 1) 6 (fun _ => 0), px_i q4 (y 1) 6 (fun _ => 0)] := hD_8
  have hS := hS_8
  clear hP_8 hD_8 hS_8
  refine W.cs (cells' := 4) (slots' := 36) rfl rfl ?_
  refine va_putF (D := D) (ci := 4) (v := .ref q4) (ty := (.array .int)) (C := RX4) (T := TX4) (N := 10) hx hb hg inGX4 tyX4 tyX4_ok nmX4 hown hK hP hD hS 0 rfl rfl 4 (by decide) (hg _ q_4_12) (fun _ h9 => h9) rfl hin rfl (by decide +kernel) rfl rfl (px_len (w := .null) rfl) dX4_init_38 (fun H_9 locs_9 hP_9 hD_9 hS_9 => ?_)
  clear hP hD hS
  have hP : va_P D vwCl [px_o g 4 [.ref q1, .ref q2, .int 0, .ref q3, .ref q4, .int 0, .null, .null, .null, .long 0], px_i q1 (y 1) 12 (fun _ => 0), px_i q2 (y 1) 12 (fun _ => 0), px_i q3 (y 1) 6 (fun _ => 0), px_i q4 (y 1) 6 (fun _ => 0)] H_9 := hP_9
  have hD : va_D A [px_o g 4 [.ref q1, .ref q2, .int 0, .ref q3, .ref q4, .int 0, .null, .null, .null, .long 0], px_i q1 (y 1) 12 (fun _ => 0), px_i q2 (y 1) 12 (fun _ => 0), px_i q3 (y 1) 6 (fun _ => 0), px_i q4 (y 1) 6 (fun _ => 0)] := hD_9
  have hS := hS_9
  clear hP_9 hD_9 hS_9
  refine lv_aload_n hx hb dX4_init_41 rfl (lv_at hl 0 rfl) ?_
  refine lv_iconst (v := 0) hx hb dX4_init_42 (by decide) ?_
  refine va_put (D := D) (ci := 4) (v := .int 0) (ty := .int) (C := RX4) (T := TX4) (N := 10) hx hb hg inGX4 tyX4 tyX4_ok nmX4 hown hK hP hD hS 0 rfl rfl 5 (by decide) (hg _ q_4_13) (fun _ h9 => h9) rfl  (by decide +kernel) rfl rfl (px_len (w := .int 0) rfl) dX4_init_43 (fun H_10 locs_10 hP_10 hD_10 hS_10 => ?_)
  clear hP hD hS
  have hP : va_P D vwCl [px_o g 4 [.ref q1, .ref q2, .int 0, .ref q3, .ref q4, .int 0, .null, .null, .null, .long 0], px_i q1 (y 1) 12 (fun _ => 0), px_i q2 (y 1) 12 (fun _ => 0), px_i q3 (y 1) 6 (fun _ => 0), px_i q4 (y 1) 6 (fun _ => 0)] H_10 := hP_10
  have hD : va_D A [px_o g 4 [.ref q1, .ref q2, .int 0, .ref q3, .ref q4, .int 0, .null, .null, .null, .long 0], px_i q1 (y 1) 12 (fun _ => 0), px_i q2 (y 1) 12 (fun _ => 0), px_i q3 (y 1) 6 (fun _ => 0), px_i q4 (y 1) 6 (fun _ => 0)] := hD_10
  have hS := hS_10
  clear hP_10 hD_10 hS_10
  refine lv_aload_n hx hb dX4_init_46 rfl (lv_at hl 0 rfl) ?_
  refine lv_bipush (v := 6) hx hb dX4_init_47 (by decide) ?_
  refine px_newa (atype := .int) (ty := .int) hx hb (hg _ q_1_60) rfl hK hP hD hS hA 1 rfl (N' := 6) (a0 := (6, .inl (fun _ => 0))) (px_aint _) (by decide) (by decide) (by decide) (Nat.le_of_ble_eq_true rfl) (Nat.le_of_ble_eq_true rfl) dX4_init_49 (fun q5 H_11 hP_11 hD_11 hS_11 => ?_)
  clear hP hD hS
  have hP : va_P D vwCl [px_o g 4 [.ref q1, .ref q2, .int 0, .ref q3, .ref q4, .int 0, .null, .null, .null, .long 0], px_i q1 (y 1) 12 (fun _ => 0), px_i q2 (y 1) 12 (fun _ => 0), px_i q3 (y 1) 6 (fun _ => 0), px_i q4 (y 1) 6 (fun _ => 0), px_i q5 (y 1) 6 (fun _ => 0)] H_11 := hP_11
  have hD : va_D A [px_o g 4 [.ref q1, .ref q2, .int 0, .ref q3, .ref q4, .int 0, .null, .null, .null, .long 0], px_i q1 (y 1) 12 (fun _ => 0), px_i q2 (y 1) 12 (fun _ => 0), px_i q3 (y 1) 6 (fun _ => 0), px_i q4 (y 1) 6 (fun _ => 0), px_i q5 (y 1) 6 (fun _ => 0)] := hD_11
  have hS := hS_11
  clear hP_11 hD_11 hS_11
  refine W.cs (cells' := 5) (slots' := 42) rfl rfl ?_
  refine va_putF (D := D) (ci := 4) (v := .ref q5) (ty := (.array .int)) (C := RX4) (T := TX4) (N := 10) hx hb hg inGX4 tyX4 tyX4_ok nmX4 hown hK hP hD hS 0 rfl rfl 6 (by decide) (hg _ q_4_14) (fun _ h9 => h9) rfl hin rfl (by decide +kernel) rfl rfl (px_len (w := .null) rfl) dX4_init_51 (fun H_12 locs_12 hP_12 hD_12 hS_12 => ?_)
  clear hP hD hS
  have hP : va_P D vwCl [px_o g 4 [.ref q1, .ref q2, .int 0, .ref q3, .ref q4, .int 0, .ref q5, .null, .null, .long 0], px_i q1 (y 1) 12 (fun _ => 0), px_i q2 (y 1) 12 (fun _ => 0), px_i q3 (y 1) 6 (fun _ => 0), px_i q4 (y 1) 6 (fun _ => 0), px_i q5 (y 1) 6 (fun _ => 0)] H_12 := hP_12
  have hD : va_D A [px_o g 4 [.ref q1, .ref q2, .int 0, .ref q3, .ref q4, .int 0, .ref q5, .null, .null, .long 0], px_i q1 (y 1) 12 (fun _ => 0), px_i q2 (y 1) 12 (fun _ => 0), px_i q3 (y 1) 6 (fun _ => 0), px_i q4 (y 1) 6 (fun _ => 0), px_i q5 (y 1) 6 (fun _ => 0)] := hD_12
  have hS := hS_12
  clear hP_12 hD_12 hS_12
  refine lv_aload_n hx hb dX4_init_54 rfl (lv_at hl 0 rfl) ?_
  refine lv_bipush (v := 7) hx hb dX4_init_55 (by decide) ?_
  refine px_newa (atype := .int) (ty := .int) hx hb (hg _ q_1_60) rfl hK hP hD hS hA 1 rfl (N' := 7) (a0 := (7, .inl (fun _ => 0))) (px_aint _) (by decide) (by decide) (by decide) (Nat.le_of_ble_eq_true rfl) (Nat.le_of_ble_eq_true rfl) dX4_init_57 (fun q6 H_13 hP_13 hD_13 hS_13 => ?_)
  clear hP hD hS
  have hP : va_P D vwCl [px_o g 4 [.ref q1, .ref q2, .int 0, .ref q3, .ref q4, .int 0, .ref q5, .null, .null, .long 0], px_i q1 (y 1) 12 (fun _ => 0), px_i q2 (y 1) 12 (fun _ => 0), px_i q3 (y 1) 6 (fun _ => 0), px_i q4 (y 1) 6 (fun _ => 0), px_i q5 (y 1) 6 (fun _ => 0), px_i q6 (y 1) 7 (fun _ => 0)] H_13 := hP_13
  have hD : va_D A [px_o g 4 [.ref q1, .ref q2, .int 0, .ref q3, .ref q4, .int 0, .ref q5, .null, .null, .long 0], px_i q1 (y 1) 12 (fun _ => 0), px_i q2 (y 1) 12 (fun _ => 0), px_i q3 (y 1) 6 (fun _ => 0), px_i q4 (y 1) 6 (fun _ => 0), px_i q5 (y 1) 6 (fun _ => 0), px_i q6 (y 1) 7 (fun _ => 0)] := hD_13
  have hS := hS_13
  clear hP_13 hD_13 hS_13
  refine W.cs (cells' := 6) (slots' := 49) rfl rfl ?_
  refine va_putF (D := D) (ci := 4) (v := .ref q6) (ty := (.array .int)) (C := RX4) (T := TX4) (N := 10) hx hb hg inGX4 tyX4 tyX4_ok nmX4 hown hK hP hD hS 0 rfl rfl 7 (by decide) (hg _ q_4_15) (fun _ h9 => h9) rfl hin rfl (by decide +kernel) rfl rfl (px_len (w := .null) rfl) dX4_init_59 (fun H_14 locs_14 hP_14 hD_14 hS_14 => ?_)
  clear hP hD hS
  have hP : va_P D vwCl [px_o g 4 [.ref q1, .ref q2, .int 0, .ref q3, .ref q4, .int 0, .ref q5, .ref q6, .null, .long 0], px_i q1 (y 1) 12 (fun _ => 0), px_i q2 (y 1) 12 (fun _ => 0), px_i q3 (y 1) 6 (fun _ => 0), px_i q4 (y 1) 6 (fun _ => 0), px_i q5 (y 1) 6 (fun _ => 0), px_i q6 (y 1) 7 (fun _ => 0)] H_14 := hP_14
  have hD : va_D A [px_o g 4 [.ref q1, .ref q2, .int 0, .ref q3, .ref q4, .int 0, .ref q5, .ref q6, .null, .long 0], px_i q1 (y 1) 12 (fun _ => 0), px_i q2 (y 1) 12 (fun _ => 0), px_i q3 (y 1) 6 (fun _ => 0), px_i q4 (y 1) 6 (fun _ => 0), px_i q5 (y 1) 6 (fun _ => 0), px_i q6 (y 1) 7 (fun _ => 0)] := hD_14
  have hS := hS_14
  clear hP_14 hD_14 hS_14
  refine lv_aload_n hx hb dX4_init_62 rfl (lv_at hl 0 rfl) ?_
  refine lv_sipush (v := 15625) hx hb dX4_init_63 (by decide) ?_
  refine px_newa (atype := .long) (ty := .long) hx hb (hg _ q_1_59) rfl hK hP hD hS hA 2 rfl (N' := 15625) (a0 := (15625, .inr (.inl (fun _ => 0)))) (px_along _) (by decide) (by decide) (by decide) (Nat.le_of_ble_eq_true rfl) (Nat.le_of_ble_eq_true rfl) dX4_init_66 (fun q7 H_15 hP_15 hD_15 hS_15 => ?_)
  clear hP hD hS
  have hP : va_P D vwCl [px_o g 4 [.ref q1, .ref q2, .int 0, .ref q3, .ref q4, .int 0, .ref q5, .ref q6, .null, .long 0], px_i q1 (y 1) 12 (fun _ => 0), px_i q2 (y 1) 12 (fun _ => 0), px_i q3 (y 1) 6 (fun _ => 0), px_i q4 (y 1) 6 (fun _ => 0), px_i q5 (y 1) 6 (fun _ => 0), px_i q6 (y 1) 7 (fun _ => 0), px_l q7 (y 2) 15625 (fun _ => 0)] H_15 := hP_15
  have hD : va_D A [px_o g 4 [.ref q1, .ref q2, .int 0, .ref q3, .ref q4, .int 0, .ref q5, .ref q6, .null, .long 0], px_i q1 (y 1) 12 (fun _ => 0), px_i q2 (y 1) 12 (fun _ => 0), px_i q3 (y 1) 6 (fun _ => 0), px_i q4 (y 1) 6 (fun _ => 0), px_i q5 (y 1) 6 (fun _ => 0), px_i q6 (y 1) 7 (fun _ => 0), px_l q7 (y 2) 15625 (fun _ => 0)] := hD_15
  have hS := hS_15
  clear hP_15 hD_15 hS_15
  refine W.cs (cells' := 7) (slots' := 15674) rfl rfl ?_
  refine va_putF (D := D) (ci := 4) (v := .ref q7) (ty := (.array .long)) (C := RX4) (T := TX4) (N := 10) hx hb hg inGX4 tyX4 tyX4_ok nmX4 hown hK hP hD hS 0 rfl rfl 8 (by decide) (hg _ q_4_16) (fun _ h9 => h9) rfl hin rfl (by decide +kernel) rfl rfl (px_len (w := .null) rfl) dX4_init_68 (fun H_16 locs_16 hP_16 hD_16 hS_16 => ?_)
  clear hP hD hS
  have hP : va_P D vwCl [px_o g 4 [.ref q1, .ref q2, .int 0, .ref q3, .ref q4, .int 0, .ref q5, .ref q6, .ref q7, .long 0], px_i q1 (y 1) 12 (fun _ => 0), px_i q2 (y 1) 12 (fun _ => 0), px_i q3 (y 1) 6 (fun _ => 0), px_i q4 (y 1) 6 (fun _ => 0), px_i q5 (y 1) 6 (fun _ => 0), px_i q6 (y 1) 7 (fun _ => 0), px_l q7 (y 2) 15625 (fun _ => 0)] H_16 := hP_16
  have hD : va_D A [px_o g 4 [.ref q1, .ref q2, .int 0, .ref q3, .ref q4, .int 0, .ref q5, .ref q6, .ref q7, .long 0], px_i q1 (y 1) 12 (fun _ => 0), px_i q2 (y 1) 12 (fun _ => 0), px_i q3 (y 1) 6 (fun _ => 0), px_i q4 (y 1) 6 (fun _ => 0), px_i q5 (y 1) 6 (fun _ => 0), px_i q6 (y 1) 7 (fun _ => 0), px_l q7 (y 2) 15625 (fun _ => 0)] := hD_16
  have hS := hS_16
  clear hP_16 hD_16 hS_16
  refine lv_aload_n hx hb dX4_init_71 rfl (lv_at hl 0 rfl) ?_
  refine lv_lconst (v := 0) hx hb dX4_init_72 (by decide) ?_
  refine va_put (D := D) (ci := 4) (v := .long 0) (ty := .long) (C := RX4) (T := TX4) (N := 10) hx hb hg inGX4 tyX4 tyX4_ok nmX4 hown hK hP hD hS 0 rfl rfl 9 (by decide) (hg _ q_4_17) (fun _ h9 => h9) rfl  (by decide +kernel) rfl rfl (px_len (w := .long 0) rfl) dX4_init_73 (fun H_17 locs_17 hP_17 hD_17 hS_17 => ?_)
  clear hP hD hS
  have hP : va_P D vwCl [px_o g 4 [.ref q1, .ref q2, .int 0, .ref q3, .ref q4, .int 0, .ref q5, .ref q6, .ref q7, .long 0], px_i q1 (y 1) 12 (fun _ => 0), px_i q2 (y 1) 12 (fun _ => 0), px_i q3 (y 1) 6 (fun _ => 0), px_i q4 (y 1) 6 (fun _ => 0), px_i q5 (y 1) 6 (fun _ => 0), px_i q6 (y 1) 7 (fun _ => 0), px_l q7 (y 2) 15625 (fun _ => 0)] H_17 := hP_17
  have hD : va_D A [px_o g 4 [.ref q1, .ref q2, .int 0, .ref q3, .ref q4, .int 0, .ref q5, .ref q6, .ref q7, .long 0], px_i q1 (y 1) 12 (fun _ => 0), px_i q2 (y 1) 12 (fun _ => 0), px_i q3 (y 1) 6 (fun _ => 0), px_i q4 (y 1) 6 (fun _ => 0), px_i q5 (y 1) 6 (fun _ => 0), px_i q6 (y 1) 7 (fun _ => 0), px_l q7 (y 2) 15625 (fun _ => 0)] := hD_17
  have hS := hS_17
  clear hP_17 hD_17 hS_17
  have hP9 := hP.sub (ws' := (xws (px_v [g, q1, q2, q3, q4, q5, q6, q7]) y (fun _ _ => none) 8 shO0 (fun _ _ => 0))) [0, 1, 2, 3, 4, 5, 6, 7] rfl
  have hD9 := hD.sub (ws' := (xws (px_v [g, q1, q2, q3, q4, q5, q6, q7]) y (fun _ _ => none) 8 shO0 (fun _ _ => 0))) [0, 1, 2, 3, 4, 5, 6, 7] (by decide +kernel) rfl
  exact W.vret hx hb hr (fun t ht hW => ⟨⟨px_v [g, q1, q2, q3, q4, q5, q6, q7], fun _ _ => 0, rfl, rfl, vgs_of (fun t i => by first | exact ⟨by decide, by decide⟩ | (show xR32 (if _ then _ else _); split <;> exact ⟨by decide, by decide⟩)), by rw [ht]; exact hP9, hD9⟩, hS.F ht⟩) hS.2.2 dX4_init_76
theorem dX0_init_0 : decode cX0_init 0 = .ok (.aload_n 0, 1) := by decide +kernel
theorem dX0_init_1 : decode cX0_init 1 = .ok (.invokespecial 3, 3) := by decide +kernel
theorem dX0_init_4 : decode cX0_init 4 = .ok (.aload_n 0, 1) := by decide +kernel
theorem dX0_init_5 : decode cX0_init 5 = .ok (.sipush 2500, 3) := by decide +kernel
theorem dX0_init_8 : decode cX0_init 8 = .ok (.newarray .int, 2) := by decide +kernel
theorem dX0_init_10 : decode cX0_init 10 = .ok (.putfield 11, 3) := by decide +kernel
theorem dX0_init_13 : decode cX0_init 13 = .ok (.aload_n 0, 1) := by decide +kernel
theorem dX0_init_14 : decode cX0_init 14 = .ok (.iconst 3, 1) := by decide +kernel
theorem dX0_init_15 : decode cX0_init 15 = .ok (.newarray .int, 2) := by decide +kernel
theorem dX0_init_17 : decode cX0_init 17 = .ok (.putfield 15, 3) := by decide +kernel
theorem dX0_init_20 : decode cX0_init 20 = .ok (.aload_n 0, 1) := by decide +kernel
theorem dX0_init_21 : decode cX0_init 21 = .ok (.iconst 4, 1) := by decide +kernel
theorem dX0_init_22 : decode cX0_init 22 = .ok (.newarray .int, 2) := by decide +kernel
theorem dX0_init_24 : decode cX0_init 24 = .ok (.putfield 18, 3) := by decide +kernel
theorem dX0_init_27 : decode cX0_init 27 = .ok (.aload_n 0, 1) := by decide +kernel
theorem dX0_init_28 : decode cX0_init 28 = .ok (.iconst 0, 1) := by decide +kernel
theorem dX0_init_29 : decode cX0_init 29 = .ok (.putfield 21, 3) := by decide +kernel
theorem dX0_init_32 : decode cX0_init 32 = .ok (.aload_n 0, 1) := by decide +kernel
theorem dX0_init_33 : decode cX0_init 33 = .ok (.iconst 0, 1) := by decide +kernel
theorem dX0_init_34 : decode cX0_init 34 = .ok (.putfield 25, 3) := by decide +kernel
theorem dX0_init_37 : decode cX0_init 37 = .ok (.aload_n 0, 1) := by decide +kernel
theorem dX0_init_38 : decode cX0_init 38 = .ok (.iconst 0, 1) := by decide +kernel
theorem dX0_init_39 : decode cX0_init 39 = .ok (.putfield 28, 3) := by decide +kernel
theorem dX0_init_42 : decode cX0_init 42 = .ok (.aload_n 0, 1) := by decide +kernel
theorem dX0_init_43 : decode cX0_init 43 = .ok (.iconst 0, 1) := by decide +kernel
theorem dX0_init_44 : decode cX0_init 44 = .ok (.putfield 32, 3) := by decide +kernel
theorem dX0_init_47 : decode cX0_init 47 = .ok (.aload_n 0, 1) := by decide +kernel
theorem dX0_init_48 : decode cX0_init 48 = .ok (.bipush 6, 2) := by decide +kernel
theorem dX0_init_50 : decode cX0_init 50 = .ok (.newarray .int, 2) := by decide +kernel
theorem dX0_init_52 : decode cX0_init 52 = .ok (.putfield 35, 3) := by decide +kernel
theorem dX0_init_55 : decode cX0_init 55 = .ok (.aload_n 0, 1) := by decide +kernel
theorem dX0_init_56 : decode cX0_init 56 = .ok (.iconst 0, 1) := by decide +kernel
theorem dX0_init_57 : decode cX0_init 57 = .ok (.putfield 38, 3) := by decide +kernel
theorem dX0_init_60 : decode cX0_init 60 = .ok (.aload_n 0, 1) := by decide +kernel
theorem dX0_init_61 : decode cX0_init 61 = .ok (.iconst 0, 1) := by decide +kernel
theorem dX0_init_62 : decode cX0_init 62 = .ok (.putfield 41, 3) := by decide +kernel
theorem dX0_init_65 : decode cX0_init 65 = .ok (.aload_n 0, 1) := by decide +kernel
theorem dX0_init_66 : decode cX0_init 66 = .ok (.iconst 0, 1) := by decide +kernel
theorem dX0_init_67 : decode cX0_init 67 = .ok (.putfield 44, 3) := by decide +kernel
theorem dX0_init_70 : decode cX0_init 70 = .ok (.aload_n 0, 1) := by decide +kernel
theorem dX0_init_71 : decode cX0_init 71 = .ok (.iconst 0, 1) := by decide +kernel
theorem dX0_init_72 : decode cX0_init 72 = .ok (.putfield 47, 3) := by decide +kernel
theorem dX0_init_75 : decode cX0_init 75 = .ok (.aload_n 0, 1) := by decide +kernel
theorem dX0_init_76 : decode cX0_init 76 = .ok (.iconst (-1), 1) := by decide +kernel
theorem dX0_init_77 : decode cX0_init 77 = .ok (.putfield 50, 3) := by decide +kernel
theorem dX0_init_80 : decode cX0_init 80 = .ok (.return_, 1) := by decide +kernel
def fsX0 : List Value := [.null, .null, .null, .int 0, .int 0, .int 0, .int 0, .null, .int 0, .int 0, .int 0, .int 0, .int 0]
theorem px_fsX0 : ∀ j, j < 13 → defaultValue (tyX0 j) = vp_V fsX0 j := by
  intro j hj
  match j, hj with
  | 0, _ => rfl
  | 1, _ => rfl
  | 2, _ => rfl
  | 3, _ => rfl
  | 4, _ => rfl
  | 5, _ => rfl
  | 6, _ => rfl
  | 7, _ => rfl
  | 8, _ => rfl
  | 9, _ => rfl
  | 10, _ => rfl
  | 11, _ => rfl
  | 12, _ => rfl
set_option maxHeartbeats 4000000 in
set_option maxRecDepth 100000 in
theorem ctX0 (l : Launch) (D : va_G) (y : Nat → ClassId) (sz g : Nat) : Met l yX0_init (px_w yX0_init cX0_init 1 none) { frames := 1, cells := 4, slots := 2513, locals := 12 } (va_Pc [.ref g] (fun U => px_P D y sz [px_o g 0 fsX0] U ∧ vX U)) (ctQ D y 0 fsX0 5 shU0 sz g) 4 2513 (va_A [px_o g 0 fsX0] sz) := by
  refine Met.ofW (cc := cX0_init) (maxL := 1) (ret := none) (by decide) rfl ?_
  intro p e s m args below meth c s₁ B hml hv
  obtain ⟨rfl, ⟨hsz, hP, hK, hD0⟩, hXX⟩ := hv
  have hx := B.exec
  have hb := B.bytes
  have hr := B.returns
  have hts := atoms_spec (ws := px_w yX0_init cX0_init 1 none) B.pre
  have hg : ∀ w ∈ gw, w.before [.ref g].toArray s = true := fun w h => hts w (List.mem_cons_of_mem _ h)
  have hown : s.vm.findClass RX0 = some m.cls := findClass_of_methodNamed B.named
  have hlocks := B.notSynchronized
  have hin : meth.name = "<init>" := (name_of_methodNamed B.named B.method).1
  subst hsz
  have hD := hD0.self (sz := s.heap.size)
  unfold ctQ
  generalize hAe : va_A [px_o g 0 fsX0] s.heap.size = A at hD ⊢
  have hA : ∀ q : Nat, s.heap.size ≤ q → A q := fun q h => by rw [← hAe]; exact Or.inr h
  have hS : va_S A s.heap s.heap [] := va_S.rf
  have hP : va_P D vwCl [px_o g 0 [.null, .null, .null, .int 0, .int 0, .int 0, .int 0, .null, .int 0, .int 0, .int 0, .int 0, .int 0]] s.heap := hP
  have hD : va_D A [px_o g 0 [.null, .null, .null, .int 0, .int 0, .int 0, .int 0, .null, .int 0, .int 0, .int 0, .int 0, .int 0]] := hD
  have hl := lv_entry ([.ref g]) (n := 1) (Nat.le_of_ble_eq_true rfl)
  rw [lg_entry_eq]
  generalize (lg_sl ([.ref g]) ++ List.replicate (1 - (lg_sl ([.ref g])).length) Slot.unset).toArray = ls at hl ⊢
  have hl : lv_has ls 1 [(0, .ref g)] := hl
  refine lv_aload_n hx hb dX0_init_0 rfl (lv_at hl 0 rfl) ?_
  refine W.objInit hx hb hown (hg _ q_4_146) (hg _ q_1_30) (hg _ q_1_31) rfl (by rw [hml]; exact hl.1) rfl dX0_init_1 (Nat.le_of_ble_eq_true rfl) (Nat.le_of_ble_eq_true rfl) ?_
  refine W.eq (g2 := F0 m 4 ls []) rfl ?_
  refine lv_aload_n hx hb dX0_init_4 rfl (lv_at hl 0 rfl) ?_
  refine lv_sipush (v := 2500) hx hb dX0_init_5 (by decide) ?_
  refine px_newa (atype := .int) (ty := .int) hx hb (hg _ q_1_60) rfl hK hP hD hS hA 1 rfl (N' := 2500) (a0 := (2500, .inl (fun _ => 0))) (px_aint _) (by decide) (by decide) (by decide) (Nat.le_of_ble_eq_true rfl) (Nat.le_of_ble_eq_true rfl) dX0_init_8 (fun q1 H_1 hP_1 hD_1 hS_1 => ?_)
  clear hP hD hS
  have hP : va_P D vwCl [px_o g 0 [.null, .null, .null, .int 0, .int 0, .int 0, .int 0, .null, .int 0, .int 0, .int 0, .int 0, .int 0], px_i q1 (y 1) 2500 (fun _ => 0)] H_1 := hP_1
  have hD : va_D A [px_o g 0 [.null, .null, .null, .int 0, .int 0, .int 0, .int 0, .null, .int 0, .int 0, .int 0, .int 0, .int 0], px_i q1 (y 1) 2500 (fun _ => 0)] := hD_1
  have hS := hS_1
  clear hP_1 hD_1 hS_1
  refine W.cs (cells' := 1) (slots' := 2500) rfl rfl ?_
  refine va_putF (D := D) (ci := 0) (v := .ref q1) (ty := (.array .int)) (C := RX0) (T := TX0) (N := 13) hx hb hg inGX0 tyX0 tyX0_ok nmX0 hown hK hP hD hS 0 rfl rfl 0 (by decide) (hg _ q_4_147) (fun _ h9 => h9) rfl hin rfl (by decide +kernel) rfl rfl (px_len (w := .null) rfl) dX0_init_10 (fun H_2 locs_2 hP_2 hD_2 hS_2 => ?_)
  clear hP hD hS
  have hP : va_P D vwCl [px_o g 0 [.ref q1, .null, .null, .int 0, .int 0, .int 0, .int 0, .null, .int 0, .int 0, .int 0, .int 0, .int 0], px_i q1 (y 1) 2500 (fun _ => 0)] H_2 := hP_2
  have hD : va_D A [px_o g 0 [.ref q1, .null, .null, .int 0, .int 0, .int 0, .int 0, .null, .int 0, .int 0, .int 0, .int 0, .int 0], px_i q1 (y 1) 2500 (fun _ => 0)] := hD_2
  have hS := hS_2
  clear hP_2 hD_2 hS_2
  refine lv_aload_n hx hb dX0_init_13 rfl (lv_at hl 0 rfl) ?_
  refine lv_iconst (v := 3) hx hb dX0_init_14 (by decide) ?_
  refine px_newa (atype := .int) (ty := .int) hx hb (hg _ q_1_60) rfl hK hP hD hS hA 1 rfl (N' := 3) (a0 := (3, .inl (fun _ => 0))) (px_aint _) (by decide) (by decide) (by decide) (Nat.le_of_ble_eq_true rfl) (Nat.le_of_ble_eq_true rfl) dX0_init_15 (fun q2 H_3 hP_3 hD_3 hS_3 => ?_)
  clear hP hD hS
  have hP : va_P D vwCl [px_o g 0 [.ref q1, .null, .null, .int 0, .int 0, .int 0, .int 0, .null, .int 0, .int 0, .int 0, .int 0, .int 0], px_i q1 (y 1) 2500 (fun _ => 0), px_i q2 (y 1) 3 (fun _ => 0)] H_3 := hP_3
  have hD : va_D A [px_o g 0 [.ref q1, .null, .null, .int 0, .int 0, .int 0, .int 0, .null, .int 0, .int 0, .int 0, .int 0, .int 0], px_i q1 (y 1) 2500 (fun _ => 0), px_i q2 (y 1) 3 (fun _ => 0)] := hD_3
  have hS := hS_3
  clear hP_3 hD_3 hS_3
  refine W.cs (cells' := 2) (slots' := 2503) rfl rfl ?_
  refine va_putF (D := D) (ci := 0) (v := .ref q2) (ty := (.array .int)) (C := RX0) (T := TX0) (N := 13) hx hb hg inGX0 tyX0 tyX0_ok nmX0 hown hK hP hD hS 0 rfl rfl 1 (by decide) (hg _ q_4_148) (fun _ h9 => h9) rfl hin rfl (by decide +kernel) rfl rfl (px_len (w := .null) rfl) dX0_init_17 (fun H_4 locs_4 hP_4 hD_4 hS_4 => ?_)
  clear hP hD hS
  have hP : va_P D vwCl [px_o g 0 [.ref q1, .ref q2, .null, .int 0, .int 0, .int 0, .int 0, .null, .int 0, .int 0, .int 0, .int 0, .int 0], px_i q1 (y 1) 2500 (fun _ => 0), px_i q2 (y 1) 3 (fun _ => 0)] H_4 := hP_4
  have hD : va_D A [px_o g 0 [.ref q1, .ref q2, .null, .int 0, .int 0, .int 0, .int 0, .null, .int 0, .int 0, .int 0, .int 0, .int 0], px_i q1 (y 1) 2500 (fun _ => 0), px_i q2 (y 1) 3 (fun _ => 0)] := hD_4
  have hS := hS_4
  clear hP_4 hD_4 hS_4
  refine lv_aload_n hx hb dX0_init_20 rfl (lv_at hl 0 rfl) ?_
  refine lv_iconst (v := 4) hx hb dX0_init_21 (by decide) ?_
  refine px_newa (atype := .int) (ty := .int) hx hb (hg _ q_1_60) rfl hK hP hD hS hA 1 rfl (N' := 4) (a0 := (4, .inl (fun _ => 0))) (px_aint _) (by decide) (by decide) (by decide) (Nat.le_of_ble_eq_true rfl) (Nat.le_of_ble_eq_true rfl) dX0_init_22 (fun q3 H_5 hP_5 hD_5 hS_5 => ?_)
  clear hP hD hS
  have hP : va_P D vwCl [px_o g 0 [.ref q1, .ref q2, .null, .int 0, .int 0, .int 0, .int 0, .null, .int 0, .int 0, .int 0, .int 0, .int 0], px_i q1 (y 1) 2500 (fun _ => 0), px_i q2 (y 1) 3 (fun _ => 0), px_i q3 (y 1) 4 (fun _ => 0)] H_5 := hP_5
  have hD : va_D A [px_o g 0 [.ref q1, .ref q2, .null, .int 0, .int 0, .int 0, .int 0, .null, .int 0, .int 0, .int 0, .int 0, .int 0], px_i q1 (y 1) 2500 (fun _ => 0), px_i q2 (y 1) 3 (fun _ => 0), px_i q3 (y 1) 4 (fun _ => 0)] := hD_5
  have hS := hS_5
  clear hP_5 hD_5 hS_5
  refine W.cs (cells' := 3) (slots' := 2507) rfl rfl ?_
  refine va_putF (D := D) (ci := 0) (v := .ref q3) (ty := (.array .int)) (C := RX0) (T := TX0) (N := 13) hx hb hg inGX0 tyX0 tyX0_ok nmX0 hown hK hP hD hS 0 rfl rfl 2 (by decide) (hg _ q_4_149) (fun _ h9 => h9) rfl hin rfl (by decide +kernel) rfl rfl (px_len (w := .null) rfl) dX0_init_24 (fun H_6 locs_6 hP_6 hD_6 hS_6 => ?_)
  clear hP hD hS
  have hP : va_P D vwCl [px_o g 0 [.ref q1, .ref q2, .ref q3, .int 0, .int 0, .int 0, .int 0, .null, .int 0, .int 0, .int 0, .int 0, .int 0], px_i q1 (y 1) 2500 (fun _ => 0), px_i q2 (y 1) 3 (fun _ => 0), px_i q3 (y 1) 4 (fun _ => 0)] H_6 := hP_6
  have hD : va_D A [px_o g 0 [.ref q1, .ref q2, .ref q3, .int 0, .int 0, .int 0, .int 0, .null, .int 0, .int 0, .int 0, .int 0, .int 0], px_i q1 (y 1) 2500 (fun _ => 0), px_i q2 (y 1) 3 (fun _ => 0), px_i q3 (y 1) 4 (fun _ => 0)] := hD_6
  have hS := hS_6
  clear hP_6 hD_6 hS_6
  refine lv_aload_n hx hb dX0_init_27 rfl (lv_at hl 0 rfl) ?_
  refine lv_iconst (v := 0) hx hb dX0_init_28 (by decide) ?_
  refine va_put (D := D) (ci := 0) (v := .int 0) (ty := .int) (C := RX0) (T := TX0) (N := 13) hx hb hg inGX0 tyX0 tyX0_ok nmX0 hown hK hP hD hS 0 rfl rfl 3 (by decide) (hg _ q_4_150) (fun _ h9 => h9) rfl  (by decide +kernel) rfl rfl (px_len (w := .int 0) rfl) dX0_init_29 (fun H_7 locs_7 hP_7 hD_7 hS_7 => ?_)
  clear hP hD hS
  have hP : va_P D vwCl [px_o g 0 [.ref q1, .ref q2, .ref q3, .int 0, .int 0, .int 0, .int 0, .null, .int 0, .int 0, .int 0, .int 0, .int 0], px_i q1 (y 1) 2500 (fun _ => 0), px_i q2 (y 1) 3 (fun _ => 0), px_i q3 (y 1) 4 (fun _ => 0)] H_7 := hP_7
  have hD : va_D A [px_o g 0 [.ref q1, .ref q2, .ref q3, .int 0, .int 0, .int 0, .int 0, .null, .int 0, .int 0, .int 0, .int 0, .int 0], px_i q1 (y 1) 2500 (fun _ => 0), px_i q2 (y 1) 3 (fun _ => 0), px_i q3 (y 1) 4 (fun _ => 0)] := hD_7
  have hS := hS_7
  clear hP_7 hD_7 hS_7
  refine lv_aload_n hx hb dX0_init_32 rfl (lv_at hl 0 rfl) ?_
  refine lv_iconst (v := 0) hx hb dX0_init_33 (by decide) ?_
  refine va_put (D := D) (ci := 0) (v := .int 0) (ty := .int) (C := RX0) (T := TX0) (N := 13) hx hb hg inGX0 tyX0 tyX0_ok nmX0 hown hK hP hD hS 0 rfl rfl 4 (by decide) (hg _ q_4_151) (fun _ h9 => h9) rfl  (by decide +kernel) rfl rfl (px_len (w := .int 0) rfl) dX0_init_34 (fun H_8 locs_8 hP_8 hD_8 hS_8 => ?_)
  clear hP hD hS
  have hP : va_P D vwCl [px_o g 0 [.ref q1, .ref q2, .ref q3, .int 0, .int 0, .int 0, .int 0, .null, .int 0, .int 0, .int 0, .int 0, .int 0], px_i q1 (y 1) 2500 (fun _ => 0), px_i q2 (y 1) 3 (fun _ => 0), px_i q3 (y 1) 4 (fun _ => 0)] H_8 := hP_8
  have hD : va_D A [px_o g 0 [.ref q1, .ref q2, .ref q3, .int 0, .int 0, .int 0, .int 0, .null, .int 0, .int 0, .int 0, .int 0, .int 0], px_i q1 (y 1) 2500 (fun _ => 0), px_i q2 (y 1) 3 (fun _ => 0), px_i q3 (y 1) 4 (fun _ => 0)] := hD_8
  have hS := hS_8
  clear hP_8 hD_8 hS_8
  refine lv_aload_n hx hb dX0_init_37 rfl (lv_at hl 0 rfl) ?_
  refine lv_iconst (v := 0) hx hb dX0_init_38 (by decide) ?_
  refine va_put (D := D) (ci := 0) (v := .int 0) (ty := .boolean) (C := RX0) (T := TX0) (N := 13) hx hb hg inGX0 tyX0 tyX0_ok nmX0 hown hK hP hD hS 0 rfl rfl 5 (by decide) (hg _ q_4_152) (fun _ h9 => h9) rfl  (by decide +kernel) rfl rfl (px_len (w := .int 0) rfl) dX0_init_39 (fun H_9 locs_9 hP_9 hD_9 hS_9 => ?_)
  clear hP hD hS
  have hP : va_P D vwCl [px_o g 0 [.ref q1, .ref q2, .ref q3, .int 0, .int 0, .int 0, .int 0, .null, .int 0, .int 0, .int 0, .int 0, .int 0], px_i q1 (y 1) 2500 (fun _ => 0), px_i q2 (y 1) 3 (fun _ => 0), px_i q3 (y 1) 4 (fun _ => 0)] H_9 := hP_9
  have hD : va_D A [px_o g 0 [.ref q1, .ref q2, .ref q3, .int 0, .int 0, .int 0, .int 0, .null, .int 0, .int 0, .int 0, .int 0, .int 0], px_i q1 (y 1) 2500 (fun _ => 0), px_i q2 (y 1) 3 (fun _ => 0), px_i q3 (y 1) 4 (fun _ => 0)] := hD_9
  have hS := hS_9
  clear hP_9 hD_9 hS_9
  refine lv_aload_n hx hb dX0_init_42 rfl (lv_at hl 0 rfl) ?_
  refine lv_iconst (v := 0) hx hb dX0_init_43 (by decide) ?_
  refine va_put (D := D) (ci := 0) (v := .int 0) (ty := .int) (C := RX0) (T := TX0) (N := 13) hx hb hg inGX0 tyX0 tyX0_ok nmX0 hown hK hP hD hS 0 rfl rfl 6 (by decide) (hg _ q_4_153) (fun _ h9 => h9) rfl  (by decide +kernel) rfl rfl (px_len (w := .int 0) rfl) dX0_init_44 (fun H_10 locs_10 hP_10 hD_10 hS_10 => ?_)
  clear hP hD hS
  have hP : va_P D vwCl [px_o g 0 [.ref q1, .ref q2, .ref q3, .int 0, .int 0, .int 0, .int 0, .null, .int 0, .int 0, .int 0, .int 0, .int 0], px_i q1 (y 1) 2500 (fun _ => 0), px_i q2 (y 1) 3 (fun _ => 0), px_i q3 (y 1) 4 (fun _ => 0)] H_10 := hP_10
  have hD : va_D A [px_o g 0 [.ref q1, .ref q2, .ref q3, .int 0, .int 0, .int 0, .int 0, .null, .int 0, .int 0, .int 0, .int 0, .int 0], px_i q1 (y 1) 2500 (fun _ => 0), px_i q2 (y 1) 3 (fun _ => 0), px_i q3 (y 1) 4 (fun _ => 0)] := hD_10
  have hS := hS_10
  clear hP_10 hD_10 hS_10
  refine lv_aload_n hx hb dX0_init_47 rfl (lv_at hl 0 rfl) ?_
  refine lv_bipush (v := 6) hx hb dX0_init_48 (by decide) ?_
  refine px_newa (atype := .int) (ty := .int) hx hb (hg _ q_1_60) rfl hK hP hD hS hA 1 rfl (N' := 6) (a0 := (6, .inl (fun _ => 0))) (px_aint _) (by decide) (by decide) (by decide) (Nat.le_of_ble_eq_true rfl) (Nat.le_of_ble_eq_true rfl) dX0_init_50 (fun q4 H_11 hP_11 hD_11 hS_11 => ?_)
  clear hP hD hS
  have hP : va_P D vwCl [px_o g 0 [.ref q1, .ref q2, .ref q3, .int 0, .int 0, .int 0, .int 0, .null, .int 0, .int 0, .int 0, .int 0, .int 0], px_i q1 (y 1) 2500 (fun _ => 0), px_i q2 (y 1) 3 (fun _ => 0), px_i q3 (y 1) 4 (fun _ => 0), px_i q4 (y 1) 6 (fun _ => 0)] H_11 := hP_11
  have hD : va_D A [px_o g 0 [.ref q1, .ref q2, .ref q3, .int 0, .int 0, .int 0, .int 0, .null, .int 0, .int 0, .int 0, .int 0, .int 0], px_i q1 (y 1) 2500 (fun _ => 0), px_i q2 (y 1) 3 (fun _ => 0), px_i q3 (y 1) 4 (fun _ => 0), px_i q4 (y 1) 6 (fun _ => 0)] := hD_11
  have hS := hS_11
  clear hP_11 hD_11 hS_11
  refine W.cs (cells' := 4) (slots' := 2513) rfl rfl ?_
  refine va_putF (D := D) (ci := 0) (v := .ref q4) (ty := (.array .int)) (C := RX0) (T := TX0) (N := 13) hx hb hg inGX0 tyX0 tyX0_ok nmX0 hown hK hP hD hS 0 rfl rfl 7 (by decide) (hg _ q_4_154) (fun _ h9 => h9) rfl hin rfl (by decide +kernel) rfl rfl (px_len (w := .null) rfl) dX0_init_52 (fun H_12 locs_12 hP_12 hD_12 hS_12 => ?_)
  clear hP hD hS
  have hP : va_P D vwCl [px_o g 0 [.ref q1, .ref q2, .ref q3, .int 0, .int 0, .int 0, .int 0, .ref q4, .int 0, .int 0, .int 0, .int 0, .int 0], px_i q1 (y 1) 2500 (fun _ => 0), px_i q2 (y 1) 3 (fun _ => 0), px_i q3 (y 1) 4 (fun _ => 0), px_i q4 (y 1) 6 (fun _ => 0)] H_12 := hP_12
  have hD : va_D A [px_o g 0 [.ref q1, .ref q2, .ref q3, .int 0, .int 0, .int 0, .int 0, .ref q4, .int 0, .int 0, .int 0, .int 0, .int 0], px_i q1 (y 1) 2500 (fun _ => 0), px_i q2 (y 1) 3 (fun _ => 0), px_i q3 (y 1) 4 (fun _ => 0), px_i q4 (y 1) 6 (fun _ => 0)] := hD_12
  have hS := hS_12
  clear hP_12 hD_12 hS_12
  refine lv_aload_n hx hb dX0_init_55 rfl (lv_at hl 0 rfl) ?_
  refine lv_iconst (v := 0) hx hb dX0_init_56 (by decide) ?_
  refine va_put (D := D) (ci := 0) (v := .int 0) (ty := .int) (C := RX0) (T := TX0) (N := 13) hx hb hg inGX0 tyX0 tyX0_ok nmX0 hown hK hP hD hS 0 rfl rfl 8 (by decide) (hg _ q_4_155) (fun _ h9 => h9) rfl  (by decide +kernel) rfl rfl (px_len (w := .int 0) rfl) dX0_init_57 (fun H_13 locs_13 hP_13 hD_13 hS_13 => ?_)
  clear hP hD hS
  have hP : va_P D vwCl [px_o g 0 [.ref q1, .ref q2, .ref q3, .int 0, .int 0, .int 0, .int 0, .ref q4, .int 0, .int 0, .int 0, .int 0, .int 0], px_i q1 (y 1) 2500 (fun _ => 0), px_i q2 (y 1) 3 (fun _ => 0), px_i q3 (y 1) 4 (fun _ => 0), px_i q4 (y 1) 6 (fun _ => 0)] H_13 := hP_13
  have hD : va_D A [px_o g 0 [.ref q1, .ref q2, .ref q3, .int 0, .int 0, .int 0, .int 0, .ref q4, .int 0, .int 0, .int 0, .int 0, .int 0], px_i q1 (y 1) 2500 (fun _ => 0), px_i q2 (y 1) 3 (fun _ => 0), px_i q3 (y 1) 4 (fun _ => 0), px_i q4 (y 1) 6 (fun _ => 0)] := hD_13
  have hS := hS_13
  clear hP_13 hD_13 hS_13
  refine lv_aload_n hx hb dX0_init_60 rfl (lv_at hl 0 rfl) ?_
  refine lv_iconst (v := 0) hx hb dX0_init_61 (by decide) ?_
  refine va_put (D := D) (ci := 0) (v := .int 0) (ty := .int) (C := RX0) (T := TX0) (N := 13) hx hb hg inGX0 tyX0 tyX0_ok nmX0 hown hK hP hD hS 0 rfl rfl 9 (by decide) (hg _ q_4_156) (fun _ h9 => h9) rfl  (by decide +kernel) rfl rfl (px_len (w := .int 0) rfl) dX0_init_62 (fun H_14 locs_14 hP_14 hD_14 hS_14 => ?_)
  clear hP hD hS
  have hP : va_P D vwCl [px_o g 0 [.ref q1, .ref q2, .ref q3, .int 0, .int 0, .int 0, .int 0, .ref q4, .int 0, .int 0, .int 0, .int 0, .int 0], px_i q1 (y 1) 2500 (fun _ => 0), px_i q2 (y 1) 3 (fun _ => 0), px_i q3 (y 1) 4 (fun _ => 0), px_i q4 (y 1) 6 (fun _ => 0)] H_14 := hP_14
  have hD : va_D A [px_o g 0 [.ref q1, .ref q2, .ref q3, .int 0, .int 0, .int 0, .int 0, .ref q4, .int 0, .int 0, .int 0, .int 0, .int 0], px_i q1 (y 1) 2500 (fun _ => 0), px_i q2 (y 1) 3 (fun _ => 0), px_i q3 (y 1) 4 (fun _ => 0), px_i q4 (y 1) 6 (fun _ => 0)] := hD_14
  have hS := hS_14
  clear hP_14 hD_14 hS_14
  refine lv_aload_n hx hb dX0_init_65 rfl (lv_at hl 0 rfl) ?_
  refine lv_iconst (v := 0) hx hb dX0_init_66 (by decide) ?_
  refine va_put (D := D) (ci := 0) (v := .int 0) (ty := .int) (C := RX0) (T := TX0) (N := 13) hx hb hg inGX0 tyX0 tyX0_ok nmX0 hown hK hP hD hS 0 rfl rfl 10 (by decide) (hg _ q_4_157) (fun _ h9 => h9) rfl  (by decide +kernel) rfl rfl (px_len (w := .int 0) rfl) dX0_init_67 (fun H_15 locs_15 hP_15 hD_15 hS_15 => ?_)
  clear hP hD hS
  have hP : va_P D vwCl [px_o g 0 [.ref q1, .ref q2, .ref q3, .int 0, .int 0, .int 0, .int 0, .ref q4, .int 0, .int 0, .int 0, .int 0, .int 0], px_i q1 (y 1) 2500 (fun _ => 0), px_i q2 (y 1) 3 (fun _ => 0), px_i q3 (y 1) 4 (fun _ => 0), px_i q4 (y 1) 6 (fun _ => 0)] H_15 := hP_15
  have hD : va_D A [px_o g 0 [.ref q1, .ref q2, .ref q3, .int 0, .int 0, .int 0, .int 0, .ref q4, .int 0, .int 0, .int 0, .int 0, .int 0], px_i q1 (y 1) 2500 (fun _ => 0), px_i q2 (y 1) 3 (fun _ => 0), px_i q3 (y 1) 4 (fun _ => 0), px_i q4 (y 1) 6 (fun _ => 0)] := hD_15
  have hS := hS_15
  clear hP_15 hD_15 hS_15
  refine lv_aload_n hx hb dX0_init_70 rfl (lv_at hl 0 rfl) ?_
  refine lv_iconst (v := 0) hx hb dX0_init_71 (by decide) ?_
  refine va_put (D := D) (ci := 0) (v := .int 0) (ty := .int) (C := RX0) (T := TX0) (N := 13) hx hb hg inGX0 tyX0 tyX0_ok nmX0 hown hK hP hD hS 0 rfl rfl 11 (by decide) (hg _ q_4_158) (fun _ h9 => h9) rfl  (by decide +kernel) rfl rfl (px_len (w := .int 0) rfl) dX0_init_72 (fun H_16 locs_16 hP_16 hD_16 hS_16 => ?_)
  clear hP hD hS
  have hP : va_P D vwCl [px_o g 0 [.ref q1, .ref q2, .ref q3, .int 0, .int 0, .int 0, .int 0, .ref q4, .int 0, .int 0, .int 0, .int 0, .int 0], px_i q1 (y 1) 2500 (fun _ => 0), px_i q2 (y 1) 3 (fun _ => 0), px_i q3 (y 1) 4 (fun _ => 0), px_i q4 (y 1) 6 (fun _ => 0)] H_16 := hP_16
  have hD : va_D A [px_o g 0 [.ref q1, .ref q2, .ref q3, .int 0, .int 0, .int 0, .int 0, .ref q4, .int 0, .int 0, .int 0, .int 0, .int 0], px_i q1 (y 1) 2500 (fun _ => 0), px_i q2 (y 1) 3 (fun _ => 0), px_i q3 (y 1) 4 (fun _ => 0), px_i q4 (y 1) 6 (fun _ => 0)] := hD_16
  have hS := hS_16
  clear hP_16 hD_16 hS_16
  refine lv_aload_n hx hb dX0_init_75 rfl (lv_at hl 0 rfl) ?_
  refine lv_iconst (v := -1) hx hb dX0_init_76 (by decide) ?_
  refine va_put (D := D) (ci := 0) (v := .int (-1)) (ty := .int) (C := RX0) (T := TX0) (N := 13) hx hb hg inGX0 tyX0 tyX0_ok nmX0 hown hK hP hD hS 0 rfl rfl 12 (by decide) (hg _ q_4_159) (fun _ h9 => h9) rfl  (by decide +kernel) rfl rfl (px_len (w := .int 0) rfl) dX0_init_77 (fun H_17 locs_17 hP_17 hD_17 hS_17 => ?_)
  clear hP hD hS
  have hP : va_P D vwCl [px_o g 0 [.ref q1, .ref q2, .ref q3, .int 0, .int 0, .int 0, .int 0, .ref q4, .int 0, .int 0, .int 0, .int 0, .int (-1)], px_i q1 (y 1) 2500 (fun _ => 0), px_i q2 (y 1) 3 (fun _ => 0), px_i q3 (y 1) 4 (fun _ => 0), px_i q4 (y 1) 6 (fun _ => 0)] H_17 := hP_17
  have hD : va_D A [px_o g 0 [.ref q1, .ref q2, .ref q3, .int 0, .int 0, .int 0, .int 0, .ref q4, .int 0, .int 0, .int 0, .int 0, .int (-1)], px_i q1 (y 1) 2500 (fun _ => 0), px_i q2 (y 1) 3 (fun _ => 0), px_i q3 (y 1) 4 (fun _ => 0), px_i q4 (y 1) 6 (fun _ => 0)] := hD_17
  have hS := hS_17
  clear hP_17 hD_17 hS_17
  have hP9 := hP.sub (ws' := (xws (px_v [g, q1, q2, q3, q4]) y (fun _ _ => none) 5 shU0 (fun t i => if t = 0 ∧ i = 12 then -1 else 0))) [0, 1, 2, 3, 4] rfl
  have hD9 := hD.sub (ws' := (xws (px_v [g, q1, q2, q3, q4]) y (fun _ _ => none) 5 shU0 (fun t i => if t = 0 ∧ i = 12 then -1 else 0))) [0, 1, 2, 3, 4] (by decide +kernel) rfl
  exact W.vret hx hb hr (fun t ht hW => ⟨⟨px_v [g, q1, q2, q3, q4], fun t i => if t = 0 ∧ i = 12 then -1 else 0, rfl, rfl, vgs_of (fun t i => by first | exact ⟨by decide, by decide⟩ | (show xR32 (if _ then _ else _); split <;> exact ⟨by decide, by decide⟩)), by rw [ht]; exact hP9, hD9⟩, hS.F ht⟩) hS.2.2 dX0_init_80
def fsX2 : List Value := [.int 0, .int 0, .int 0, .int 0, .null, .null, .null, .null, .int 0, .int 0, .null, .null, .null, .null, .int 0, .int 0, .int 0, .null]
theorem px_fsX2v : ∀ j, j < 18 → defaultValue (tyX2 j) = vp_V fsX2 j := by
  intro j hj
  match j, hj with
  | 0, _ => rfl
  | 1, _ => rfl
  | 2, _ => rfl
  | 3, _ => rfl
  | 4, _ => rfl
  | 5, _ => rfl
  | 6, _ => rfl
  | 7, _ => rfl
  | 8, _ => rfl
  | 9, _ => rfl
  | 10, _ => rfl
  | 11, _ => rfl
  | 12, _ => rfl
  | 13, _ => rfl
  | 14, _ => rfl
  | 15, _ => rfl
  | 16, _ => rfl
  | 17, _ => rfl
  | j + 18, h => exact absurd h (by omega)
def sgG (b0 b1 : Nat → Int32) : xS := fun t i => match t with
  | 0 => (match i with
    | 14 => -1
    | _ => 0)
  | 5 => (b0 i).toInt
  | 8 => (b1 i).toInt
  | _ => 0
theorem sgG_r (b0 b1 : Nat → Int32) (t i : Nat) : xR32 (sgG b0 b1 t i) := by
  unfold sgG
  split
  · split
    · exact ⟨by decide, by decide⟩
    · exact ⟨by decide, by decide⟩
  · exact x32r _
  · exact x32r _
  · exact ⟨by decide, by decide⟩
set_option maxHeartbeats 4000000 in
set_option maxRecDepth 100000 in
theorem ctX2 (l : Launch) (D : va_G) (y : Nat → ClassId) (sz g : Nat) : Met l yX2_init (px_w yX2_init cX2_init 1 none) { frames := 2, cells := 12, slots := 313, locals := 32 } (va_Pc [.ref g] (fun U => px_P D y sz [px_o g 2 fsX2] U ∧ vX U)) (ctQ D y 2 fsX2 13 shG sz g) 12 313 (va_A [px_o g 2 fsX2] sz) := by
  refine v_cons (c_X2_init l D y sz g fsX2 rfl rfl rfl rfl rfl rfl rfl rfl rfl rfl rfl rfl rfl rfl rfl rfl rfl rfl) (fun a st h => ⟨h.1, h.2.1, h.2.2.1⟩) (fun a st o t _ h => ?_)
  obtain ⟨⟨⟨u1, u2, u3⟩, ho, -, hP, hD⟩, hF⟩ := h
  dsimp only at hP hD
  have e0 : u2 0 = fun i => Int32.ofInt ((u2 0 i).toInt) := funext fun i => x32o _
  have e1 : u2 1 = fun i => Int32.ofInt ((u2 1 i).toInt) := funext fun i => x32o _
  rw [e0, e1] at hP hD
  have hP9 := hP.sub (ws' := (xws (px_v [g, u1 0, u1 1, u1 2, u1 3, u1 10, u1 4, u1 5, u1 11, u1 6, u1 7, u1 8, u1 9]) y (fun _ _ => none) 13 shG (sgG (u2 0) (u2 1)))) [0, 1, 2, 3, 4, 11, 5, 6, 12, 7, 8, 9, 10] rfl
  have hD9 := hD.sub (ws' := (xws (px_v [g, u1 0, u1 1, u1 2, u1 3, u1 10, u1 4, u1 5, u1 11, u1 6, u1 7, u1 8, u1 9]) y (fun _ _ => none) 13 shG (sgG (u2 0) (u2 1)))) [0, 1, 2, 3, 4, 11, 5, 6, 12, 7, 8, 9, 10] (by decide +kernel) rfl
  exact ⟨⟨_, _, ho, rfl, vgs_of (sgG_r _ _), hP9, hD9⟩, hF⟩
def fsX7 : List Value := [.null, .int 0]
theorem px_fsX7v : ∀ j, j < 2 → defaultValue (tyX7 j) = vp_V fsX7 j := by
  intro j hj
  match j, hj with
  | 0, _ => rfl
  | 1, _ => rfl
set_option maxHeartbeats 4000000 in
set_option maxRecDepth 100000 in
theorem ctX7 (l : Launch) (D : va_G) (y : Nat → ClassId) (sz g : Nat) : Met l yX7_init (px_w yX7_init cX7_init 1 none) { frames := 1, cells := 1, slots := 40, locals := 12 } (va_Pc [.ref g] (fun U => px_P D y sz [px_o g 7 fsX7] U ∧ vX U)) (ctQ D y 7 fsX7 2 shN0 sz g) 1 40 (va_A [px_o g 7 fsX7] sz) := by
  refine v_cons (c_X7_init l D y sz g fsX7 rfl rfl) (fun a st h => ⟨h.1, h.2.1⟩) (fun a st o t _ h => ?_)
  obtain ⟨⟨⟨u1, u2, u3⟩, ho, -, hP, hD⟩, hF⟩ := h
  dsimp only at hP hD
  have hP9 := hP.sub (ws' := (xws (px_v [g, u1 0]) y (fun _ _ => none) 2 shN0 (fun _ _ => 0))) [0, 1] rfl
  have hD9 := hD.sub (ws' := (xws (px_v [g, u1 0]) y (fun _ _ => none) 2 shN0 (fun _ _ => 0))) [0, 1] (by decide +kernel) rfl
  exact ⟨⟨_, _, ho, rfl, vgs_of (fun _ _ => ⟨by decide, by decide⟩), hP9, hD9⟩, hF⟩
theorem vRefs {l : List (Nat × Nat × List Nat)} {n : Nat} (h : l.all (fun q => q.2.2.all (fun c => decide (c < n + 4))) = true) : ∀ (i : Nat) (e : Nat × Nat × List Nat), l[i]? = some e → ∀ c : Nat, c + 4 ∈ e.2.2 → c < n := by
  intro i e he c hc
  have h1 := of_decide_eq_true (List.all_eq_true.mp (List.all_eq_true.mp h e (List.mem_of_getElem? he)) _ hc)
  omega
theorem vB1 : vBlk 1 [47, 48, 49, 50, 51, 52, 53, 54, 55, 56, 57, 58, 59] 13 shG := ⟨by decide, xsubB_ok (l' := wlG) (l := wlVF0) (by decide +kernel), by decide +kernel, by decide +kernel, vRefs (l := wlG) (n := 13) (by decide +kernel), by decide⟩
theorem vB2 : vBlk 2 [60, 61, 62, 63, 64, 65, 66, 67, 68, 69, 70, 71, 72] 13 shG := ⟨by decide, xsubB_ok (l' := wlG) (l := wlVF0) (by decide +kernel), by decide +kernel, by decide +kernel, vRefs (l := wlG) (n := 13) (by decide +kernel), by decide⟩
theorem vB3 : vBlk 3 [73, 74, 75, 76, 77, 78, 79, 80, 81, 82, 83, 84, 85] 13 shG := ⟨by decide, xsubB_ok (l' := wlG) (l := wlVF0) (by decide +kernel), by decide +kernel, by decide +kernel, vRefs (l := wlG) (n := 13) (by decide +kernel), by decide⟩
theorem vB4 : vBlk 4 [86, 87, 88, 89, 90, 91, 92, 93, 94, 95, 96, 97, 98] 13 shG := ⟨by decide, xsubB_ok (l' := wlG) (l := wlVF0) (by decide +kernel), by decide +kernel, by decide +kernel, vRefs (l := wlG) (n := 13) (by decide +kernel), by decide⟩
theorem vB5 : vBlk 5 [99, 100, 101, 102, 103, 104, 105, 106, 107, 108, 109, 110, 111] 13 shG := ⟨by decide, xsubB_ok (l' := wlG) (l := wlVF0) (by decide +kernel), by decide +kernel, by decide +kernel, vRefs (l := wlG) (n := 13) (by decide +kernel), by decide⟩
theorem vB6 : vBlk 6 [112, 113, 114, 115, 116, 117, 118, 119, 120, 121, 122, 123, 124] 13 shG := ⟨by decide, xsubB_ok (l' := wlG) (l := wlVF0) (by decide +kernel), by decide +kernel, by decide +kernel, vRefs (l := wlG) (n := 13) (by decide +kernel), by decide⟩
theorem vB7 : vBlk 7 [125, 126, 127, 128, 129, 130, 131, 132, 133, 134, 135, 136, 137] 13 shG := ⟨by decide, xsubB_ok (l' := wlG) (l := wlVF0) (by decide +kernel), by decide +kernel, by decide +kernel, vRefs (l := wlG) (n := 13) (by decide +kernel), by decide⟩
theorem vB8 : vBlk 8 [138, 139, 140, 141, 142, 143, 144, 145, 146, 147, 148, 149, 150] 13 shG := ⟨by decide, xsubB_ok (l' := wlG) (l := wlVF0) (by decide +kernel), by decide +kernel, by decide +kernel, vRefs (l := wlG) (n := 13) (by decide +kernel), by decide⟩
theorem vB9 : vBlk 9 [151, 152, 153, 154, 155, 156, 157, 158, 159, 160, 161, 162, 163] 13 shG := ⟨by decide, xsubB_ok (l' := wlG) (l := wlVF0) (by decide +kernel), by decide +kernel, by decide +kernel, vRefs (l := wlG) (n := 13) (by decide +kernel), by decide⟩
theorem vB10 : vBlk 10 [164, 165, 166, 167, 168, 169, 170, 171, 172, 173, 174, 175, 176] 13 shG := ⟨by decide, xsubB_ok (l' := wlG) (l := wlVF0) (by decide +kernel), by decide +kernel, by decide +kernel, vRefs (l := wlG) (n := 13) (by decide +kernel), by decide⟩
theorem vB11 : vBlk 11 [177, 178] 2 shN0 := ⟨by decide, xsubB_ok (l' := wlN0) (l := wlVF0) (by decide +kernel), by decide +kernel, by decide +kernel, vRefs (l := wlN0) (n := 2) (by decide +kernel), by decide⟩
theorem vB12 : vBlk 12 [179, 180] 2 shN0 := ⟨by decide, xsubB_ok (l' := wlN0) (l := wlVF0) (by decide +kernel), by decide +kernel, by decide +kernel, vRefs (l := wlN0) (n := 2) (by decide +kernel), by decide⟩
theorem vB13 : vBlk 13 [181, 182, 183, 184, 185, 186, 187, 188] 8 shO0 := ⟨by decide, xsubB_ok (l' := wlO0) (l := wlVF0) (by decide +kernel), by decide +kernel, by decide +kernel, vRefs (l := wlO0) (n := 8) (by decide +kernel), by decide⟩
theorem vB14 : vBlk 14 [189, 190, 191, 192, 193] 5 shU0 := ⟨by decide, xsubB_ok (l' := wlU0) (l := wlVF0) (by decide +kernel), by decide +kernel, by decide +kernel, vRefs (l := wlU0) (n := 5) (by decide +kernel), by decide⟩
