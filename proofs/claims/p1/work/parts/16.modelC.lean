set_option maxHeartbeats 4000000 in
set_option maxRecDepth 100000 in
theorem c_X11_tries (l : Launch) (D : va_G) (y : Nat → ClassId) (sz : Nat) (mo : Nat) (fmo : List Value) (ms : Nat) (mb : Nat) (fms : Nat → Int32) (fmb : Nat → Int32) (hmo_6 : px_g fmo 6 (.ref ms)) (hmo_26 : px_g fmo 26 (.ref mb)) : Met l yX11_tries (px_w yX11_tries cX11_tries 2 none) ({ frames := 0, cells := 0, slots := 0, locals := 0 }) (va_Pc [.ref mo] (px_P D y sz [px_o mo 11 fmo, px_i ms (y 1) 765 fms, px_i mb (y 1) 580 fmb])) (va_Qv (fun (u : px_U) => True) (fun (u : px_U) t => va_P D vwCl [px_o mo 11 fmo, px_i ms (y 1) 765 fms, px_i mb (y 1) 580 (u.2.1 0)] t.heap ∧ va_D (va_A [px_o mo 11 fmo, px_i ms (y 1) 765 fms, px_i mb (y 1) 580 fmb] sz) [px_o mo 11 fmo, px_i ms (y 1) 765 fms, px_i mb (y 1) 580 (u.2.1 0)]) (va_A [px_o mo 11 fmo, px_i ms (y 1) 765 fms, px_i mb (y 1) 580 fmb] sz)) 0 0 (va_A [px_o mo 11 fmo, px_i ms (y 1) 765 fms, px_i mb (y 1) 580 fmb] sz) := by
  refine Met.ofW (cc := cX11_tries) (maxL := 2) (ret := none) (by decide) rfl ?_
  intro p e s m args below meth c s₁ B hml hv
  obtain ⟨rfl, hsz, hP, hK, hD0⟩ := hv
  have hx := B.exec
  have hb := B.bytes
  have hr := B.returns
  have hts := atoms_spec (ws := px_w yX11_tries cX11_tries 2 none) B.pre
  have hg : ∀ w ∈ gw, w.before [.ref mo].toArray s = true := fun w h => hts w (List.mem_cons_of_mem _ h)
  have hown : s.vm.findClass RX11 = some m.cls := findClass_of_methodNamed B.named
  have hlocks := B.notSynchronized
  subst hsz
  have hD := hD0.self (sz := s.heap.size)
  generalize hAe : va_A [px_o mo 11 fmo, px_i ms (y 1) 765 fms, px_i mb (y 1) 580 fmb] s.heap.size = A at hD ⊢
  have hA : ∀ q : Nat, s.heap.size ≤ q → A q := fun q h => by rw [← hAe]; exact Or.inr h
  have hS : va_S A s.heap s.heap [] := va_S.rf
  have hP : va_P D vwCl [px_o mo 11 fmo, px_i ms (y 1) 765 fms, px_i mb (y 1) 580 fmb] s.heap := hP
  have hl := lv_entry ([.ref mo]) (n := 2) (Nat.le_of_ble_eq_true rfl)
  rw [lg_entry_eq]
  generalize (lg_sl ([.ref mo]) ++ List.replicate (2 - (lg_sl ([.ref mo])).length) Slot.unset).toArray = ls at hl ⊢
  have hl : lv_has ls 2 [(0, .ref mo)] := hl
  refine lv_iconst (v := 0) hx hb dX11_tries_0 (by decide) ?_
  refine lv_istore_n (lv' := [(1, .int 0), (0, .ref mo)]) hx hb dX11_tries_1 rfl hl (by decide) rfl (fun ls hl => ?_)
  refine px_loop1 (α := (Nat → Int32)) (nL := 2) 580 (ws := fun i_1 F_1 => [px_o mo 11 fmo, px_i ms (y 1) 765 fms, px_i mb (y 1) 580 F_1]) (lv := fun i_1 F_1 => [(1, .int (nI i_1)), (0, .ref mo)]) (inv := fun i_1 F_1 => True) ?_ ?_ 0 (by decide) fmb trivial hP hD hS (lv_sub hl [0, 1] rfl)
  · clear hP hD hS
    intro i_1 F_1 hi_1 hv_1 ih_1 H_1 locs_1 ls hP hD hS hl
    have hP : va_P D vwCl [px_o mo 11 fmo, px_i ms (y 1) 765 fms, px_i mb (y 1) 580 F_1] H_1 := hP
    have hD : va_D A [px_o mo 11 fmo, px_i ms (y 1) 765 fms, px_i mb (y 1) 580 F_1] := hD
    have hl : lv_has ls 2 [(1, .int (nI i_1)), (0, .ref mo)] := hl
    refine lv_iload_n hx hb dX11_tries_2 rfl (lv_at hl 0 rfl) ?_
    refine lv_sipush (v := 580) hx hb dX11_tries_3 (by decide) ?_
    refine lv_icmp_ge (tgt := 29) hx hb dX11_tries_6 (by decide) (fun c_2 => absurd c_2 (nI_ge (by omega) (by decide))) (fun _ => ?_)
    refine lv_aload_n hx hb dX11_tries_9 rfl (lv_at hl 1 rfl) ?_
    refine va_get (D := D) (ci := 11) (v := .ref mb) (C := RX11) (T := TX11) (N := 65) hx hb hg inGX11 hown hK hP 0 rfl rfl 26 (by decide) (hg _ q_6_152) (fun _ h9 => h9) hmo_26 dX11_tries_10 ?_
    refine lv_iload_n hx hb dX11_tries_13 rfl (lv_at hl 0 rfl) ?_
    refine lv_aload_n hx hb dX11_tries_14 rfl (lv_at hl 1 rfl) ?_
    refine va_get (D := D) (ci := 11) (v := .ref ms) (C := RX11) (T := TX11) (N := 65) hx hb hg inGX11 hown hK hP 0 rfl rfl 6 (by decide) (hg _ q_6_132) (fun _ h9 => h9) hmo_6 dX11_tries_15 ?_
    refine lv_iconst (v := 4) hx hb dX11_tries_18 (by decide) ?_
    refine lv_iload_n hx hb dX11_tries_19 rfl (lv_at hl 0 rfl) ?_
    refine lv_iadd hx hb dX11_tries_20 ?_
    refine px_top (v := nI (4 + i_1)) (nI_add 4 i_1) ?_
    refine va_iald hx hb hK hP 1 1 rfl rfl (i := (nI (4 + i_1))) (vp_in_nI (by omega) (by decide)) dX11_tries_21 ?_
    refine px_top (v := fms (4 + i_1)) (by rw [nI_clamp (by omega)]) ?_
    refine va_iast hx hb hK hP hD hS 2 1 rfl rfl (i := (nI i_1)) (vp_in_nI (by omega) (by decide)) dX11_tries_22 (fun H_4 locs_4 hP_4 hD_4 hS_4 => ?_)
    clear hP hD hS
    have hP : va_P D vwCl [px_o mo 11 fmo, px_i ms (y 1) 765 fms, px_i mb (y 1) 580 (upd F_1 (nI i_1).toNatClampNeg (fms (4 + i_1)))] H_4 := hP_4
    have hD : va_D A [px_o mo 11 fmo, px_i ms (y 1) 765 fms, px_i mb (y 1) 580 (upd F_1 (nI i_1).toNatClampNeg (fms (4 + i_1)))] := hD_4
    have hS := hS_4
    clear hP_4 hD_4 hS_4
    refine lv_iinc (v := nI (i_1 + 1)) (lv' := [(1, .int (nI (i_1 + 1))), (0, .ref mo)]) hx hb dX11_tries_23 hl (k := 0) rfl (nI_1 i_1) (by decide) rfl (fun ls hl => ?_)
    refine lv_goto (tgt := 2) hx hb dX11_tries_26 (by decide) ?_
    exact ih_1 (upd F_1 (nI i_1).toNatClampNeg (fms (4 + i_1))) _ _ ls trivial hP hD hS (lv_sub hl [0, 1] rfl)
  · clear hP hD hS
    intro F_1 hv_1 H_1 locs_1 ls hP hD hS hl
    have hP : va_P D vwCl [px_o mo 11 fmo, px_i ms (y 1) 765 fms, px_i mb (y 1) 580 F_1] H_1 := hP
    have hD : va_D A [px_o mo 11 fmo, px_i ms (y 1) 765 fms, px_i mb (y 1) 580 F_1] := hD
    have hl : lv_has ls 2 [(1, .int 580), (0, .ref mo)] := hl
    refine lv_iload_n hx hb dX11_tries_2 rfl (lv_at hl 0 rfl) ?_
    refine lv_sipush (v := 580) hx hb dX11_tries_3 (by decide) ?_
    refine lv_icmp_ge (tgt := 29) hx hb dX11_tries_6 (by decide) (fun _ => ?_) (fun c_5 => absurd c_5 (by decide))
    have hP9 := hP.sub (ws' := [px_o mo 11 fmo, px_i ms (y 1) 765 fms, px_i mb (y 1) 580 F_1]) [0, 1, 2] rfl
    have hD9 := hD.sub (ws' := [px_o mo 11 fmo, px_i ms (y 1) 765 fms, px_i mb (y 1) 580 F_1]) [0, 1, 2] (by decide +kernel) rfl
    exact W.vret hx hb hr (fun t ht hW => ⟨⟨(px_v [], px_vi [F_1], px_vl []), rfl, trivial, by rw [ht]; exact hP9, hD9⟩, hS.F ht⟩) hS.2.2 dX11_tries_29

set_option maxHeartbeats 4000000 in
set_option maxRecDepth 100000 in
theorem c_X11_back (l : Launch) (D : va_G) (y : Nat → ClassId) (sz : Nat) (mo : Nat) (fmo : List Value) (ms : Nat) (mb : Nat) (fms : Nat → Int32) (fmb : Nat → Int32) (hmo_6 : px_g fmo 6 (.ref ms)) (hmo_26 : px_g fmo 26 (.ref mb)) : Met l yX11_back (px_w yX11_back cX11_back 2 none) ({ frames := 0, cells := 0, slots := 0, locals := 0 }) (va_Pc [.ref mo] (px_P D y sz [px_o mo 11 fmo, px_i ms (y 1) 765 fms, px_i mb (y 1) 580 fmb])) (va_Qv (fun (u : px_U) => True) (fun (u : px_U) t => va_P D vwCl [px_o mo 11 fmo, px_i ms (y 1) 765 (u.2.1 0), px_i mb (y 1) 580 fmb] t.heap ∧ va_D (va_A [px_o mo 11 fmo, px_i ms (y 1) 765 fms, px_i mb (y 1) 580 fmb] sz) [px_o mo 11 fmo, px_i ms (y 1) 765 (u.2.1 0), px_i mb (y 1) 580 fmb]) (va_A [px_o mo 11 fmo, px_i ms (y 1) 765 fms, px_i mb (y 1) 580 fmb] sz)) 0 0 (va_A [px_o mo 11 fmo, px_i ms (y 1) 765 fms, px_i mb (y 1) 580 fmb] sz) := by
  refine Met.ofW (cc := cX11_back) (maxL := 2) (ret := none) (by decide) rfl ?_
  intro p e s m args below meth c s₁ B hml hv
  obtain ⟨rfl, hsz, hP, hK, hD0⟩ := hv
  have hx := B.exec
  have hb := B.bytes
  have hr := B.returns
  have hts := atoms_spec (ws := px_w yX11_back cX11_back 2 none) B.pre
  have hg : ∀ w ∈ gw, w.before [.ref mo].toArray s = true := fun w h => hts w (List.mem_cons_of_mem _ h)
  have hown : s.vm.findClass RX11 = some m.cls := findClass_of_methodNamed B.named
  have hlocks := B.notSynchronized
  subst hsz
  have hD := hD0.self (sz := s.heap.size)
  generalize hAe : va_A [px_o mo 11 fmo, px_i ms (y 1) 765 fms, px_i mb (y 1) 580 fmb] s.heap.size = A at hD ⊢
  have hA : ∀ q : Nat, s.heap.size ≤ q → A q := fun q h => by rw [← hAe]; exact Or.inr h
  have hS : va_S A s.heap s.heap [] := va_S.rf
  have hP : va_P D vwCl [px_o mo 11 fmo, px_i ms (y 1) 765 fms, px_i mb (y 1) 580 fmb] s.heap := hP
  have hl := lv_entry ([.ref mo]) (n := 2) (Nat.le_of_ble_eq_true rfl)
  rw [lg_entry_eq]
  generalize (lg_sl ([.ref mo]) ++ List.replicate (2 - (lg_sl ([.ref mo])).length) Slot.unset).toArray = ls at hl ⊢
  have hl : lv_has ls 2 [(0, .ref mo)] := hl
  refine lv_iconst (v := 0) hx hb dX11_back_0 (by decide) ?_
  refine lv_istore_n (lv' := [(1, .int 0), (0, .ref mo)]) hx hb dX11_back_1 rfl hl (by decide) rfl (fun ls hl => ?_)
  refine px_loop1 (α := (Nat → Int32)) (nL := 2) 580 (ws := fun i_1 F_1 => [px_o mo 11 fmo, px_i ms (y 1) 765 F_1, px_i mb (y 1) 580 fmb]) (lv := fun i_1 F_1 => [(1, .int (nI i_1)), (0, .ref mo)]) (inv := fun i_1 F_1 => True) ?_ ?_ 0 (by decide) fms trivial hP hD hS (lv_sub hl [0, 1] rfl)
  · clear hP hD hS
    intro i_1 F_1 hi_1 hv_1 ih_1 H_1 locs_1 ls hP hD hS hl
    have hP : va_P D vwCl [px_o mo 11 fmo, px_i ms (y 1) 765 F_1, px_i mb (y 1) 580 fmb] H_1 := hP
    have hD : va_D A [px_o mo 11 fmo, px_i ms (y 1) 765 F_1, px_i mb (y 1) 580 fmb] := hD
    have hl : lv_has ls 2 [(1, .int (nI i_1)), (0, .ref mo)] := hl
    refine lv_iload_n hx hb dX11_back_2 rfl (lv_at hl 0 rfl) ?_
    refine lv_sipush (v := 580) hx hb dX11_back_3 (by decide) ?_
    refine lv_icmp_ge (tgt := 29) hx hb dX11_back_6 (by decide) (fun c_2 => absurd c_2 (nI_ge (by omega) (by decide))) (fun _ => ?_)
    refine lv_aload_n hx hb dX11_back_9 rfl (lv_at hl 1 rfl) ?_
    refine va_get (D := D) (ci := 11) (v := .ref ms) (C := RX11) (T := TX11) (N := 65) hx hb hg inGX11 hown hK hP 0 rfl rfl 6 (by decide) (hg _ q_6_132) (fun _ h9 => h9) hmo_6 dX11_back_10 ?_
    refine lv_iconst (v := 4) hx hb dX11_back_13 (by decide) ?_
    refine lv_iload_n hx hb dX11_back_14 rfl (lv_at hl 0 rfl) ?_
    refine lv_iadd hx hb dX11_back_15 ?_
    refine px_top (v := nI (4 + i_1)) (nI_add 4 i_1) ?_
    refine lv_aload_n hx hb dX11_back_16 rfl (lv_at hl 1 rfl) ?_
    refine va_get (D := D) (ci := 11) (v := .ref mb) (C := RX11) (T := TX11) (N := 65) hx hb hg inGX11 hown hK hP 0 rfl rfl 26 (by decide) (hg _ q_6_152) (fun _ h9 => h9) hmo_26 dX11_back_17 ?_
    refine lv_iload_n hx hb dX11_back_20 rfl (lv_at hl 0 rfl) ?_
    refine va_iald hx hb hK hP 2 1 rfl rfl (i := (nI i_1)) (vp_in_nI (by omega) (by decide)) dX11_back_21 ?_
    refine px_top (v := fmb i_1) (by rw [nI_clamp (by omega)]) ?_
    refine va_iast hx hb hK hP hD hS 1 1 rfl rfl (i := (nI (4 + i_1))) (vp_in_nI (by omega) (by decide)) dX11_back_22 (fun H_4 locs_4 hP_4 hD_4 hS_4 => ?_)
    clear hP hD hS
    have hP : va_P D vwCl [px_o mo 11 fmo, px_i ms (y 1) 765 (upd F_1 (nI (4 + i_1)).toNatClampNeg (fmb i_1)), px_i mb (y 1) 580 fmb] H_4 := hP_4
    have hD : va_D A [px_o mo 11 fmo, px_i ms (y 1) 765 (upd F_1 (nI (4 + i_1)).toNatClampNeg (fmb i_1)), px_i mb (y 1) 580 fmb] := hD_4
    have hS := hS_4
    clear hP_4 hD_4 hS_4
    refine lv_iinc (v := nI (i_1 + 1)) (lv' := [(1, .int (nI (i_1 + 1))), (0, .ref mo)]) hx hb dX11_back_23 hl (k := 0) rfl (nI_1 i_1) (by decide) rfl (fun ls hl => ?_)
    refine lv_goto (tgt := 2) hx hb dX11_back_26 (by decide) ?_
    exact ih_1 (upd F_1 (nI (4 + i_1)).toNatClampNeg (fmb i_1)) _ _ ls trivial hP hD hS (lv_sub hl [0, 1] rfl)
  · clear hP hD hS
    intro F_1 hv_1 H_1 locs_1 ls hP hD hS hl
    have hP : va_P D vwCl [px_o mo 11 fmo, px_i ms (y 1) 765 F_1, px_i mb (y 1) 580 fmb] H_1 := hP
    have hD : va_D A [px_o mo 11 fmo, px_i ms (y 1) 765 F_1, px_i mb (y 1) 580 fmb] := hD
    have hl : lv_has ls 2 [(1, .int 580), (0, .ref mo)] := hl
    refine lv_iload_n hx hb dX11_back_2 rfl (lv_at hl 0 rfl) ?_
    refine lv_sipush (v := 580) hx hb dX11_back_3 (by decide) ?_
    refine lv_icmp_ge (tgt := 29) hx hb dX11_back_6 (by decide) (fun _ => ?_) (fun c_5 => absurd c_5 (by decide))
    have hP9 := hP.sub (ws' := [px_o mo 11 fmo, px_i ms (y 1) 765 F_1, px_i mb (y 1) 580 fmb]) [0, 1, 2] rfl
    have hD9 := hD.sub (ws' := [px_o mo 11 fmo, px_i ms (y 1) 765 F_1, px_i mb (y 1) 580 fmb]) [0, 1, 2] (by decide +kernel) rfl
    exact W.vret hx hb hr (fun t ht hW => ⟨⟨(px_v [], px_vi [F_1], px_vl []), rfl, trivial, by rw [ht]; exact hP9, hD9⟩, hS.F ht⟩) hS.2.2 dX11_back_29

set_option maxHeartbeats 4000000 in
set_option maxRecDepth 100000 in
theorem c_X11_table (l : Launch) (D : va_G) (y : Nat → ClassId) (sz : Nat) (mo : Nat) (fmo : List Value) (ms : Nat) (mh : Nat) (mn : Nat) (fms : Nat → Int32) (fmn : Nat → Int64) (hmo_0 : px_g fmo 0 (.int 0)) (hmo_2 : px_g fmo 2 (.int 0)) (hmo_3 : px_g fmo 3 (.int 0)) (hmo_4 : px_g fmo 4 (.int 0)) (hmo_5 : px_g fmo 5 (.int 0)) (hmo_6 : px_g fmo 6 (.ref ms)) (hmo_7 : px_g fmo 7 (.ref mh)) (hmo_9 : px_g fmo 9 (.ref mn)) (hmo_11 : px_g fmo 11 (.int 0)) (hmo_12 : px_g fmo 12 (.int 0)) (hmo_13 : px_g fmo 13 (.int 0)) (hmo_15 : px_g fmo 15 (.int 0)) (hmo_19 : px_g fmo 19 (.int 0)) (hmo_20 : px_g fmo 20 (.int 0)) (hmo_21 : px_g fmo 21 (.int 0)) (hmo_22 : px_g fmo 22 (.int 0)) (hmo_27 : px_g fmo 27 (.int 0)) (hms_e1 : fms 1 = 0) : Met l yX11_table (px_w yX11_table cX11_table 2 (some .int)) ({ frames := 2, cells := 0, slots := 0, locals := 46 }) (va_Pc [.ref mo] (px_P D y sz [px_o mo 11 fmo, px_i ms (y 1) 765 fms, px_i mh (y 1) 584 (fun _ => 0), px_l mn (y 2) 12 fmn])) (va_Qi (fun (r : Int32) (u : Unit) => r = 0) (fun (u : Unit) t => True) (va_A [px_o mo 11 fmo, px_i ms (y 1) 765 fms, px_i mh (y 1) 584 (fun _ => 0), px_l mn (y 2) 12 fmn] sz)) 0 0 (va_A [px_o mo 11 fmo, px_i ms (y 1) 765 fms, px_i mh (y 1) 584 (fun _ => 0), px_l mn (y 2) 12 fmn] sz) := by
  refine Met.ofW (cc := cX11_table) (maxL := 2) (ret := (some .int)) (by decide) rfl ?_
  intro p e s m args below meth c s₁ B hml hv
  obtain ⟨rfl, hsz, hP, hK, hD0⟩ := hv
  have hx := B.exec
  have hb := B.bytes
  have hr := B.returns
  have hts := atoms_spec (ws := px_w yX11_table cX11_table 2 (some .int)) B.pre
  have hg : ∀ w ∈ gw, w.before [.ref mo].toArray s = true := fun w h => hts w (List.mem_cons_of_mem _ h)
  have hown : s.vm.findClass RX11 = some m.cls := findClass_of_methodNamed B.named
  have hlocks := B.notSynchronized
  subst hsz
  have hD := hD0.self (sz := s.heap.size)
  generalize hAe : va_A [px_o mo 11 fmo, px_i ms (y 1) 765 fms, px_i mh (y 1) 584 (fun _ => 0), px_l mn (y 2) 12 fmn] s.heap.size = A at hD ⊢
  have hA : ∀ q : Nat, s.heap.size ≤ q → A q := fun q h => by rw [← hAe]; exact Or.inr h
  have hS : va_S A s.heap s.heap [] := va_S.rf
  have hP : va_P D vwCl [px_o mo 11 fmo, px_i ms (y 1) 765 fms, px_i mh (y 1) 584 (fun _ => 0), px_l mn (y 2) 12 fmn] s.heap := hP
  have hl := lv_entry ([.ref mo]) (n := 2) (Nat.le_of_ble_eq_true rfl)
  rw [lg_entry_eq]
  generalize (lg_sl ([.ref mo]) ++ List.replicate (2 - (lg_sl ([.ref mo])).length) Slot.unset).toArray = ls at hl ⊢
  have hl : lv_has ls 2 [(0, .ref mo)] := hl
  refine lv_aload_n hx hb dX11_table_0 rfl (lv_at hl 0 rfl) ?_
  refine lv_iconst (v := 0) hx hb dX11_table_1 (by decide) ?_
  refine va_put (D := D) (ci := 11) (v := .int 0) (ty := .int) (C := RX11) (T := TX11) (N := 65) hx hb hg inGX11 tyX11 tyX11_ok nmX11 hown hK hP hD hS 0 rfl rfl 0 (by decide) (hg _ q_6_126) (fun _ h9 => h9) rfl (by decide +kernel) rfl rfl (px_len hmo_0) dX11_table_2 (fun H_1 locs_1 hP_1 hD_1 hS_1 => ?_)
  clear hP hD hS
  have hP : va_P D vwCl [px_o mo 11 (fmo.set 0 (.int 0)), px_i ms (y 1) 765 fms, px_i mh (y 1) 584 (fun _ => 0), px_l mn (y 2) 12 fmn] H_1 := hP_1
  have hD : va_D A [px_o mo 11 (fmo.set 0 (.int 0)), px_i ms (y 1) 765 fms, px_i mh (y 1) 584 (fun _ => 0), px_l mn (y 2) 12 fmn] := hD_1
  have hS := hS_1
  clear hP_1 hD_1 hS_1
  refine lv_aload_n hx hb dX11_table_5 rfl (lv_at hl 0 rfl) ?_
  refine lv_sipush (v := 900) hx hb dX11_table_6 (by decide) ?_
  have hPc_2 := hP.sub (ws' := [px_o mo 11 (fmo.set 0 (.int 0))]) [0] rfl
  have hDc_2 := hD.sub (ws' := [px_o mo 11 (fmo.set 0 (.int 0))]) [0] (by decide +kernel) rfl
  have hFc_2 := va_free (wc := [px_o mo 11 (fmo.set 0 (.int 0))]) hD hS hA [0] rfl
  refine va_callv (va_runV (As := [.int 900]) (rest := []) ⟨hx, hb, hml, hown, hg⟩ (c_X11_taken l D y H_1.size mo (fmo.set 0 (.int 0)) 900 (px_sn (by decide) hmo_2) (px_sn (by decide) hmo_3) (px_sn (by decide) hmo_4) (px_sn (by decide) hmo_5)) (cwV 1 hg (px_gV q_7_87 q_7_89 q_p_59 q_1_15 q_7_90) rfl rfl rfl (by decide +kernel) ⟨Nat.le_of_ble_eq_true rfl, Nat.le_of_ble_eq_true rfl⟩) (px_preV hK hPc_2 hDc_2 (ci := 11) (q0 := 0) rfl rfl) rfl rfl hl.1 rfl (lv_room (Nat.le_of_ble_eq_true rfl)) dX11_table_9 ⟨Nat.le_of_ble_eq_true rfl, Nat.le_of_ble_eq_true rfl⟩) hS (fun q _ h => hFc_2 q h) hFc_2 (fun u_2 t_2 H_2 locs_2 ht_2 hvm_2 hw_2 hB_2 hz_2 hk_2 hS_2 => ?_)
  refine W.cs (cells' := 0) (slots' := 0) rfl rfl ?_
  obtain ⟨hP1_2, hD1_2⟩ := hB_2
  rw [ht_2] at hP1_2
  obtain ⟨hP_2, hD_2⟩ := va_join (wr := [px_i ms (y 1) 765 fms, px_i mh (y 1) 584 (fun _ => 0), px_l mn (y 2) 12 fmn]) (w1 := [px_o mo 11 (((((fmo.set 0 (.int 0)).set 3 (.int 0)).set 2 (.int 0)).set 4 (.int 0)).set 5 (.int 900))]) hP hD [0] [1, 2, 3] rfl rfl (by decide +kernel) (by decide +kernel) hk_2 hFc_2 hP1_2 hD1_2
  clear hP hD hS hPc_2 hDc_2 hFc_2 hz_2 hk_2 hvm_2 ht_2 hP1_2 hD1_2
  have hP : va_P D vwCl [px_i ms (y 1) 765 fms, px_i mh (y 1) 584 (fun _ => 0), px_l mn (y 2) 12 fmn, px_o mo 11 (((((fmo.set 0 (.int 0)).set 3 (.int 0)).set 2 (.int 0)).set 4 (.int 0)).set 5 (.int 900))] H_2 := hP_2
  have hD : va_D A [px_i ms (y 1) 765 fms, px_i mh (y 1) 584 (fun _ => 0), px_l mn (y 2) 12 fmn, px_o mo 11 (((((fmo.set 0 (.int 0)).set 3 (.int 0)).set 2 (.int 0)).set 4 (.int 0)).set 5 (.int 900))] := hD_2
  have hS := hS_2
  clear hP_2 hD_2 hS_2
  refine lv_aload_n hx hb dX11_table_12 rfl (lv_at hl 0 rfl) ?_
  refine lv_iconst (v := 0) hx hb dX11_table_13 (by decide) ?_
  refine va_put (D := D) (ci := 11) (v := .int 0) (ty := .int) (C := RX11) (T := TX11) (N := 65) hx hb hg inGX11 tyX11 tyX11_ok nmX11 hown hK hP hD hS 3 rfl rfl 15 (by decide) (hg _ q_6_141) (fun _ h9 => h9) rfl (by decide +kernel) rfl rfl (px_len (px_sn (by decide) (px_sn (by decide) (px_sn (by decide) (px_sn (by decide) (px_sn (by decide) hmo_15)))))) dX11_table_14 (fun H_3 locs_3 hP_3 hD_3 hS_3 => ?_)
  clear hP hD hS
  have hP : va_P D vwCl [px_i ms (y 1) 765 fms, px_i mh (y 1) 584 (fun _ => 0), px_l mn (y 2) 12 fmn, px_o mo 11 ((((((fmo.set 0 (.int 0)).set 3 (.int 0)).set 2 (.int 0)).set 4 (.int 0)).set 5 (.int 900)).set 15 (.int 0))] H_3 := hP_3
  have hD : va_D A [px_i ms (y 1) 765 fms, px_i mh (y 1) 584 (fun _ => 0), px_l mn (y 2) 12 fmn, px_o mo 11 ((((((fmo.set 0 (.int 0)).set 3 (.int 0)).set 2 (.int 0)).set 4 (.int 0)).set 5 (.int 900)).set 15 (.int 0))] := hD_3
  have hS := hS_3
  clear hP_3 hD_3 hS_3
  refine lv_aload_n hx hb dX11_table_17 rfl (lv_at hl 0 rfl) ?_
  refine lv_iconst (v := 0) hx hb dX11_table_18 (by decide) ?_
  refine va_put (D := D) (ci := 11) (v := .int 0) (ty := .int) (C := RX11) (T := TX11) (N := 65) hx hb hg inGX11 tyX11 tyX11_ok nmX11 hown hK hP hD hS 3 rfl rfl 19 (by decide) (hg _ q_6_145) (fun _ h9 => h9) rfl (by decide +kernel) rfl rfl (px_len (px_sn (by decide) (px_sn (by decide) (px_sn (by decide) (px_sn (by decide) (px_sn (by decide) (px_sn (by decide) hmo_19))))))) dX11_table_19 (fun H_4 locs_4 hP_4 hD_4 hS_4 => ?_)
  clear hP hD hS
  have hP : va_P D vwCl [px_i ms (y 1) 765 fms, px_i mh (y 1) 584 (fun _ => 0), px_l mn (y 2) 12 fmn, px_o mo 11 (((((((fmo.set 0 (.int 0)).set 3 (.int 0)).set 2 (.int 0)).set 4 (.int 0)).set 5 (.int 900)).set 15 (.int 0)).set 19 (.int 0))] H_4 := hP_4
  have hD : va_D A [px_i ms (y 1) 765 fms, px_i mh (y 1) 584 (fun _ => 0), px_l mn (y 2) 12 fmn, px_o mo 11 (((((((fmo.set 0 (.int 0)).set 3 (.int 0)).set 2 (.int 0)).set 4 (.int 0)).set 5 (.int 900)).set 15 (.int 0)).set 19 (.int 0))] := hD_4
  have hS := hS_4
  clear hP_4 hD_4 hS_4
  refine lv_aload_n hx hb dX11_table_22 rfl (lv_at hl 0 rfl) ?_
  refine lv_iconst (v := 0) hx hb dX11_table_23 (by decide) ?_
  refine va_put (D := D) (ci := 11) (v := .int 0) (ty := .boolean) (C := RX11) (T := TX11) (N := 65) hx hb hg inGX11 tyX11 tyX11_ok nmX11 hown hK hP hD hS 3 rfl rfl 20 (by decide) (hg _ q_6_146) (fun _ h9 => h9) rfl (by decide +kernel) (by decide) rfl (px_len (px_sn (by decide) (px_sn (by decide) (px_sn (by decide) (px_sn (by decide) (px_sn (by decide) (px_sn (by decide) (px_sn (by decide) hmo_20)))))))) dX11_table_24 (fun H_5 locs_5 hP_5 hD_5 hS_5 => ?_)
  clear hP hD hS
  have hP : va_P D vwCl [px_i ms (y 1) 765 fms, px_i mh (y 1) 584 (fun _ => 0), px_l mn (y 2) 12 fmn, px_o mo 11 ((((((((fmo.set 0 (.int 0)).set 3 (.int 0)).set 2 (.int 0)).set 4 (.int 0)).set 5 (.int 900)).set 15 (.int 0)).set 19 (.int 0)).set 20 (.int 0))] H_5 := hP_5
  have hD : va_D A [px_i ms (y 1) 765 fms, px_i mh (y 1) 584 (fun _ => 0), px_l mn (y 2) 12 fmn, px_o mo 11 ((((((((fmo.set 0 (.int 0)).set 3 (.int 0)).set 2 (.int 0)).set 4 (.int 0)).set 5 (.int 900)).set 15 (.int 0)).set 19 (.int 0)).set 20 (.int 0))] := hD_5
  have hS := hS_5
  clear hP_5 hD_5 hS_5
  refine lv_aload_n hx hb dX11_table_27 rfl (lv_at hl 0 rfl) ?_
  refine lv_iconst (v := 0) hx hb dX11_table_28 (by decide) ?_
  refine va_put (D := D) (ci := 11) (v := .int 0) (ty := .boolean) (C := RX11) (T := TX11) (N := 65) hx hb hg inGX11 tyX11 tyX11_ok nmX11 hown hK hP hD hS 3 rfl rfl 21 (by decide) (hg _ q_6_147) (fun _ h9 => h9) rfl (by decide +kernel) (by decide) rfl (px_len (px_sn (by decide) (px_sn (by decide) (px_sn (by decide) (px_sn (by decide) (px_sn (by decide) (px_sn (by decide) (px_sn (by decide) (px_sn (by decide) hmo_21))))))))) dX11_table_29 (fun H_6 locs_6 hP_6 hD_6 hS_6 => ?_)
  clear hP hD hS
  have hP : va_P D vwCl [px_i ms (y 1) 765 fms, px_i mh (y 1) 584 (fun _ => 0), px_l mn (y 2) 12 fmn, px_o mo 11 (((((((((fmo.set 0 (.int 0)).set 3 (.int 0)).set 2 (.int 0)).set 4 (.int 0)).set 5 (.int 900)).set 15 (.int 0)).set 19 (.int 0)).set 20 (.int 0)).set 21 (.int 0))] H_6 := hP_6
  have hD : va_D A [px_i ms (y 1) 765 fms, px_i mh (y 1) 584 (fun _ => 0), px_l mn (y 2) 12 fmn, px_o mo 11 (((((((((fmo.set 0 (.int 0)).set 3 (.int 0)).set 2 (.int 0)).set 4 (.int 0)).set 5 (.int 900)).set 15 (.int 0)).set 19 (.int 0)).set 20 (.int 0)).set 21 (.int 0))] := hD_6
  have hS := hS_6
  clear hP_6 hD_6 hS_6
  refine lv_aload_n hx hb dX11_table_32 rfl (lv_at hl 0 rfl) ?_
  refine lv_iconst (v := 0) hx hb dX11_table_33 (by decide) ?_
  refine va_put (D := D) (ci := 11) (v := .int 0) (ty := .boolean) (C := RX11) (T := TX11) (N := 65) hx hb hg inGX11 tyX11 tyX11_ok nmX11 hown hK hP hD hS 3 rfl rfl 22 (by decide) (hg _ q_6_148) (fun _ h9 => h9) rfl (by decide +kernel) (by decide) rfl (px_len (px_sn (by decide) (px_sn (by decide) (px_sn (by decide) (px_sn (by decide) (px_sn (by decide) (px_sn (by decide) (px_sn (by decide) (px_sn (by decide) (px_sn (by decide) hmo_22)))))))))) dX11_table_34 (fun H_7 locs_7 hP_7 hD_7 hS_7 => ?_)
  clear hP hD hS
  have hP : va_P D vwCl [px_i ms (y 1) 765 fms, px_i mh (y 1) 584 (fun _ => 0), px_l mn (y 2) 12 fmn, px_o mo 11 ((((((((((fmo.set 0 (.int 0)).set 3 (.int 0)).set 2 (.int 0)).set 4 (.int 0)).set 5 (.int 900)).set 15 (.int 0)).set 19 (.int 0)).set 20 (.int 0)).set 21 (.int 0)).set 22 (.int 0))] H_7 := hP_7
  have hD : va_D A [px_i ms (y 1) 765 fms, px_i mh (y 1) 584 (fun _ => 0), px_l mn (y 2) 12 fmn, px_o mo 11 ((((((((((fmo.set 0 (.int 0)).set 3 (.int 0)).set 2 (.int 0)).set 4 (.int 0)).set 5 (.int 900)).set 15 (.int 0)).set 19 (.int 0)).set 20 (.int 0)).set 21 (.int 0)).set 22 (.int 0))] := hD_7
  have hS := hS_7
  clear hP_7 hD_7 hS_7
  refine lv_iconst (v := 0) hx hb dX11_table_37 (by decide) ?_
  refine lv_istore_n (lv' := [(1, .int 0), (0, .ref mo)]) hx hb dX11_table_38 rfl hl (by decide) rfl (fun ls hl => ?_)
  refine px_loop1 (α := (Nat → Int32)) (nL := 2) 584 (ws := fun i_8 F_8 => [px_i ms (y 1) 765 fms, px_i mh (y 1) 584 F_8, px_l mn (y 2) 12 fmn, px_o mo 11 ((((((((((fmo.set 0 (.int 0)).set 3 (.int 0)).set 2 (.int 0)).set 4 (.int 0)).set 5 (.int 900)).set 15 (.int 0)).set 19 (.int 0)).set 20 (.int 0)).set 21 (.int 0)).set 22 (.int 0))]) (lv := fun i_8 F_8 => [(1, .int (nI i_8)), (0, .ref mo)]) (inv := fun i_8 F_8 => ∀ j, F_8 j = 0) ?_ ?_ 0 (by decide) (fun _ => 0) (fun _ => rfl) hP hD hS (lv_sub hl [0, 1] rfl)
  · clear hP hD hS
    intro i_8 F_8 hi_8 hv_8 ih_8 H_8 locs_8 ls hP hD hS hl
    have hP : va_P D vwCl [px_i ms (y 1) 765 fms, px_i mh (y 1) 584 F_8, px_l mn (y 2) 12 fmn, px_o mo 11 ((((((((((fmo.set 0 (.int 0)).set 3 (.int 0)).set 2 (.int 0)).set 4 (.int 0)).set 5 (.int 900)).set 15 (.int 0)).set 19 (.int 0)).set 20 (.int 0)).set 21 (.int 0)).set 22 (.int 0))] H_8 := hP
    have hD : va_D A [px_i ms (y 1) 765 fms, px_i mh (y 1) 584 F_8, px_l mn (y 2) 12 fmn, px_o mo 11 ((((((((((fmo.set 0 (.int 0)).set 3 (.int 0)).set 2 (.int 0)).set 4 (.int 0)).set 5 (.int 900)).set 15 (.int 0)).set 19 (.int 0)).set 20 (.int 0)).set 21 (.int 0)).set 22 (.int 0))] := hD
    have hl : lv_has ls 2 [(1, .int (nI i_8)), (0, .ref mo)] := hl
    refine lv_iload_n hx hb dX11_table_39 rfl (lv_at hl 0 rfl) ?_
    refine lv_sipush (v := 584) hx hb dX11_table_40 (by decide) ?_
    refine lv_icmp_ge (tgt := 59) hx hb dX11_table_43 (by decide) (fun c_9 => absurd c_9 (nI_ge (by omega) (by decide))) (fun _ => ?_)
    refine lv_aload_n hx hb dX11_table_46 rfl (lv_at hl 1 rfl) ?_
    refine va_get (D := D) (ci := 11) (v := .ref mh) (C := RX11) (T := TX11) (N := 65) hx hb hg inGX11 hown hK hP 3 rfl rfl 7 (by decide) (hg _ q_6_133) (fun _ h9 => h9) (px_sn (by decide) (px_sn (by decide) (px_sn (by decide) (px_sn (by decide) (px_sn (by decide) (px_sn (by decide) (px_sn (by decide) (px_sn (by decide) (px_sn (by decide) (px_sn (by decide) hmo_7)))))))))) dX11_table_47 ?_
    refine lv_iload_n hx hb dX11_table_50 rfl (lv_at hl 0 rfl) ?_
    refine lv_iconst (v := 0) hx hb dX11_table_51 (by decide) ?_
    refine va_iast hx hb hK hP hD hS 1 1 rfl rfl (i := (nI i_8)) (vp_in_nI (by omega) (by decide)) dX11_table_52 (fun H_11 locs_11 hP_11 hD_11 hS_11 => ?_)
    clear hP hD hS
    have hP : va_P D vwCl [px_i ms (y 1) 765 fms, px_i mh (y 1) 584 (upd F_8 (nI i_8).toNatClampNeg 0), px_l mn (y 2) 12 fmn, px_o mo 11 ((((((((((fmo.set 0 (.int 0)).set 3 (.int 0)).set 2 (.int 0)).set 4 (.int 0)).set 5 (.int 900)).set 15 (.int 0)).set 19 (.int 0)).set 20 (.int 0)).set 21 (.int 0)).set 22 (.int 0))] H_11 := hP_11
    have hD : va_D A [px_i ms (y 1) 765 fms, px_i mh (y 1) 584 (upd F_8 (nI i_8).toNatClampNeg 0), px_l mn (y 2) 12 fmn, px_o mo 11 ((((((((((fmo.set 0 (.int 0)).set 3 (.int 0)).set 2 (.int 0)).set 4 (.int 0)).set 5 (.int 900)).set 15 (.int 0)).set 19 (.int 0)).set 20 (.int 0)).set 21 (.int 0)).set 22 (.int 0))] := hD_11
    have hS := hS_11
    clear hP_11 hD_11 hS_11
    refine lv_iinc (v := nI (i_8 + 1)) (lv' := [(1, .int (nI (i_8 + 1))), (0, .ref mo)]) hx hb dX11_table_53 hl (k := 0) rfl (nI_1 i_8) (by decide) rfl (fun ls hl => ?_)
    refine lv_goto (tgt := 39) hx hb dX11_table_56 (by decide) ?_
    exact ih_8 (upd F_8 (nI i_8).toNatClampNeg 0) _ _ ls (fun j => by unfold upd; split <;> first | rfl | exact hv_8 j) hP hD hS (lv_sub hl [0, 1] rfl)
  · clear hP hD hS
    intro F_8 hv_8 H_8 locs_8 ls hP hD hS hl
    have hP : va_P D vwCl [px_i ms (y 1) 765 fms, px_i mh (y 1) 584 F_8, px_l mn (y 2) 12 fmn, px_o mo 11 ((((((((((fmo.set 0 (.int 0)).set 3 (.int 0)).set 2 (.int 0)).set 4 (.int 0)).set 5 (.int 900)).set 15 (.int 0)).set 19 (.int 0)).set 20 (.int 0)).set 21 (.int 0)).set 22 (.int 0))] H_8 := hP
    have hD : va_D A [px_i ms (y 1) 765 fms, px_i mh (y 1) 584 F_8, px_l mn (y 2) 12 fmn, px_o mo 11 ((((((((((fmo.set 0 (.int 0)).set 3 (.int 0)).set 2 (.int 0)).set 4 (.int 0)).set 5 (.int 900)).set 15 (.int 0)).set 19 (.int 0)).set 20 (.int 0)).set 21 (.int 0)).set 22 (.int 0))] := hD
    have hl : lv_has ls 2 [(1, .int 584), (0, .ref mo)] := hl
    refine lv_iload_n hx hb dX11_table_39 rfl (lv_at hl 0 rfl) ?_
    refine lv_sipush (v := 584) hx hb dX11_table_40 (by decide) ?_
    refine lv_icmp_ge (tgt := 59) hx hb dX11_table_43 (by decide) (fun _ => ?_) (fun c_12 => absurd c_12 (by decide))
    refine lv_aload_n hx hb dX11_table_59 rfl (lv_at hl 1 rfl) ?_
    have hPc_13 := hP.sub (ws' := [px_o mo 11 ((((((((((fmo.set 0 (.int 0)).set 3 (.int 0)).set 2 (.int 0)).set 4 (.int 0)).set 5 (.int 900)).set 15 (.int 0)).set 19 (.int 0)).set 20 (.int 0)).set 21 (.int 0)).set 22 (.int 0))]) [3] rfl
    have hDc_13 := hD.sub (ws' := [px_o mo 11 ((((((((((fmo.set 0 (.int 0)).set 3 (.int 0)).set 2 (.int 0)).set 4 (.int 0)).set 5 (.int 900)).set 15 (.int 0)).set 19 (.int 0)).set 20 (.int 0)).set 21 (.int 0)).set 22 (.int 0))]) [3] (by decide +kernel) rfl
    have hFc_13 := va_free (wc := [px_o mo 11 ((((((((((fmo.set 0 (.int 0)).set 3 (.int 0)).set 2 (.int 0)).set 4 (.int 0)).set 5 (.int 900)).set 15 (.int 0)).set 19 (.int 0)).set 20 (.int 0)).set 21 (.int 0)).set 22 (.int 0))]) hD hS hA [3] rfl
    refine va_callv (va_runV (As := []) (rest := []) ⟨hx, hb, hml, hown, hg⟩ (c_X11_next_900 l D y H_8.size mo ((((((((((fmo.set 0 (.int 0)).set 3 (.int 0)).set 2 (.int 0)).set 4 (.int 0)).set 5 (.int 900)).set 15 (.int 0)).set 19 (.int 0)).set 20 (.int 0)).set 21 (.int 0)).set 22 (.int 0)) (px_sn (by decide) (px_sn (by decide) (px_sn (by decide) (px_sn (by decide) (px_sn (by decide) (px_sn (by decide) (px_sn (by decide) (px_sn (by decide) (px_ss (px_sn (by decide) hmo_3)))))))))) (px_sn (by decide) (px_sn (by decide) (px_sn (by decide) (px_sn (by decide) (px_sn (by decide) (px_sn (by decide) (px_ss (px_sn (by decide) (px_sn (by decide) (px_sn (by decide) hmo_4)))))))))) (px_sn (by decide) (px_sn (by decide) (px_sn (by decide) (px_sn (by decide) (px_sn (by decide) (px_ss (px_sn (by decide) (px_sn (by decide) (px_sn (by decide) (px_sn (by decide) hmo_5)))))))))) (px_sn (by decide) (px_sn (by decide) (px_sn (by decide) (px_sn (by decide) (px_sn (by decide) (px_sn (by decide) (px_sn (by decide) (px_sn (by decide) (px_sn (by decide) (px_sn (by decide) hmo_11)))))))))) (px_sn (by decide) (px_sn (by decide) (px_sn (by decide) (px_sn (by decide) (px_sn (by decide) (px_sn (by decide) (px_sn (by decide) (px_sn (by decide) (px_sn (by decide) (px_sn (by decide) hmo_12)))))))))) (px_sn (by decide) (px_sn (by decide) (px_sn (by decide) (px_sn (by decide) (px_sn (by decide) (px_sn (by decide) (px_sn (by decide) (px_sn (by decide) (px_sn (by decide) (px_sn (by decide) hmo_13))))))))))) (cwV 0 hg (px_gV q_7_91 q_7_93 q_p_60 q_1_15 q_7_94) rfl rfl rfl (by decide +kernel) ⟨Nat.le_of_ble_eq_true rfl, Nat.le_of_ble_eq_true rfl⟩) (px_preV hK hPc_13 hDc_13 (ci := 11) (q0 := 0) rfl rfl) rfl rfl hl.1 rfl (lv_room (Nat.le_of_ble_eq_true rfl)) dX11_table_60 ⟨Nat.le_of_ble_eq_true rfl, Nat.le_of_ble_eq_true rfl⟩) hS (fun q _ h => hFc_13 q h) hFc_13 (fun u_13 t_13 H_13 locs_13 ht_13 hvm_13 hw_13 hB_13 hz_13 hk_13 hS_13 => ?_)
    refine W.cs (cells' := 0) (slots' := 0) rfl rfl ?_
    obtain ⟨hP1_13, hD1_13⟩ := hB_13
    rw [ht_13] at hP1_13
    obtain ⟨hP_13, hD_13⟩ := va_join (wr := [px_i ms (y 1) 765 fms, px_i mh (y 1) 584 F_8, px_l mn (y 2) 12 fmn]) (w1 := [px_o mo 11 (((((((((((((fmo.set 0 (.int 0)).set 3 (.int 0)).set 2 (.int 0)).set 4 (.int 0)).set 5 (.int 900)).set 15 (.int 0)).set 19 (.int 0)).set 20 (.int 0)).set 21 (.int 0)).set 22 (.int 0)).set 12 (.int 0)).set 13 (.int 0)).set 11 (.int 0))]) hP hD [3] [0, 1, 2] rfl rfl (by decide +kernel) (by decide +kernel) hk_13 hFc_13 hP1_13 hD1_13
    clear hP hD hS hPc_13 hDc_13 hFc_13 hz_13 hk_13 hvm_13 ht_13 hP1_13 hD1_13
    have hP : va_P D vwCl [px_i ms (y 1) 765 fms, px_i mh (y 1) 584 F_8, px_l mn (y 2) 12 fmn, px_o mo 11 (((((((((((((fmo.set 0 (.int 0)).set 3 (.int 0)).set 2 (.int 0)).set 4 (.int 0)).set 5 (.int 900)).set 15 (.int 0)).set 19 (.int 0)).set 20 (.int 0)).set 21 (.int 0)).set 22 (.int 0)).set 12 (.int 0)).set 13 (.int 0)).set 11 (.int 0))] H_13 := hP_13
    have hD : va_D A [px_i ms (y 1) 765 fms, px_i mh (y 1) 584 F_8, px_l mn (y 2) 12 fmn, px_o mo 11 (((((((((((((fmo.set 0 (.int 0)).set 3 (.int 0)).set 2 (.int 0)).set 4 (.int 0)).set 5 (.int 900)).set 15 (.int 0)).set 19 (.int 0)).set 20 (.int 0)).set 21 (.int 0)).set 22 (.int 0)).set 12 (.int 0)).set 13 (.int 0)).set 11 (.int 0))] := hD_13
    have hS := hS_13
    clear hP_13 hD_13 hS_13
    refine lv_aload_n hx hb dX11_table_63 rfl (lv_at hl 1 rfl) ?_
    refine va_get (D := D) (ci := 11) (v := .int 0) (C := RX11) (T := TX11) (N := 65) hx hb hg inGX11 hown hK hP 3 rfl rfl 11 (by decide) (hg _ q_6_137) (fun _ h9 => h9) (px_ss (px_sn (by decide) (px_sn (by decide) (px_sn (by decide) (px_sn (by decide) (px_sn (by decide) (px_sn (by decide) (px_sn (by decide) (px_sn (by decide) (px_sn (by decide) (px_sn (by decide) (px_sn (by decide) (px_sn (by decide) hmo_11))))))))))))) dX11_table_64 ?_
    refine lv_if_eq (tgt := 106) hx hb dX11_table_67 (by decide) (fun _ => ?_) (fun c_14 => absurd c_14 (by decide))
    refine lv_iconst (v := 0) hx hb dX11_table_106 (by decide) ?_
    refine lv_istore_n (lv' := [(1, .int 0), (0, .ref mo)]) hx hb dX11_table_107 rfl hl (by decide) rfl (fun ls hl => ?_)
    refine px_loop1 (α := (Nat → Int32)) (nL := 2) 765 (ws := fun i_15 F_15 => [px_i ms (y 1) 765 F_15, px_i mh (y 1) 584 F_8, px_l mn (y 2) 12 fmn, px_o mo 11 (((((((((((((fmo.set 0 (.int 0)).set 3 (.int 0)).set 2 (.int 0)).set 4 (.int 0)).set 5 (.int 900)).set 15 (.int 0)).set 19 (.int 0)).set 20 (.int 0)).set 21 (.int 0)).set 22 (.int 0)).set 12 (.int 0)).set 13 (.int 0)).set 11 (.int 0))]) (lv := fun i_15 F_15 => [(1, .int (nI i_15)), (0, .ref mo)]) (inv := fun i_15 F_15 => F_15 1 = 0) ?_ ?_ 0 (by decide) fms hms_e1 hP hD hS (lv_sub hl [0, 1] rfl)
    · clear hP hD hS
      intro i_15 F_15 hi_15 hv_15 ih_15 H_15 locs_15 ls hP hD hS hl
      have hP : va_P D vwCl [px_i ms (y 1) 765 F_15, px_i mh (y 1) 584 F_8, px_l mn (y 2) 12 fmn, px_o mo 11 (((((((((((((fmo.set 0 (.int 0)).set 3 (.int 0)).set 2 (.int 0)).set 4 (.int 0)).set 5 (.int 900)).set 15 (.int 0)).set 19 (.int 0)).set 20 (.int 0)).set 21 (.int 0)).set 22 (.int 0)).set 12 (.int 0)).set 13 (.int 0)).set 11 (.int 0))] H_15 := hP
      have hD : va_D A [px_i ms (y 1) 765 F_15, px_i mh (y 1) 584 F_8, px_l mn (y 2) 12 fmn, px_o mo 11 (((((((((((((fmo.set 0 (.int 0)).set 3 (.int 0)).set 2 (.int 0)).set 4 (.int 0)).set 5 (.int 900)).set 15 (.int 0)).set 19 (.int 0)).set 20 (.int 0)).set 21 (.int 0)).set 22 (.int 0)).set 12 (.int 0)).set 13 (.int 0)).set 11 (.int 0))] := hD
      have hl : lv_has ls 2 [(1, .int (nI i_15)), (0, .ref mo)] := hl
      refine lv_iload_n hx hb dX11_table_108 rfl (lv_at hl 0 rfl) ?_
      refine lv_sipush (v := 765) hx hb dX11_table_109 (by decide) ?_
      refine lv_icmp_ge (tgt := 144) hx hb dX11_table_112 (by decide) (fun c_16 => absurd c_16 (nI_ge (by omega) (by decide))) (fun _ => ?_)
      refine lv_aload_n hx hb dX11_table_115 rfl (lv_at hl 1 rfl) ?_
      refine va_get (D := D) (ci := 11) (v := .ref ms) (C := RX11) (T := TX11) (N := 65) hx hb hg inGX11 hown hK hP 3 rfl rfl 6 (by decide) (hg _ q_6_132) (fun _ h9 => h9) (px_sn (by decide) (px_sn (by decide) (px_sn (by decide) (px_sn (by decide) (px_sn (by decide) (px_sn (by decide) (px_sn (by decide) (px_sn (by decide) (px_sn (by decide) (px_sn (by decide) (px_sn (by decide) (px_sn (by decide) (px_sn (by decide) hmo_6))))))))))))) dX11_table_116 ?_
      refine lv_iload_n hx hb dX11_table_119 rfl (lv_at hl 0 rfl) ?_
      refine lv_iload_n hx hb dX11_table_120 rfl (lv_at hl 0 rfl) ?_
      refine lv_sipush (v := 584) hx hb dX11_table_121 (by decide) ?_
      rcases Nat.lt_or_ge i_15 584 with hn_19 | hn_19
      · refine lv_icmp_ge (tgt := 136) hx hb dX11_table_124 (by decide) (fun c_18 => absurd c_18 (nI_ge hn_19 (by decide))) (fun _ => ?_)
        refine lv_aload_n hx hb dX11_table_127 rfl (lv_at hl 1 rfl) ?_
        refine va_get (D := D) (ci := 11) (v := .ref mh) (C := RX11) (T := TX11) (N := 65) hx hb hg inGX11 hown hK hP 3 rfl rfl 7 (by decide) (hg _ q_6_133) (fun _ h9 => h9) (px_sn (by decide) (px_sn (by decide) (px_sn (by decide) (px_sn (by decide) (px_sn (by decide) (px_sn (by decide) (px_sn (by decide) (px_sn (by decide) (px_sn (by decide) (px_sn (by decide) (px_sn (by decide) (px_sn (by decide) (px_sn (by decide) hmo_7))))))))))))) dX11_table_128 ?_
        refine lv_iload_n hx hb dX11_table_131 rfl (lv_at hl 0 rfl) ?_
        refine va_iald hx hb hK hP 1 1 rfl rfl (i := (nI i_15)) (vp_in_nI (by omega) (by decide)) dX11_table_132 ?_
        refine px_top (v := 0) (hv_8 _) ?_
        refine lv_goto (tgt := 137) hx hb dX11_table_133 (by decide) ?_
        refine va_iast hx hb hK hP hD hS 0 1 rfl rfl (i := (nI i_15)) (vp_in_nI (by omega) (by decide)) dX11_table_137 (fun H_20 locs_20 hP_20 hD_20 hS_20 => ?_)
        clear hP hD hS
        have hP : va_P D vwCl [px_i ms (y 1) 765 (upd F_15 (nI i_15).toNatClampNeg 0), px_i mh (y 1) 584 F_8, px_l mn (y 2) 12 fmn, px_o mo 11 (((((((((((((fmo.set 0 (.int 0)).set 3 (.int 0)).set 2 (.int 0)).set 4 (.int 0)).set 5 (.int 900)).set 15 (.int 0)).set 19 (.int 0)).set 20 (.int 0)).set 21 (.int 0)).set 22 (.int 0)).set 12 (.int 0)).set 13 (.int 0)).set 11 (.int 0))] H_20 := hP_20
        have hD : va_D A [px_i ms (y 1) 765 (upd F_15 (nI i_15).toNatClampNeg 0), px_i mh (y 1) 584 F_8, px_l mn (y 2) 12 fmn, px_o mo 11 (((((((((((((fmo.set 0 (.int 0)).set 3 (.int 0)).set 2 (.int 0)).set 4 (.int 0)).set 5 (.int 900)).set 15 (.int 0)).set 19 (.int 0)).set 20 (.int 0)).set 21 (.int 0)).set 22 (.int 0)).set 12 (.int 0)).set 13 (.int 0)).set 11 (.int 0))] := hD_20
        have hS := hS_20
        clear hP_20 hD_20 hS_20
        refine lv_iinc (v := nI (i_15 + 1)) (lv' := [(1, .int (nI (i_15 + 1))), (0, .ref mo)]) hx hb dX11_table_138 hl (k := 0) rfl (nI_1 i_15) (by decide) rfl (fun ls hl => ?_)
        refine lv_goto (tgt := 108) hx hb dX11_table_141 (by decide) ?_
        exact ih_15 (upd F_15 (nI i_15).toNatClampNeg 0) _ _ ls (by show upd _ _ _ 1 = 0; unfold upd; split <;> first | rfl | exact hv_15) hP hD hS (lv_sub hl [0, 1] rfl)
      · refine lv_icmp_ge (tgt := 136) hx hb dX11_table_124 (by decide) (fun _ => ?_) (fun c_18 => absurd (nI_le hn_19 (by omega)) c_18)
        refine lv_iconst (v := 0) hx hb dX11_table_136 (by decide) ?_
        refine va_iast hx hb hK hP hD hS 0 1 rfl rfl (i := (nI i_15)) (vp_in_nI (by omega) (by decide)) dX11_table_137 (fun H_21 locs_21 hP_21 hD_21 hS_21 => ?_)
        clear hP hD hS
        have hP : va_P D vwCl [px_i ms (y 1) 765 (upd F_15 (nI i_15).toNatClampNeg 0), px_i mh (y 1) 584 F_8, px_l mn (y 2) 12 fmn, px_o mo 11 (((((((((((((fmo.set 0 (.int 0)).set 3 (.int 0)).set 2 (.int 0)).set 4 (.int 0)).set 5 (.int 900)).set 15 (.int 0)).set 19 (.int 0)).set 20 (.int 0)).set 21 (.int 0)).set 22 (.int 0)).set 12 (.int 0)).set 13 (.int 0)).set 11 (.int 0))] H_21 := hP_21
        have hD : va_D A [px_i ms (y 1) 765 (upd F_15 (nI i_15).toNatClampNeg 0), px_i mh (y 1) 584 F_8, px_l mn (y 2) 12 fmn, px_o mo 11 (((((((((((((fmo.set 0 (.int 0)).set 3 (.int 0)).set 2 (.int 0)).set 4 (.int 0)).set 5 (.int 900)).set 15 (.int 0)).set 19 (.int 0)).set 20 (.int 0)).set 21 (.int 0)).set 22 (.int 0)).set 12 (.int 0)).set 13 (.int 0)).set 11 (.int 0))] := hD_21
        have hS := hS_21
        clear hP_21 hD_21 hS_21
        refine lv_iinc (v := nI (i_15 + 1)) (lv' := [(1, .int (nI (i_15 + 1))), (0, .ref mo)]) hx hb dX11_table_138 hl (k := 0) rfl (nI_1 i_15) (by decide) rfl (fun ls hl => ?_)
        refine lv_goto (tgt := 108) hx hb dX11_table_141 (by decide) ?_
        exact ih_15 (upd F_15 (nI i_15).toNatClampNeg 0) _ _ ls (by show upd _ _ _ 1 = 0; unfold upd; split <;> first | rfl | exact hv_15) hP hD hS (lv_sub hl [0, 1] rfl)
    · clear hP hD hS
      intro F_15 hv_15 H_15 locs_15 ls hP hD hS hl
      have hP : va_P D vwCl [px_i ms (y 1) 765 F_15, px_i mh (y 1) 584 F_8, px_l mn (y 2) 12 fmn, px_o mo 11 (((((((((((((fmo.set 0 (.int 0)).set 3 (.int 0)).set 2 (.int 0)).set 4 (.int 0)).set 5 (.int 900)).set 15 (.int 0)).set 19 (.int 0)).set 20 (.int 0)).set 21 (.int 0)).set 22 (.int 0)).set 12 (.int 0)).set 13 (.int 0)).set 11 (.int 0))] H_15 := hP
      have hD : va_D A [px_i ms (y 1) 765 F_15, px_i mh (y 1) 584 F_8, px_l mn (y 2) 12 fmn, px_o mo 11 (((((((((((((fmo.set 0 (.int 0)).set 3 (.int 0)).set 2 (.int 0)).set 4 (.int 0)).set 5 (.int 900)).set 15 (.int 0)).set 19 (.int 0)).set 20 (.int 0)).set 21 (.int 0)).set 22 (.int 0)).set 12 (.int 0)).set 13 (.int 0)).set 11 (.int 0))] := hD
      have hl : lv_has ls 2 [(1, .int 765), (0, .ref mo)] := hl
      refine lv_iload_n hx hb dX11_table_108 rfl (lv_at hl 0 rfl) ?_
      refine lv_sipush (v := 765) hx hb dX11_table_109 (by decide) ?_
      refine lv_icmp_ge (tgt := 144) hx hb dX11_table_112 (by decide) (fun _ => ?_) (fun c_22 => absurd c_22 (by decide))
      refine lv_iconst (v := 0) hx hb dX11_table_144 (by decide) ?_
      refine lv_istore_n (lv' := [(1, .int 0), (0, .ref mo)]) hx hb dX11_table_145 rfl hl (by decide) rfl (fun ls hl => ?_)
      refine lv_iload_n hx hb dX11_table_146 rfl (lv_at hl 0 rfl) ?_
      refine lv_bipush (v := 6) hx hb dX11_table_147 (by decide) ?_
      refine lv_icmp_ge (tgt := 173) hx hb dX11_table_149 (by decide) (fun c_23 => absurd c_23 (by decide)) (fun _ => ?_)
      refine lv_aload_n hx hb dX11_table_152 rfl (lv_at hl 1 rfl) ?_
      refine va_get (D := D) (ci := 11) (v := .ref mn) (C := RX11) (T := TX11) (N := 65) hx hb hg inGX11 hown hK hP 3 rfl rfl 9 (by decide) (hg _ q_6_135) (fun _ h9 => h9) (px_sn (by decide) (px_sn (by decide) (px_sn (by decide) (px_sn (by decide) (px_sn (by decide) (px_sn (by decide) (px_sn (by decide) (px_sn (by decide) (px_sn (by decide) (px_sn (by decide) (px_sn (by decide) (px_sn (by decide) (px_sn (by decide) hmo_9))))))))))))) dX11_table_153 ?_
      refine lv_iload_n hx hb dX11_table_156 rfl (lv_at hl 0 rfl) ?_
      refine lv_aload_n hx hb dX11_table_157 rfl (lv_at hl 1 rfl) ?_
      refine va_get (D := D) (ci := 11) (v := .ref mn) (C := RX11) (T := TX11) (N := 65) hx hb hg inGX11 hown hK hP 3 rfl rfl 9 (by decide) (hg _ q_6_135) (fun _ h9 => h9) (px_sn (by decide) (px_sn (by decide) (px_sn (by decide) (px_sn (by decide) (px_sn (by decide) (px_sn (by decide) (px_sn (by decide) (px_sn (by decide) (px_sn (by decide) (px_sn (by decide) (px_sn (by decide) (px_sn (by decide) (px_sn (by decide) hmo_9))))))))))))) dX11_table_158 ?_
      refine lv_bipush (v := 6) hx hb dX11_table_161 (by decide) ?_
      refine lv_iload_n hx hb dX11_table_163 rfl (lv_at hl 0 rfl) ?_
      refine lv_iadd hx hb dX11_table_164 ?_
      refine px_top (v := 6) (by decide) ?_
      refine va_lald hx hb hK hP 2 2 rfl rfl (i := 6) (px_in (by decide)) dX11_table_165 ?_
      refine va_last hx hb hK hP hD hS 2 2 rfl rfl (i := 0) (px_in (by decide)) dX11_table_166 (fun H_24 locs_24 hP_24 hD_24 hS_24 => ?_)
      clear hP hD hS
      have hP : va_P D vwCl [px_i ms (y 1) 765 F_15, px_i mh (y 1) 584 F_8, px_l mn (y 2) 12 (vp_updL fmn 0 (fmn 6)), px_o mo 11 (((((((((((((fmo.set 0 (.int 0)).set 3 (.int 0)).set 2 (.int 0)).set 4 (.int 0)).set 5 (.int 900)).set 15 (.int 0)).set 19 (.int 0)).set 20 (.int 0)).set 21 (.int 0)).set 22 (.int 0)).set 12 (.int 0)).set 13 (.int 0)).set 11 (.int 0))] H_24 := hP_24
      have hD : va_D A [px_i ms (y 1) 765 F_15, px_i mh (y 1) 584 F_8, px_l mn (y 2) 12 (vp_updL fmn 0 (fmn 6)), px_o mo 11 (((((((((((((fmo.set 0 (.int 0)).set 3 (.int 0)).set 2 (.int 0)).set 4 (.int 0)).set 5 (.int 900)).set 15 (.int 0)).set 19 (.int 0)).set 20 (.int 0)).set 21 (.int 0)).set 22 (.int 0)).set 12 (.int 0)).set 13 (.int 0)).set 11 (.int 0))] := hD_24
      have hS := hS_24
      clear hP_24 hD_24 hS_24
      refine lv_iinc (v := 1) (lv' := [(1, .int 1), (0, .ref mo)]) hx hb dX11_table_167 hl (k := 0) rfl (by decide) (by decide) rfl (fun ls hl => ?_)
      refine lv_goto (tgt := 146) hx hb dX11_table_170 (by decide) ?_
      refine lv_iload_n hx hb dX11_table_146 rfl (lv_at hl 0 rfl) ?_
      refine lv_bipush (v := 6) hx hb dX11_table_147 (by decide) ?_
      refine lv_icmp_ge (tgt := 173) hx hb dX11_table_149 (by decide) (fun c_25 => absurd c_25 (by decide)) (fun _ => ?_)
      refine lv_aload_n hx hb dX11_table_152 rfl (lv_at hl 1 rfl) ?_
      refine va_get (D := D) (ci := 11) (v := .ref mn) (C := RX11) (T := TX11) (N := 65) hx hb hg inGX11 hown hK hP 3 rfl rfl 9 (by decide) (hg _ q_6_135) (fun _ h9 => h9) (px_sn (by decide) (px_sn (by decide) (px_sn (by decide) (px_sn (by decide) (px_sn (by decide) (px_sn (by decide) (px_sn (by decide) (px_sn (by decide) (px_sn (by decide) (px_sn (by decide) (px_sn (by decide) (px_sn (by decide) (px_sn (by decide) hmo_9))))))))))))) dX11_table_153 ?_
      refine lv_iload_n hx hb dX11_table_156 rfl (lv_at hl 0 rfl) ?_
      refine lv_aload_n hx hb dX11_table_157 rfl (lv_at hl 1 rfl) ?_
      refine va_get (D := D) (ci := 11) (v := .ref mn) (C := RX11) (T := TX11) (N := 65) hx hb hg inGX11 hown hK hP 3 rfl rfl 9 (by decide) (hg _ q_6_135) (fun _ h9 => h9) (px_sn (by decide) (px_sn (by decide) (px_sn (by decide) (px_sn (by decide) (px_sn (by decide) (px_sn (by decide) (px_sn (by decide) (px_sn (by decide) (px_sn (by decide) (px_sn (by decide) (px_sn (by decide) (px_sn (by decide) (px_sn (by decide) hmo_9))))))))))))) dX11_table_158 ?_
      refine lv_bipush (v := 6) hx hb dX11_table_161 (by decide) ?_
      refine lv_iload_n hx hb dX11_table_163 rfl (lv_at hl 0 rfl) ?_
      refine lv_iadd hx hb dX11_table_164 ?_
      refine px_top (v := 7) (by decide) ?_
      refine va_lald hx hb hK hP 2 2 rfl rfl (i := 7) (px_in (by decide)) dX11_table_165 ?_
      refine va_last hx hb hK hP hD hS 2 2 rfl rfl (i := 1) (px_in (by decide)) dX11_table_166 (fun H_26 locs_26 hP_26 hD_26 hS_26 => ?_)
      clear hP hD hS
      have hP : va_P D vwCl [px_i ms (y 1) 765 F_15, px_i mh (y 1) 584 F_8, px_l mn (y 2) 12 (vp_updL (vp_updL fmn 0 (fmn 6)) 1 ((vp_updL fmn 0 (fmn 6)) 7)), px_o mo 11 (((((((((((((fmo.set 0 (.int 0)).set 3 (.int 0)).set 2 (.int 0)).set 4 (.int 0)).set 5 (.int 900)).set 15 (.int 0)).set 19 (.int 0)).set 20 (.int 0)).set 21 (.int 0)).set 22 (.int 0)).set 12 (.int 0)).set 13 (.int 0)).set 11 (.int 0))] H_26 := hP_26
      have hD : va_D A [px_i ms (y 1) 765 F_15, px_i mh (y 1) 584 F_8, px_l mn (y 2) 12 (vp_updL (vp_updL fmn 0 (fmn 6)) 1 ((vp_updL fmn 0 (fmn 6)) 7)), px_o mo 11 (((((((((((((fmo.set 0 (.int 0)).set 3 (.int 0)).set 2 (.int 0)).set 4 (.int 0)).set 5 (.int 900)).set 15 (.int 0)).set 19 (.int 0)).set 20 (.int 0)).set 21 (.int 0)).set 22 (.int 0)).set 12 (.int 0)).set 13 (.int 0)).set 11 (.int 0))] := hD_26
      have hS := hS_26
      clear hP_26 hD_26 hS_26
      refine lv_iinc (v := 2) (lv' := [(1, .int 2), (0, .ref mo)]) hx hb dX11_table_167 hl (k := 0) rfl (by decide) (by decide) rfl (fun ls hl => ?_)
      refine lv_goto (tgt := 146) hx hb dX11_table_170 (by decide) ?_
      refine lv_iload_n hx hb dX11_table_146 rfl (lv_at hl 0 rfl) ?_
      refine lv_bipush (v := 6) hx hb dX11_table_147 (by decide) ?_
      refine lv_icmp_ge (tgt := 173) hx hb dX11_table_149 (by decide) (fun c_27 => absurd c_27 (by decide)) (fun _ => ?_)
      refine lv_aload_n hx hb dX11_table_152 rfl (lv_at hl 1 rfl) ?_
      refine va_get (D := D) (ci := 11) (v := .ref mn) (C := RX11) (T := TX11) (N := 65) hx hb hg inGX11 hown hK hP 3 rfl rfl 9 (by decide) (hg _ q_6_135) (fun _ h9 => h9) (px_sn (by decide) (px_sn (by decide) (px_sn (by decide) (px_sn (by decide) (px_sn (by decide) (px_sn (by decide) (px_sn (by decide) (px_sn (by decide) (px_sn (by decide) (px_sn (by decide) (px_sn (by decide) (px_sn (by decide) (px_sn (by decide) hmo_9))))))))))))) dX11_table_153 ?_
      refine lv_iload_n hx hb dX11_table_156 rfl (lv_at hl 0 rfl) ?_
      refine lv_aload_n hx hb dX11_table_157 rfl (lv_at hl 1 rfl) ?_
      refine va_get (D := D) (ci := 11) (v := .ref mn) (C := RX11) (T := TX11) (N := 65) hx hb hg inGX11 hown hK hP 3 rfl rfl 9 (by decide) (hg _ q_6_135) (fun _ h9 => h9) (px_sn (by decide) (px_sn (by decide) (px_sn (by decide) (px_sn (by decide) (px_sn (by decide) (px_sn (by decide) (px_sn (by decide) (px_sn (by decide) (px_sn (by decide) (px_sn (by decide) (px_sn (by decide) (px_sn (by decide) (px_sn (by decide) hmo_9))))))))))))) dX11_table_158 ?_
      refine lv_bipush (v := 6) hx hb dX11_table_161 (by decide) ?_
      refine lv_iload_n hx hb dX11_table_163 rfl (lv_at hl 0 rfl) ?_
      refine lv_iadd hx hb dX11_table_164 ?_
      refine px_top (v := 8) (by decide) ?_
      refine va_lald hx hb hK hP 2 2 rfl rfl (i := 8) (px_in (by decide)) dX11_table_165 ?_
      refine va_last hx hb hK hP hD hS 2 2 rfl rfl (i := 2) (px_in (by decide)) dX11_table_166 (fun H_28 locs_28 hP_28 hD_28 hS_28 => ?_)
      clear hP hD hS
      have hP : va_P D vwCl [px_i ms (y 1) 765 F_15, px_i mh (y 1) 584 F_8, px_l mn (y 2) 12 (vp_updL (vp_updL (vp_updL fmn 0 (fmn 6)) 1 ((vp_updL fmn 0 (fmn 6)) 7)) 2 ((vp_updL (vp_updL fmn 0 (fmn 6)) 1 ((vp_updL fmn 0 (fmn 6)) 7)) 8)), px_o mo 11 (((((((((((((fmo.set 0 (.int 0)).set 3 (.int 0)).set 2 (.int 0)).set 4 (.int 0)).set 5 (.int 900)).set 15 (.int 0)).set 19 (.int 0)).set 20 (.int 0)).set 21 (.int 0)).set 22 (.int 0)).set 12 (.int 0)).set 13 (.int 0)).set 11 (.int 0))] H_28 := hP_28
      have hD : va_D A [px_i ms (y 1) 765 F_15, px_i mh (y 1) 584 F_8, px_l mn (y 2) 12 (vp_updL (vp_updL (vp_updL fmn 0 (fmn 6)) 1 ((vp_updL fmn 0 (fmn 6)) 7)) 2 ((vp_updL (vp_updL fmn 0 (fmn 6)) 1 ((vp_updL fmn 0 (fmn 6)) 7)) 8)), px_o mo 11 (((((((((((((fmo.set 0 (.int 0)).set 3 (.int 0)).set 2 (.int 0)).set 4 (.int 0)).set 5 (.int 900)).set 15 (.int 0)).set 19 (.int 0)).set 20 (.int 0)).set 21 (.int 0)).set 22 (.int 0)).set 12 (.int 0)).set 13 (.int 0)).set 11 (.int 0))] := hD_28
      have hS := hS_28
      clear hP_28 hD_28 hS_28
      refine lv_iinc (v := 3) (lv' := [(1, .int 3), (0, .ref mo)]) hx hb dX11_table_167 hl (k := 0) rfl (by decide) (by decide) rfl (fun ls hl => ?_)
      refine lv_goto (tgt := 146) hx hb dX11_table_170 (by decide) ?_
      refine lv_iload_n hx hb dX11_table_146 rfl (lv_at hl 0 rfl) ?_
      refine lv_bipush (v := 6) hx hb dX11_table_147 (by decide) ?_
      refine lv_icmp_ge (tgt := 173) hx hb dX11_table_149 (by decide) (fun c_29 => absurd c_29 (by decide)) (fun _ => ?_)
      refine lv_aload_n hx hb dX11_table_152 rfl (lv_at hl 1 rfl) ?_
      refine va_get (D := D) (ci := 11) (v := .ref mn) (C := RX11) (T := TX11) (N := 65) hx hb hg inGX11 hown hK hP 3 rfl rfl 9 (by decide) (hg _ q_6_135) (fun _ h9 => h9) (px_sn (by decide) (px_sn (by decide) (px_sn (by decide) (px_sn (by decide) (px_sn (by decide) (px_sn (by decide) (px_sn (by decide) (px_sn (by decide) (px_sn (by decide) (px_sn (by decide) (px_sn (by decide) (px_sn (by decide) (px_sn (by decide) hmo_9))))))))))))) dX11_table_153 ?_
      refine lv_iload_n hx hb dX11_table_156 rfl (lv_at hl 0 rfl) ?_
      refine lv_aload_n hx hb dX11_table_157 rfl (lv_at hl 1 rfl) ?_
      refine va_get (D := D) (ci := 11) (v := .ref mn) (C := RX11) (T := TX11) (N := 65) hx hb hg inGX11 hown hK hP 3 rfl rfl 9 (by decide) (hg _ q_6_135) (fun _ h9 => h9) (px_sn (by decide) (px_sn (by decide) (px_sn (by decide) (px_sn (by decide) (px_sn (by decide) (px_sn (by decide) (px_sn (by decide) (px_sn (by decide) (px_sn (by decide) (px_sn (by decide) (px_sn (by decide) (px_sn (by decide) (px_sn (by decide) hmo_9))))))))))))) dX11_table_158 ?_
      refine lv_bipush (v := 6) hx hb dX11_table_161 (by decide) ?_
      refine lv_iload_n hx hb dX11_table_163 rfl (lv_at hl 0 rfl) ?_
      refine lv_iadd hx hb dX11_table_164 ?_
      refine px_top (v := 9) (by decide) ?_
      refine va_lald hx hb hK hP 2 2 rfl rfl (i := 9) (px_in (by decide)) dX11_table_165 ?_
      refine va_last hx hb hK hP hD hS 2 2 rfl rfl (i := 3) (px_in (by decide)) dX11_table_166 (fun H_30 locs_30 hP_30 hD_30 hS_30 => ?_)
      clear hP hD hS
      have hP : va_P D vwCl [px_i ms (y 1) 765 F_15, px_i mh (y 1) 584 F_8, px_l mn (y 2) 12 (vp_updL (vp_updL (vp_updL (vp_updL fmn 0 (fmn 6)) 1 ((vp_updL fmn 0 (fmn 6)) 7)) 2 ((vp_updL (vp_updL fmn 0 (fmn 6)) 1 ((vp_updL fmn 0 (fmn 6)) 7)) 8)) 3 ((vp_updL (vp_updL (vp_updL fmn 0 (fmn 6)) 1 ((vp_updL fmn 0 (fmn 6)) 7)) 2 ((vp_updL (vp_updL fmn 0 (fmn 6)) 1 ((vp_updL fmn 0 (fmn 6)) 7)) 8)) 9)), px_o mo 11 (((((((((((((fmo.set 0 (.int 0)).set 3 (.int 0)).set 2 (.int 0)).set 4 (.int 0)).set 5 (.int 900)).set 15 (.int 0)).set 19 (.int 0)).set 20 (.int 0)).set 21 (.int 0)).set 22 (.int 0)).set 12 (.int 0)).set 13 (.int 0)).set 11 (.int 0))] H_30 := hP_30
      have hD : va_D A [px_i ms (y 1) 765 F_15, px_i mh (y 1) 584 F_8, px_l mn (y 2) 12 (vp_updL (vp_updL (vp_updL (vp_updL fmn 0 (fmn 6)) 1 ((vp_updL fmn 0 (fmn 6)) 7)) 2 ((vp_updL (vp_updL fmn 0 (fmn 6)) 1 ((vp_updL fmn 0 (fmn 6)) 7)) 8)) 3 ((vp_updL (vp_updL (vp_updL fmn 0 (fmn 6)) 1 ((vp_updL fmn 0 (fmn 6)) 7)) 2 ((vp_updL (vp_updL fmn 0 (fmn 6)) 1 ((vp_updL fmn 0 (fmn 6)) 7)) 8)) 9)), px_o mo 11 (((((((((((((fmo.set 0 (.int 0)).set 3 (.int 0)).set 2 (.int 0)).set 4 (.int 0)).set 5 (.int 900)).set 15 (.int 0)).set 19 (.int 0)).set 20 (.int 0)).set 21 (.int 0)).set 22 (.int 0)).set 12 (.int 0)).set 13 (.int 0)).set 11 (.int 0))] := hD_30
      have hS := hS_30
      clear hP_30 hD_30 hS_30
      refine lv_iinc (v := 4) (lv' := [(1, .int 4), (0, .ref mo)]) hx hb dX11_table_167 hl (k := 0) rfl (by decide) (by decide) rfl (fun ls hl => ?_)
      refine lv_goto (tgt := 146) hx hb dX11_table_170 (by decide) ?_
      refine lv_iload_n hx hb dX11_table_146 rfl (lv_at hl 0 rfl) ?_
      refine lv_bipush (v := 6) hx hb dX11_table_147 (by decide) ?_
      refine lv_icmp_ge (tgt := 173) hx hb dX11_table_149 (by decide) (fun c_31 => absurd c_31 (by decide)) (fun _ => ?_)
      refine lv_aload_n hx hb dX11_table_152 rfl (lv_at hl 1 rfl) ?_
      refine va_get (D := D) (ci := 11) (v := .ref mn) (C := RX11) (T := TX11) (N := 65) hx hb hg inGX11 hown hK hP 3 rfl rfl 9 (by decide) (hg _ q_6_135) (fun _ h9 => h9) (px_sn (by decide) (px_sn (by decide) (px_sn (by decide) (px_sn (by decide) (px_sn (by decide) (px_sn (by decide) (px_sn (by decide) (px_sn (by decide) (px_sn (by decide) (px_sn (by decide) (px_sn (by decide) (px_sn (by decide) (px_sn (by decide) hmo_9))))))))))))) dX11_table_153 ?_
      refine lv_iload_n hx hb dX11_table_156 rfl (lv_at hl 0 rfl) ?_
      refine lv_aload_n hx hb dX11_table_157 rfl (lv_at hl 1 rfl) ?_
      refine va_get (D := D) (ci := 11) (v := .ref mn) (C := RX11) (T := TX11) (N := 65) hx hb hg inGX11 hown hK hP 3 rfl rfl 9 (by decide) (hg _ q_6_135) (fun _ h9 => h9) (px_sn (by decide) (px_sn (by decide) (px_sn (by decide) (px_sn (by decide) (px_sn (by decide) (px_sn (by decide) (px_sn (by decide) (px_sn (by decide) (px_sn (by decide) (px_sn (by decide) (px_sn (by decide) (px_sn (by decide) (px_sn (by decide) hmo_9))))))))))))) dX11_table_158 ?_
      refine lv_bipush (v := 6) hx hb dX11_table_161 (by decide) ?_
      refine lv_iload_n hx hb dX11_table_163 rfl (lv_at hl 0 rfl) ?_
      refine lv_iadd hx hb dX11_table_164 ?_
      refine px_top (v := 10) (by decide) ?_
      refine va_lald hx hb hK hP 2 2 rfl rfl (i := 10) (px_in (by decide)) dX11_table_165 ?_
      refine va_last hx hb hK hP hD hS 2 2 rfl rfl (i := 4) (px_in (by decide)) dX11_table_166 (fun H_32 locs_32 hP_32 hD_32 hS_32 => ?_)
      clear hP hD hS
      have hP : va_P D vwCl [px_i ms (y 1) 765 F_15, px_i mh (y 1) 584 F_8, px_l mn (y 2) 12 (vp_updL (vp_updL (vp_updL (vp_updL (vp_updL fmn 0 (fmn 6)) 1 ((vp_updL fmn 0 (fmn 6)) 7)) 2 ((vp_updL (vp_updL fmn 0 (fmn 6)) 1 ((vp_updL fmn 0 (fmn 6)) 7)) 8)) 3 ((vp_updL (vp_updL (vp_updL fmn 0 (fmn 6)) 1 ((vp_updL fmn 0 (fmn 6)) 7)) 2 ((vp_updL (vp_updL fmn 0 (fmn 6)) 1 ((vp_updL fmn 0 (fmn 6)) 7)) 8)) 9)) 4 ((vp_updL (vp_updL (vp_updL (vp_updL fmn 0 (fmn 6)) 1 ((vp_updL fmn 0 (fmn 6)) 7)) 2 ((vp_updL (vp_updL fmn 0 (fmn 6)) 1 ((vp_updL fmn 0 (fmn 6)) 7)) 8)) 3 ((vp_updL (vp_updL (vp_updL fmn 0 (fmn 6)) 1 ((vp_updL fmn 0 (fmn 6)) 7)) 2 ((vp_updL (vp_updL fmn 0 (fmn 6)) 1 ((vp_updL fmn 0 (fmn 6)) 7)) 8)) 9)) 10)), px_o mo 11 (((((((((((((fmo.set 0 (.int 0)).set 3 (.int 0)).set 2 (.int 0)).set 4 (.int 0)).set 5 (.int 900)).set 15 (.int 0)).set 19 (.int 0)).set 20 (.int 0)).set 21 (.int 0)).set 22 (.int 0)).set 12 (.int 0)).set 13 (.int 0)).set 11 (.int 0))] H_32 := hP_32
      have hD : va_D A [px_i ms (y 1) 765 F_15, px_i mh (y 1) 584 F_8, px_l mn (y 2) 12 (vp_updL (vp_updL (vp_updL (vp_updL (vp_updL fmn 0 (fmn 6)) 1 ((vp_updL fmn 0 (fmn 6)) 7)) 2 ((vp_updL (vp_updL fmn 0 (fmn 6)) 1 ((vp_updL fmn 0 (fmn 6)) 7)) 8)) 3 ((vp_updL (vp_updL (vp_updL fmn 0 (fmn 6)) 1 ((vp_updL fmn 0 (fmn 6)) 7)) 2 ((vp_updL (vp_updL fmn 0 (fmn 6)) 1 ((vp_updL fmn 0 (fmn 6)) 7)) 8)) 9)) 4 ((vp_updL (vp_updL (vp_updL (vp_updL fmn 0 (fmn 6)) 1 ((vp_updL fmn 0 (fmn 6)) 7)) 2 ((vp_updL (vp_updL fmn 0 (fmn 6)) 1 ((vp_updL fmn 0 (fmn 6)) 7)) 8)) 3 ((vp_updL (vp_updL (vp_updL fmn 0 (fmn 6)) 1 ((vp_updL fmn 0 (fmn 6)) 7)) 2 ((vp_updL (vp_updL fmn 0 (fmn 6)) 1 ((vp_updL fmn 0 (fmn 6)) 7)) 8)) 9)) 10)), px_o mo 11 (((((((((((((fmo.set 0 (.int 0)).set 3 (.int 0)).set 2 (.int 0)).set 4 (.int 0)).set 5 (.int 900)).set 15 (.int 0)).set 19 (.int 0)).set 20 (.int 0)).set 21 (.int 0)).set 22 (.int 0)).set 12 (.int 0)).set 13 (.int 0)).set 11 (.int 0))] := hD_32
      have hS := hS_32
      clear hP_32 hD_32 hS_32
      refine lv_iinc (v := 5) (lv' := [(1, .int 5), (0, .ref mo)]) hx hb dX11_table_167 hl (k := 0) rfl (by decide) (by decide) rfl (fun ls hl => ?_)
      refine lv_goto (tgt := 146) hx hb dX11_table_170 (by decide) ?_
      refine lv_iload_n hx hb dX11_table_146 rfl (lv_at hl 0 rfl) ?_
      refine lv_bipush (v := 6) hx hb dX11_table_147 (by decide) ?_
      refine lv_icmp_ge (tgt := 173) hx hb dX11_table_149 (by decide) (fun c_33 => absurd c_33 (by decide)) (fun _ => ?_)
      refine lv_aload_n hx hb dX11_table_152 rfl (lv_at hl 1 rfl) ?_
      refine va_get (D := D) (ci := 11) (v := .ref mn) (C := RX11) (T := TX11) (N := 65) hx hb hg inGX11 hown hK hP 3 rfl rfl 9 (by decide) (hg _ q_6_135) (fun _ h9 => h9) (px_sn (by decide) (px_sn (by decide) (px_sn (by decide) (px_sn (by decide) (px_sn (by decide) (px_sn (by decide) (px_sn (by decide) (px_sn (by decide) (px_sn (by decide) (px_sn (by decide) (px_sn (by decide) (px_sn (by decide) (px_sn (by decide) hmo_9))))))))))))) dX11_table_153 ?_
      refine lv_iload_n hx hb dX11_table_156 rfl (lv_at hl 0 rfl) ?_
      refine lv_aload_n hx hb dX11_table_157 rfl (lv_at hl 1 rfl) ?_
      refine va_get (D := D) (ci := 11) (v := .ref mn) (C := RX11) (T := TX11) (N := 65) hx hb hg inGX11 hown hK hP 3 rfl rfl 9 (by decide) (hg _ q_6_135) (fun _ h9 => h9) (px_sn (by decide) (px_sn (by decide) (px_sn (by decide) (px_sn (by decide) (px_sn (by decide) (px_sn (by decide) (px_sn (by decide) (px_sn (by decide) (px_sn (by decide) (px_sn (by decide) (px_sn (by decide) (px_sn (by decide) (px_sn (by decide) hmo_9))))))))))))) dX11_table_158 ?_
      refine lv_bipush (v := 6) hx hb dX11_table_161 (by decide) ?_
      refine lv_iload_n hx hb dX11_table_163 rfl (lv_at hl 0 rfl) ?_
      refine lv_iadd hx hb dX11_table_164 ?_
      refine px_top (v := 11) (by decide) ?_
      refine va_lald hx hb hK hP 2 2 rfl rfl (i := 11) (px_in (by decide)) dX11_table_165 ?_
      refine va_last hx hb hK hP hD hS 2 2 rfl rfl (i := 5) (px_in (by decide)) dX11_table_166 (fun H_34 locs_34 hP_34 hD_34 hS_34 => ?_)
      clear hP hD hS
      have hP : va_P D vwCl [px_i ms (y 1) 765 F_15, px_i mh (y 1) 584 F_8, px_l mn (y 2) 12 (vp_updL (vp_updL (vp_updL (vp_updL (vp_updL (vp_updL fmn 0 (fmn 6)) 1 ((vp_updL fmn 0 (fmn 6)) 7)) 2 ((vp_updL (vp_updL fmn 0 (fmn 6)) 1 ((vp_updL fmn 0 (fmn 6)) 7)) 8)) 3 ((vp_updL (vp_updL (vp_updL fmn 0 (fmn 6)) 1 ((vp_updL fmn 0 (fmn 6)) 7)) 2 ((vp_updL (vp_updL fmn 0 (fmn 6)) 1 ((vp_updL fmn 0 (fmn 6)) 7)) 8)) 9)) 4 ((vp_updL (vp_updL (vp_updL (vp_updL fmn 0 (fmn 6)) 1 ((vp_updL fmn 0 (fmn 6)) 7)) 2 ((vp_updL (vp_updL fmn 0 (fmn 6)) 1 ((vp_updL fmn 0 (fmn 6)) 7)) 8)) 3 ((vp_updL (vp_updL (vp_updL fmn 0 (fmn 6)) 1 ((vp_updL fmn 0 (fmn 6)) 7)) 2 ((vp_updL (vp_updL fmn 0 (fmn 6)) 1 ((vp_updL fmn 0 (fmn 6)) 7)) 8)) 9)) 10)) 5 ((vp_updL (vp_updL (vp_updL (vp_updL (vp_updL fmn 0 (fmn 6)) 1 ((vp_updL fmn 0 (fmn 6)) 7)) 2 ((vp_updL (vp_updL fmn 0 (fmn 6)) 1 ((vp_updL fmn 0 (fmn 6)) 7)) 8)) 3 ((vp_updL (vp_updL (vp_updL fmn 0 (fmn 6)) 1 ((vp_updL fmn 0 (fmn 6)) 7)) 2 ((vp_updL (vp_updL fmn 0 (fmn 6)) 1 ((vp_updL fmn 0 (fmn 6)) 7)) 8)) 9)) 4 ((vp_updL (vp_updL (vp_updL (vp_updL fmn 0 (fmn 6)) 1 ((vp_updL fmn 0 (fmn 6)) 7)) 2 ((vp_updL (vp_updL fmn 0 (fmn 6)) 1 ((vp_updL fmn 0 (fmn 6)) 7)) 8)) 3 ((vp_updL (vp_updL (vp_updL fmn 0 (fmn 6)) 1 ((vp_updL fmn 0 (fmn 6)) 7)) 2 ((vp_updL (vp_updL fmn 0 (fmn 6)) 1 ((vp_updL fmn 0 (fmn 6)) 7)) 8)) 9)) 10)) 11)), px_o mo 11 (((((((((((((fmo.set 0 (.int 0)).set 3 (.int 0)).set 2 (.int 0)).set 4 (.int 0)).set 5 (.int 900)).set 15 (.int 0)).set 19 (.int 0)).set 20 (.int 0)).set 21 (.int 0)).set 22 (.int 0)).set 12 (.int 0)).set 13 (.int 0)).set 11 (.int 0))] H_34 := hP_34
      have hD : va_D A [px_i ms (y 1) 765 F_15, px_i mh (y 1) 584 F_8, px_l mn (y 2) 12 (vp_updL (vp_updL (vp_updL (vp_updL (vp_updL (vp_updL fmn 0 (fmn 6)) 1 ((vp_updL fmn 0 (fmn 6)) 7)) 2 ((vp_updL (vp_updL fmn 0 (fmn 6)) 1 ((vp_updL fmn 0 (fmn 6)) 7)) 8)) 3 ((vp_updL (vp_updL (vp_updL fmn 0 (fmn 6)) 1 ((vp_updL fmn 0 (fmn 6)) 7)) 2 ((vp_updL (vp_updL fmn 0 (fmn 6)) 1 ((vp_updL fmn 0 (fmn 6)) 7)) 8)) 9)) 4 ((vp_updL (vp_updL (vp_updL (vp_updL fmn 0 (fmn 6)) 1 ((vp_updL fmn 0 (fmn 6)) 7)) 2 ((vp_updL (vp_updL fmn 0 (fmn 6)) 1 ((vp_updL fmn 0 (fmn 6)) 7)) 8)) 3 ((vp_updL (vp_updL (vp_updL fmn 0 (fmn 6)) 1 ((vp_updL fmn 0 (fmn 6)) 7)) 2 ((vp_updL (vp_updL fmn 0 (fmn 6)) 1 ((vp_updL fmn 0 (fmn 6)) 7)) 8)) 9)) 10)) 5 ((vp_updL (vp_updL (vp_updL (vp_updL (vp_updL fmn 0 (fmn 6)) 1 ((vp_updL fmn 0 (fmn 6)) 7)) 2 ((vp_updL (vp_updL fmn 0 (fmn 6)) 1 ((vp_updL fmn 0 (fmn 6)) 7)) 8)) 3 ((vp_updL (vp_updL (vp_updL fmn 0 (fmn 6)) 1 ((vp_updL fmn 0 (fmn 6)) 7)) 2 ((vp_updL (vp_updL fmn 0 (fmn 6)) 1 ((vp_updL fmn 0 (fmn 6)) 7)) 8)) 9)) 4 ((vp_updL (vp_updL (vp_updL (vp_updL fmn 0 (fmn 6)) 1 ((vp_updL fmn 0 (fmn 6)) 7)) 2 ((vp_updL (vp_updL fmn 0 (fmn 6)) 1 ((vp_updL fmn 0 (fmn 6)) 7)) 8)) 3 ((vp_updL (vp_updL (vp_updL fmn 0 (fmn 6)) 1 ((vp_updL fmn 0 (fmn 6)) 7)) 2 ((vp_updL (vp_updL fmn 0 (fmn 6)) 1 ((vp_updL fmn 0 (fmn 6)) 7)) 8)) 9)) 10)) 11)), px_o mo 11 (((((((((((((fmo.set 0 (.int 0)).set 3 (.int 0)).set 2 (.int 0)).set 4 (.int 0)).set 5 (.int 900)).set 15 (.int 0)).set 19 (.int 0)).set 20 (.int 0)).set 21 (.int 0)).set 22 (.int 0)).set 12 (.int 0)).set 13 (.int 0)).set 11 (.int 0))] := hD_34
      have hS := hS_34
      clear hP_34 hD_34 hS_34
      refine lv_iinc (v := 6) (lv' := [(1, .int 6), (0, .ref mo)]) hx hb dX11_table_167 hl (k := 0) rfl (by decide) (by decide) rfl (fun ls hl => ?_)
      refine lv_goto (tgt := 146) hx hb dX11_table_170 (by decide) ?_
      refine lv_iload_n hx hb dX11_table_146 rfl (lv_at hl 0 rfl) ?_
      refine lv_bipush (v := 6) hx hb dX11_table_147 (by decide) ?_
      refine lv_icmp_ge (tgt := 173) hx hb dX11_table_149 (by decide) (fun _ => ?_) (fun c_35 => absurd c_35 (by decide))
      refine lv_aload_n hx hb dX11_table_173 rfl (lv_at hl 1 rfl) ?_
      refine lv_iconst (v := 0) hx hb dX11_table_174 (by decide) ?_
      refine va_put (D := D) (ci := 11) (v := .int 0) (ty := .int) (C := RX11) (T := TX11) (N := 65) hx hb hg inGX11 tyX11 tyX11_ok nmX11 hown hK hP hD hS 3 rfl rfl 27 (by decide) (hg _ q_6_153) (fun _ h9 => h9) rfl (by decide +kernel) rfl rfl (px_len (px_sn (by decide) (px_sn (by decide) (px_sn (by decide) (px_sn (by decide) (px_sn (by decide) (px_sn (by decide) (px_sn (by decide) (px_sn (by decide) (px_sn (by decide) (px_sn (by decide) (px_sn (by decide) (px_sn (by decide) (px_sn (by decide) hmo_27)))))))))))))) dX11_table_175 (fun H_36 locs_36 hP_36 hD_36 hS_36 => ?_)
      clear hP hD hS
      have hP : va_P D vwCl [px_i ms (y 1) 765 F_15, px_i mh (y 1) 584 F_8, px_l mn (y 2) 12 (vp_updL (vp_updL (vp_updL (vp_updL (vp_updL (vp_updL fmn 0 (fmn 6)) 1 ((vp_updL fmn 0 (fmn 6)) 7)) 2 ((vp_updL (vp_updL fmn 0 (fmn 6)) 1 ((vp_updL fmn 0 (fmn 6)) 7)) 8)) 3 ((vp_updL (vp_updL (vp_updL fmn 0 (fmn 6)) 1 ((vp_updL fmn 0 (fmn 6)) 7)) 2 ((vp_updL (vp_updL fmn 0 (fmn 6)) 1 ((vp_updL fmn 0 (fmn 6)) 7)) 8)) 9)) 4 ((vp_updL (vp_updL (vp_updL (vp_updL fmn 0 (fmn 6)) 1 ((vp_updL fmn 0 (fmn 6)) 7)) 2 ((vp_updL (vp_updL fmn 0 (fmn 6)) 1 ((vp_updL fmn 0 (fmn 6)) 7)) 8)) 3 ((vp_updL (vp_updL (vp_updL fmn 0 (fmn 6)) 1 ((vp_updL fmn 0 (fmn 6)) 7)) 2 ((vp_updL (vp_updL fmn 0 (fmn 6)) 1 ((vp_updL fmn 0 (fmn 6)) 7)) 8)) 9)) 10)) 5 ((vp_updL (vp_updL (vp_updL (vp_updL (vp_updL fmn 0 (fmn 6)) 1 ((vp_updL fmn 0 (fmn 6)) 7)) 2 ((vp_updL (vp_updL fmn 0 (fmn 6)) 1 ((vp_updL fmn 0 (fmn 6)) 7)) 8)) 3 ((vp_updL (vp_updL (vp_updL fmn 0 (fmn 6)) 1 ((vp_updL fmn 0 (fmn 6)) 7)) 2 ((vp_updL (vp_updL fmn 0 (fmn 6)) 1 ((vp_updL fmn 0 (fmn 6)) 7)) 8)) 9)) 4 ((vp_updL (vp_updL (vp_updL (vp_updL fmn 0 (fmn 6)) 1 ((vp_updL fmn 0 (fmn 6)) 7)) 2 ((vp_updL (vp_updL fmn 0 (fmn 6)) 1 ((vp_updL fmn 0 (fmn 6)) 7)) 8)) 3 ((vp_updL (vp_updL (vp_updL fmn 0 (fmn 6)) 1 ((vp_updL fmn 0 (fmn 6)) 7)) 2 ((vp_updL (vp_updL fmn 0 (fmn 6)) 1 ((vp_updL fmn 0 (fmn 6)) 7)) 8)) 9)) 10)) 11)), px_o mo 11 ((((((((((((((fmo.set 0 (.int 0)).set 3 (.int 0)).set 2 (.int 0)).set 4 (.int 0)).set 5 (.int 900)).set 15 (.int 0)).set 19 (.int 0)).set 20 (.int 0)).set 21 (.int 0)).set 22 (.int 0)).set 12 (.int 0)).set 13 (.int 0)).set 11 (.int 0)).set 27 (.int 0))] H_36 := hP_36
      have hD : va_D A [px_i ms (y 1) 765 F_15, px_i mh (y 1) 584 F_8, px_l mn (y 2) 12 (vp_updL (vp_updL (vp_updL (vp_updL (vp_updL (vp_updL fmn 0 (fmn 6)) 1 ((vp_updL fmn 0 (fmn 6)) 7)) 2 ((vp_updL (vp_updL fmn 0 (fmn 6)) 1 ((vp_updL fmn 0 (fmn 6)) 7)) 8)) 3 ((vp_updL (vp_updL (vp_updL fmn 0 (fmn 6)) 1 ((vp_updL fmn 0 (fmn 6)) 7)) 2 ((vp_updL (vp_updL fmn 0 (fmn 6)) 1 ((vp_updL fmn 0 (fmn 6)) 7)) 8)) 9)) 4 ((vp_updL (vp_updL (vp_updL (vp_updL fmn 0 (fmn 6)) 1 ((vp_updL fmn 0 (fmn 6)) 7)) 2 ((vp_updL (vp_updL fmn 0 (fmn 6)) 1 ((vp_updL fmn 0 (fmn 6)) 7)) 8)) 3 ((vp_updL (vp_updL (vp_updL fmn 0 (fmn 6)) 1 ((vp_updL fmn 0 (fmn 6)) 7)) 2 ((vp_updL (vp_updL fmn 0 (fmn 6)) 1 ((vp_updL fmn 0 (fmn 6)) 7)) 8)) 9)) 10)) 5 ((vp_updL (vp_updL (vp_updL (vp_updL (vp_updL fmn 0 (fmn 6)) 1 ((vp_updL fmn 0 (fmn 6)) 7)) 2 ((vp_updL (vp_updL fmn 0 (fmn 6)) 1 ((vp_updL fmn 0 (fmn 6)) 7)) 8)) 3 ((vp_updL (vp_updL (vp_updL fmn 0 (fmn 6)) 1 ((vp_updL fmn 0 (fmn 6)) 7)) 2 ((vp_updL (vp_updL fmn 0 (fmn 6)) 1 ((vp_updL fmn 0 (fmn 6)) 7)) 8)) 9)) 4 ((vp_updL (vp_updL (vp_updL (vp_updL fmn 0 (fmn 6)) 1 ((vp_updL fmn 0 (fmn 6)) 7)) 2 ((vp_updL (vp_updL fmn 0 (fmn 6)) 1 ((vp_updL fmn 0 (fmn 6)) 7)) 8)) 3 ((vp_updL (vp_updL (vp_updL fmn 0 (fmn 6)) 1 ((vp_updL fmn 0 (fmn 6)) 7)) 2 ((vp_updL (vp_updL fmn 0 (fmn 6)) 1 ((vp_updL fmn 0 (fmn 6)) 7)) 8)) 9)) 10)) 11)), px_o mo 11 ((((((((((((((fmo.set 0 (.int 0)).set 3 (.int 0)).set 2 (.int 0)).set 4 (.int 0)).set 5 (.int 900)).set 15 (.int 0)).set 19 (.int 0)).set 20 (.int 0)).set 21 (.int 0)).set 22 (.int 0)).set 12 (.int 0)).set 13 (.int 0)).set 11 (.int 0)).set 27 (.int 0))] := hD_36
      have hS := hS_36
      clear hP_36 hD_36 hS_36
      refine lv_aload_n hx hb dX11_table_178 rfl (lv_at hl 1 rfl) ?_
      have hPc_37 := hP.sub (ws' := [px_o mo 11 ((((((((((((((fmo.set 0 (.int 0)).set 3 (.int 0)).set 2 (.int 0)).set 4 (.int 0)).set 5 (.int 900)).set 15 (.int 0)).set 19 (.int 0)).set 20 (.int 0)).set 21 (.int 0)).set 22 (.int 0)).set 12 (.int 0)).set 13 (.int 0)).set 11 (.int 0)).set 27 (.int 0)), px_i ms (y 1) 765 F_15]) [3, 0] rfl
      have hDc_37 := hD.sub (ws' := [px_o mo 11 ((((((((((((((fmo.set 0 (.int 0)).set 3 (.int 0)).set 2 (.int 0)).set 4 (.int 0)).set 5 (.int 900)).set 15 (.int 0)).set 19 (.int 0)).set 20 (.int 0)).set 21 (.int 0)).set 22 (.int 0)).set 12 (.int 0)).set 13 (.int 0)).set 11 (.int 0)).set 27 (.int 0)), px_i ms (y 1) 765 F_15]) [3, 0] (by decide +kernel) rfl
      have hFc_37 := va_free (wc := [px_o mo 11 ((((((((((((((fmo.set 0 (.int 0)).set 3 (.int 0)).set 2 (.int 0)).set 4 (.int 0)).set 5 (.int 900)).set 15 (.int 0)).set 19 (.int 0)).set 20 (.int 0)).set 21 (.int 0)).set 22 (.int 0)).set 12 (.int 0)).set 13 (.int 0)).set 11 (.int 0)).set 27 (.int 0)), px_i ms (y 1) 765 F_15]) hD hS hA [3, 0] rfl
      refine va_callv (va_runV (As := []) (rest := []) ⟨hx, hb, hml, hown, hg⟩ (c_X11_begins l D y H_36.size mo ((((((((((((((fmo.set 0 (.int 0)).set 3 (.int 0)).set 2 (.int 0)).set 4 (.int 0)).set 5 (.int 900)).set 15 (.int 0)).set 19 (.int 0)).set 20 (.int 0)).set 21 (.int 0)).set 22 (.int 0)).set 12 (.int 0)).set 13 (.int 0)).set 11 (.int 0)).set 27 (.int 0)) ms F_15 (px_sn (by decide) (px_sn (by decide) (px_sn (by decide) (px_sn (by decide) (px_sn (by decide) (px_sn (by decide) (px_sn (by decide) (px_sn (by decide) (px_sn (by decide) (px_sn (by decide) (px_sn (by decide) (px_sn (by decide) (px_sn (by decide) (px_sn (by decide) hmo_6)))))))))))))) hv_15) (cwV 0 hg (px_gV q_7_148 q_7_150 q_p_72 q_1_15 q_7_151) rfl rfl rfl (by decide +kernel) ⟨Nat.le_of_ble_eq_true rfl, Nat.le_of_ble_eq_true rfl⟩) (px_preV hK hPc_37 hDc_37 (ci := 11) (q0 := 0) rfl rfl) rfl rfl hl.1 rfl (lv_room (Nat.le_of_ble_eq_true rfl)) dX11_table_179 ⟨Nat.le_of_ble_eq_true rfl, Nat.le_of_ble_eq_true rfl⟩) hS (fun q _ h => hFc_37 q h) hFc_37 (fun u_37 t_37 H_37 locs_37 ht_37 hvm_37 hw_37 hB_37 hz_37 hk_37 hS_37 => ?_)
      refine W.cs (cells' := 0) (slots' := 0) rfl rfl ?_
      obtain ⟨hP1_37, hD1_37⟩ := hB_37
      rw [ht_37] at hP1_37
      obtain ⟨hP_37, hD_37⟩ := va_join (wr := [px_i mh (y 1) 584 F_8, px_l mn (y 2) 12 (vp_updL (vp_updL (vp_updL (vp_updL (vp_updL (vp_updL fmn 0 (fmn 6)) 1 ((vp_updL fmn 0 (fmn 6)) 7)) 2 ((vp_updL (vp_updL fmn 0 (fmn 6)) 1 ((vp_updL fmn 0 (fmn 6)) 7)) 8)) 3 ((vp_updL (vp_updL (vp_updL fmn 0 (fmn 6)) 1 ((vp_updL fmn 0 (fmn 6)) 7)) 2 ((vp_updL (vp_updL fmn 0 (fmn 6)) 1 ((vp_updL fmn 0 (fmn 6)) 7)) 8)) 9)) 4 ((vp_updL (vp_updL (vp_updL (vp_updL fmn 0 (fmn 6)) 1 ((vp_updL fmn 0 (fmn 6)) 7)) 2 ((vp_updL (vp_updL fmn 0 (fmn 6)) 1 ((vp_updL fmn 0 (fmn 6)) 7)) 8)) 3 ((vp_updL (vp_updL (vp_updL fmn 0 (fmn 6)) 1 ((vp_updL fmn 0 (fmn 6)) 7)) 2 ((vp_updL (vp_updL fmn 0 (fmn 6)) 1 ((vp_updL fmn 0 (fmn 6)) 7)) 8)) 9)) 10)) 5 ((vp_updL (vp_updL (vp_updL (vp_updL (vp_updL fmn 0 (fmn 6)) 1 ((vp_updL fmn 0 (fmn 6)) 7)) 2 ((vp_updL (vp_updL fmn 0 (fmn 6)) 1 ((vp_updL fmn 0 (fmn 6)) 7)) 8)) 3 ((vp_updL (vp_updL (vp_updL fmn 0 (fmn 6)) 1 ((vp_updL fmn 0 (fmn 6)) 7)) 2 ((vp_updL (vp_updL fmn 0 (fmn 6)) 1 ((vp_updL fmn 0 (fmn 6)) 7)) 8)) 9)) 4 ((vp_updL (vp_updL (vp_updL (vp_updL fmn 0 (fmn 6)) 1 ((vp_updL fmn 0 (fmn 6)) 7)) 2 ((vp_updL (vp_updL fmn 0 (fmn 6)) 1 ((vp_updL fmn 0 (fmn 6)) 7)) 8)) 3 ((vp_updL (vp_updL (vp_updL fmn 0 (fmn 6)) 1 ((vp_updL fmn 0 (fmn 6)) 7)) 2 ((vp_updL (vp_updL fmn 0 (fmn 6)) 1 ((vp_updL fmn 0 (fmn 6)) 7)) 8)) 9)) 10)) 11))]) (w1 := [px_o mo 11 ((((((((((((((fmo.set 0 (.int 0)).set 3 (.int 0)).set 2 (.int 0)).set 4 (.int 0)).set 5 (.int 900)).set 15 (.int 0)).set 19 (.int 0)).set 20 (.int 0)).set 21 (.int 0)).set 22 (.int 0)).set 12 (.int 0)).set 13 (.int 0)).set 11 (.int 0)).set 27 (.int 0)), px_i ms (y 1) 765 (u_37.2.1 0)]) hP hD [3, 0] [1, 2] rfl rfl (by decide +kernel) (by decide +kernel) hk_37 hFc_37 hP1_37 hD1_37
      clear hP hD hS hPc_37 hDc_37 hFc_37 hz_37 hk_37 hvm_37 ht_37 hP1_37 hD1_37
      have hP : va_P D vwCl [px_i mh (y 1) 584 F_8, px_l mn (y 2) 12 (vp_updL (vp_updL (vp_updL (vp_updL (vp_updL (vp_updL fmn 0 (fmn 6)) 1 ((vp_updL fmn 0 (fmn 6)) 7)) 2 ((vp_updL (vp_updL fmn 0 (fmn 6)) 1 ((vp_updL fmn 0 (fmn 6)) 7)) 8)) 3 ((vp_updL (vp_updL (vp_updL fmn 0 (fmn 6)) 1 ((vp_updL fmn 0 (fmn 6)) 7)) 2 ((vp_updL (vp_updL fmn 0 (fmn 6)) 1 ((vp_updL fmn 0 (fmn 6)) 7)) 8)) 9)) 4 ((vp_updL (vp_updL (vp_updL (vp_updL fmn 0 (fmn 6)) 1 ((vp_updL fmn 0 (fmn 6)) 7)) 2 ((vp_updL (vp_updL fmn 0 (fmn 6)) 1 ((vp_updL fmn 0 (fmn 6)) 7)) 8)) 3 ((vp_updL (vp_updL (vp_updL fmn 0 (fmn 6)) 1 ((vp_updL fmn 0 (fmn 6)) 7)) 2 ((vp_updL (vp_updL fmn 0 (fmn 6)) 1 ((vp_updL fmn 0 (fmn 6)) 7)) 8)) 9)) 10)) 5 ((vp_updL (vp_updL (vp_updL (vp_updL (vp_updL fmn 0 (fmn 6)) 1 ((vp_updL fmn 0 (fmn 6)) 7)) 2 ((vp_updL (vp_updL fmn 0 (fmn 6)) 1 ((vp_updL fmn 0 (fmn 6)) 7)) 8)) 3 ((vp_updL (vp_updL (vp_updL fmn 0 (fmn 6)) 1 ((vp_updL fmn 0 (fmn 6)) 7)) 2 ((vp_updL (vp_updL fmn 0 (fmn 6)) 1 ((vp_updL fmn 0 (fmn 6)) 7)) 8)) 9)) 4 ((vp_updL (vp_updL (vp_updL (vp_updL fmn 0 (fmn 6)) 1 ((vp_updL fmn 0 (fmn 6)) 7)) 2 ((vp_updL (vp_updL fmn 0 (fmn 6)) 1 ((vp_updL fmn 0 (fmn 6)) 7)) 8)) 3 ((vp_updL (vp_updL (vp_updL fmn 0 (fmn 6)) 1 ((vp_updL fmn 0 (fmn 6)) 7)) 2 ((vp_updL (vp_updL fmn 0 (fmn 6)) 1 ((vp_updL fmn 0 (fmn 6)) 7)) 8)) 9)) 10)) 11)), px_o mo 11 ((((((((((((((fmo.set 0 (.int 0)).set 3 (.int 0)).set 2 (.int 0)).set 4 (.int 0)).set 5 (.int 900)).set 15 (.int 0)).set 19 (.int 0)).set 20 (.int 0)).set 21 (.int 0)).set 22 (.int 0)).set 12 (.int 0)).set 13 (.int 0)).set 11 (.int 0)).set 27 (.int 0)), px_i ms (y 1) 765 (u_37.2.1 0)] H_37 := hP_37
      have hD : va_D A [px_i mh (y 1) 584 F_8, px_l mn (y 2) 12 (vp_updL (vp_updL (vp_updL (vp_updL (vp_updL (vp_updL fmn 0 (fmn 6)) 1 ((vp_updL fmn 0 (fmn 6)) 7)) 2 ((vp_updL (vp_updL fmn 0 (fmn 6)) 1 ((vp_updL fmn 0 (fmn 6)) 7)) 8)) 3 ((vp_updL (vp_updL (vp_updL fmn 0 (fmn 6)) 1 ((vp_updL fmn 0 (fmn 6)) 7)) 2 ((vp_updL (vp_updL fmn 0 (fmn 6)) 1 ((vp_updL fmn 0 (fmn 6)) 7)) 8)) 9)) 4 ((vp_updL (vp_updL (vp_updL (vp_updL fmn 0 (fmn 6)) 1 ((vp_updL fmn 0 (fmn 6)) 7)) 2 ((vp_updL (vp_updL fmn 0 (fmn 6)) 1 ((vp_updL fmn 0 (fmn 6)) 7)) 8)) 3 ((vp_updL (vp_updL (vp_updL fmn 0 (fmn 6)) 1 ((vp_updL fmn 0 (fmn 6)) 7)) 2 ((vp_updL (vp_updL fmn 0 (fmn 6)) 1 ((vp_updL fmn 0 (fmn 6)) 7)) 8)) 9)) 10)) 5 ((vp_updL (vp_updL (vp_updL (vp_updL (vp_updL fmn 0 (fmn 6)) 1 ((vp_updL fmn 0 (fmn 6)) 7)) 2 ((vp_updL (vp_updL fmn 0 (fmn 6)) 1 ((vp_updL fmn 0 (fmn 6)) 7)) 8)) 3 ((vp_updL (vp_updL (vp_updL fmn 0 (fmn 6)) 1 ((vp_updL fmn 0 (fmn 6)) 7)) 2 ((vp_updL (vp_updL fmn 0 (fmn 6)) 1 ((vp_updL fmn 0 (fmn 6)) 7)) 8)) 9)) 4 ((vp_updL (vp_updL (vp_updL (vp_updL fmn 0 (fmn 6)) 1 ((vp_updL fmn 0 (fmn 6)) 7)) 2 ((vp_updL (vp_updL fmn 0 (fmn 6)) 1 ((vp_updL fmn 0 (fmn 6)) 7)) 8)) 3 ((vp_updL (vp_updL (vp_updL fmn 0 (fmn 6)) 1 ((vp_updL fmn 0 (fmn 6)) 7)) 2 ((vp_updL (vp_updL fmn 0 (fmn 6)) 1 ((vp_updL fmn 0 (fmn 6)) 7)) 8)) 9)) 10)) 11)), px_o mo 11 ((((((((((((((fmo.set 0 (.int 0)).set 3 (.int 0)).set 2 (.int 0)).set 4 (.int 0)).set 5 (.int 900)).set 15 (.int 0)).set 19 (.int 0)).set 20 (.int 0)).set 21 (.int 0)).set 22 (.int 0)).set 12 (.int 0)).set 13 (.int 0)).set 11 (.int 0)).set 27 (.int 0)), px_i ms (y 1) 765 (u_37.2.1 0)] := hD_37
      have hS := hS_37
      clear hP_37 hD_37 hS_37
      refine lv_aload_n hx hb dX11_table_182 rfl (lv_at hl 1 rfl) ?_
      refine va_get (D := D) (ci := 11) (v := .int 0) (C := RX11) (T := TX11) (N := 65) hx hb hg inGX11 hown hK hP 2 rfl rfl 19 (by decide) (hg _ q_6_145) (fun _ h9 => h9) (px_sn (by decide) (px_sn (by decide) (px_sn (by decide) (px_sn (by decide) (px_sn (by decide) (px_sn (by decide) (px_sn (by decide) (px_ss (px_sn (by decide) (px_sn (by decide) (px_sn (by decide) (px_sn (by decide) (px_sn (by decide) (px_sn (by decide) hmo_19)))))))))))))) dX11_table_183 ?_
      exact W.iret (v := 0) hx hb hr (fun t ht hW => ⟨⟨_, (), rfl, rfl, trivial⟩, hS.F ht⟩) hS.2.2 dX11_table_186

set_option maxHeartbeats 4000000 in
set_option maxRecDepth 100000 in
theorem c_X11_evening (l : Launch) (D : va_G) (y : Nat → ClassId) (sz : Nat) (mo : Nat) (fmo : List Value) (ms : Nat) (mb : Nat) (me : Nat) (fms : Nat → Int32) (fmb : Nat → Int32) (fme : Nat → Int32) (p0 : Int32) (hmo_0 : px_g fmo 0 (.int 0)) (hmo_2 : px_g fmo 2 (.int 0)) (hmo_3 : px_g fmo 3 (.int 0)) (hmo_4 : px_g fmo 4 (.int 0)) (hmo_5 : px_g fmo 5 (.int 0)) (hmo_6 : px_g fmo 6 (.ref ms)) (hmo_11 : px_g fmo 11 (.int 0)) (hmo_12 : px_g fmo 12 (.int 0)) (hmo_13 : px_g fmo 13 (.int 0)) (hmo_15 : px_g fmo 15 (.int 0)) (hmo_26 : px_g fmo 26 (.ref mb)) (hmo_52 : px_g fmo 52 (.int 0)) (hmo_53 : px_g fmo 53 (.ref me)) (hmo_54 : px_g fmo 54 (.int 0)) (hms_e4 : fms 4 = (-1)) (hms_e138 : fms 138 = 0) (hms_e139 : fms 139 = 0) (hms_e140 : fms 140 = 0) (hms_e141 : fms 141 = 0) (hms_e142 : fms 142 = 0) (hms_e143 : fms 143 = 0) (hms_e144 : fms 144 = 0) (hms_e145 : fms 145 = 0) (hms_e146 : fms 146 = 0) (hms_e147 : fms 147 = 0) (hms_e148 : fms 148 = 0) (hms_e149 : fms 149 = 0) (hms_e150 : fms 150 = 0) : Met l yX11_evening (px_w yX11_evening cX11_evening 6 (some .int)) ({ frames := 2, cells := 0, slots := 0, locals := 43 }) (va_Pc [.ref mo, .int p0] (px_P D y sz [px_o mo 11 fmo, px_i ms (y 1) 765 fms, px_i mb (y 1) 580 fmb, px_i me (y 1) 4 fme])) (va_Qi (fun (r : Int32) (u : Unit) => r = px_eve p0) (fun (u : Unit) t => True) (va_A [px_o mo 11 fmo, px_i ms (y 1) 765 fms, px_i mb (y 1) 580 fmb, px_i me (y 1) 4 fme] sz)) 0 0 (va_A [px_o mo 11 fmo, px_i ms (y 1) 765 fms, px_i mb (y 1) 580 fmb, px_i me (y 1) 4 fme] sz) := by
  refine Met.ofW (cc := cX11_evening) (maxL := 6) (ret := (some .int)) (by decide) rfl ?_
  intro p e s m args below meth c s₁ B hml hv
  obtain ⟨rfl, hsz, hP, hK, hD0⟩ := hv
  have hx := B.exec
  have hb := B.bytes
  have hr := B.returns
  have hts := atoms_spec (ws := px_w yX11_evening cX11_evening 6 (some .int)) B.pre
  have hg : ∀ w ∈ gw, w.before [.ref mo, .int p0].toArray s = true := fun w h => hts w (List.mem_cons_of_mem _ h)
  have hown : s.vm.findClass RX11 = some m.cls := findClass_of_methodNamed B.named
  have hlocks := B.notSynchronized
  subst hsz
  have hD := hD0.self (sz := s.heap.size)
  generalize hAe : va_A [px_o mo 11 fmo, px_i ms (y 1) 765 fms, px_i mb (y 1) 580 fmb, px_i me (y 1) 4 fme] s.heap.size = A at hD ⊢
  have hA : ∀ q : Nat, s.heap.size ≤ q → A q := fun q h => by rw [← hAe]; exact Or.inr h
  have hS : va_S A s.heap s.heap [] := va_S.rf
  have hP : va_P D vwCl [px_o mo 11 fmo, px_i ms (y 1) 765 fms, px_i mb (y 1) 580 fmb, px_i me (y 1) 4 fme] s.heap := hP
  have hl := lv_entry ([.ref mo, .int p0]) (n := 6) (Nat.le_of_ble_eq_true rfl)
  rw [lg_entry_eq]
  generalize (lg_sl ([.ref mo, .int p0]) ++ List.replicate (6 - (lg_sl ([.ref mo, .int p0])).length) Slot.unset).toArray = ls at hl ⊢
  have hl : lv_has ls 6 [(0, .ref mo), (1, .int p0)] := hl
  refine lv_aload_n hx hb dX11_evening_0 rfl (lv_at hl 0 rfl) ?_
  refine lv_iconst (v := 0) hx hb dX11_evening_1 (by decide) ?_
  refine va_put (D := D) (ci := 11) (v := .int 0) (ty := .int) (C := RX11) (T := TX11) (N := 65) hx hb hg inGX11 tyX11 tyX11_ok nmX11 hown hK hP hD hS 0 rfl rfl 0 (by decide) (hg _ q_6_126) (fun _ h9 => h9) rfl (by decide +kernel) rfl rfl (px_len hmo_0) dX11_evening_2 (fun H_1 locs_1 hP_1 hD_1 hS_1 => ?_)
  clear hP hD hS
  have hP : va_P D vwCl [px_o mo 11 (fmo.set 0 (.int 0)), px_i ms (y 1) 765 fms, px_i mb (y 1) 580 fmb, px_i me (y 1) 4 fme] H_1 := hP_1
  have hD : va_D A [px_o mo 11 (fmo.set 0 (.int 0)), px_i ms (y 1) 765 fms, px_i mb (y 1) 580 fmb, px_i me (y 1) 4 fme] := hD_1
  have hS := hS_1
  clear hP_1 hD_1 hS_1
  refine lv_iload_n hx hb dX11_evening_5 rfl (lv_at hl 1 rfl) ?_
  refine lv_iconst (v := 0) hx hb dX11_evening_6 (by decide) ?_
  refine lv_iconst (v := 1) hx hb dX11_evening_7 (by decide) ?_
  have hPc_2 := hP.sub (ws' := []) [] rfl
  have hDc_2 := hD.sub (ws' := []) [] (by decide +kernel) rfl
  refine vp_callSi (va_Run.run (va_runS (As := [.int p0, .int 0, .int 1]) (rest := []) ⟨hx, hb, hml, hown, hg⟩ (c_X11_isIn l D y H_1.size p0 0 1 ) (va_cwS 3 hg (px_gS q_7_121 q_7_122 q_1_15 q_7_123) rfl rfl rfl (by decide +kernel) ⟨Nat.le_of_ble_eq_true rfl, Nat.le_of_ble_eq_true rfl⟩) (px_preS hK hPc_2 hDc_2) rfl rfl hl.1 rfl (lv_room (Nat.le_of_ble_eq_true rfl)) dX11_evening_8 ⟨Nat.le_of_ble_eq_true rfl, Nat.le_of_ble_eq_true rfl⟩)) (fun r_2 hw_2 => ?_)
  clear hPc_2 hDc_2
  rcases hw_2 with ⟨rfl, g_2_0_0, g_2_0_1⟩ | ⟨rfl, g_2_1_0⟩ | ⟨rfl, g_2_2_0⟩
  · refine lv_if_ne (tgt := 18) hx hb dX11_evening_11 (by decide) (fun _ => ?_) (fun c_3 => absurd c_3 (by decide))
    refine lv_aload_n hx hb dX11_evening_18 rfl (lv_at hl 0 rfl) ?_
    refine lv_sipush (v := 500) hx hb dX11_evening_19 (by decide) ?_
    have hPc_4 := hP.sub (ws' := [px_o mo 11 (fmo.set 0 (.int 0))]) [0] rfl
    have hDc_4 := hD.sub (ws' := [px_o mo 11 (fmo.set 0 (.int 0))]) [0] (by decide +kernel) rfl
    have hFc_4 := va_free (wc := [px_o mo 11 (fmo.set 0 (.int 0))]) hD hS hA [0] rfl
    refine va_callv (va_runV (As := [.int 500]) (rest := []) ⟨hx, hb, hml, hown, hg⟩ (c_X11_taken l D y H_1.size mo (fmo.set 0 (.int 0)) 500 (px_sn (by decide) hmo_2) (px_sn (by decide) hmo_3) (px_sn (by decide) hmo_4) (px_sn (by decide) hmo_5)) (cwV 1 hg (px_gV q_7_87 q_7_89 q_p_59 q_1_15 q_7_90) rfl rfl rfl (by decide +kernel) ⟨Nat.le_of_ble_eq_true rfl, Nat.le_of_ble_eq_true rfl⟩) (px_preV hK hPc_4 hDc_4 (ci := 11) (q0 := 0) rfl rfl) rfl rfl hl.1 rfl (lv_room (Nat.le_of_ble_eq_true rfl)) dX11_evening_22 ⟨Nat.le_of_ble_eq_true rfl, Nat.le_of_ble_eq_true rfl⟩) hS (fun q _ h => hFc_4 q h) hFc_4 (fun u_4 t_4 H_4 locs_4 ht_4 hvm_4 hw_4 hB_4 hz_4 hk_4 hS_4 => ?_)
    refine W.cs (cells' := 0) (slots' := 0) rfl rfl ?_
    obtain ⟨hP1_4, hD1_4⟩ := hB_4
    rw [ht_4] at hP1_4
    obtain ⟨hP_4, hD_4⟩ := va_join (wr := [px_i ms (y 1) 765 fms, px_i mb (y 1) 580 fmb, px_i me (y 1) 4 fme]) (w1 := [px_o mo 11 (((((fmo.set 0 (.int 0)).set 3 (.int 0)).set 2 (.int 0)).set 4 (.int 0)).set 5 (.int 500))]) hP hD [0] [1, 2, 3] rfl rfl (by decide +kernel) (by decide +kernel) hk_4 hFc_4 hP1_4 hD1_4
    clear hP hD hS hPc_4 hDc_4 hFc_4 hz_4 hk_4 hvm_4 ht_4 hP1_4 hD1_4
    have hP : va_P D vwCl [px_i ms (y 1) 765 fms, px_i mb (y 1) 580 fmb, px_i me (y 1) 4 fme, px_o mo 11 (((((fmo.set 0 (.int 0)).set 3 (.int 0)).set 2 (.int 0)).set 4 (.int 0)).set 5 (.int 500))] H_4 := hP_4
    have hD : va_D A [px_i ms (y 1) 765 fms, px_i mb (y 1) 580 fmb, px_i me (y 1) 4 fme, px_o mo 11 (((((fmo.set 0 (.int 0)).set 3 (.int 0)).set 2 (.int 0)).set 4 (.int 0)).set 5 (.int 500))] := hD_4
    have hS := hS_4
    clear hP_4 hD_4 hS_4
    refine lv_aload_n hx hb dX11_evening_25 rfl (lv_at hl 0 rfl) ?_
    refine lv_iconst (v := 0) hx hb dX11_evening_26 (by decide) ?_
    refine va_put (D := D) (ci := 11) (v := .int 0) (ty := .int) (C := RX11) (T := TX11) (N := 65) hx hb hg inGX11 tyX11 tyX11_ok nmX11 hown hK hP hD hS 3 rfl rfl 15 (by decide) (hg _ q_6_141) (fun _ h9 => h9) rfl (by decide +kernel) rfl rfl (px_len (px_sn (by decide) (px_sn (by decide) (px_sn (by decide) (px_sn (by decide) (px_sn (by decide) hmo_15)))))) dX11_evening_27 (fun H_5 locs_5 hP_5 hD_5 hS_5 => ?_)
    clear hP hD hS
    have hP : va_P D vwCl [px_i ms (y 1) 765 fms, px_i mb (y 1) 580 fmb, px_i me (y 1) 4 fme, px_o mo 11 ((((((fmo.set 0 (.int 0)).set 3 (.int 0)).set 2 (.int 0)).set 4 (.int 0)).set 5 (.int 500)).set 15 (.int 0))] H_5 := hP_5
    have hD : va_D A [px_i ms (y 1) 765 fms, px_i mb (y 1) 580 fmb, px_i me (y 1) 4 fme, px_o mo 11 ((((((fmo.set 0 (.int 0)).set 3 (.int 0)).set 2 (.int 0)).set 4 (.int 0)).set 5 (.int 500)).set 15 (.int 0))] := hD_5
    have hS := hS_5
    clear hP_5 hD_5 hS_5
    refine lv_aload_n hx hb dX11_evening_30 rfl (lv_at hl 0 rfl) ?_
    refine lv_iconst (v := 0) hx hb dX11_evening_31 (by decide) ?_
    refine va_put (D := D) (ci := 11) (v := .int 0) (ty := .int) (C := RX11) (T := TX11) (N := 65) hx hb hg inGX11 tyX11 tyX11_ok nmX11 hown hK hP hD hS 3 rfl rfl 52 (by decide) (hg _ q_6_178) (fun _ h9 => h9) rfl (by decide +kernel) rfl rfl (px_len (px_sn (by decide) (px_sn (by decide) (px_sn (by decide) (px_sn (by decide) (px_sn (by decide) (px_sn (by decide) hmo_52))))))) dX11_evening_32 (fun H_6 locs_6 hP_6 hD_6 hS_6 => ?_)
    clear hP hD hS
    have hP : va_P D vwCl [px_i ms (y 1) 765 fms, px_i mb (y 1) 580 fmb, px_i me (y 1) 4 fme, px_o mo 11 (((((((fmo.set 0 (.int 0)).set 3 (.int 0)).set 2 (.int 0)).set 4 (.int 0)).set 5 (.int 500)).set 15 (.int 0)).set 52 (.int 0))] H_6 := hP_6
    have hD : va_D A [px_i ms (y 1) 765 fms, px_i mb (y 1) 580 fmb, px_i me (y 1) 4 fme, px_o mo 11 (((((((fmo.set 0 (.int 0)).set 3 (.int 0)).set 2 (.int 0)).set 4 (.int 0)).set 5 (.int 500)).set 15 (.int 0)).set 52 (.int 0))] := hD_6
    have hS := hS_6
    clear hP_6 hD_6 hS_6
    refine lv_aload_n hx hb dX11_evening_35 rfl (lv_at hl 0 rfl) ?_
    have hPc_7 := hP.sub (ws' := [px_o mo 11 (((((((fmo.set 0 (.int 0)).set 3 (.int 0)).set 2 (.int 0)).set 4 (.int 0)).set 5 (.int 500)).set 15 (.int 0)).set 52 (.int 0))]) [3] rfl
    have hDc_7 := hD.sub (ws' := [px_o mo 11 (((((((fmo.set 0 (.int 0)).set 3 (.int 0)).set 2 (.int 0)).set 4 (.int 0)).set 5 (.int 500)).set 15 (.int 0)).set 52 (.int 0))]) [3] (by decide +kernel) rfl
    have hFc_7 := va_free (wc := [px_o mo 11 (((((((fmo.set 0 (.int 0)).set 3 (.int 0)).set 2 (.int 0)).set 4 (.int 0)).set 5 (.int 500)).set 15 (.int 0)).set 52 (.int 0))]) hD hS hA [3] rfl
    refine va_callv (va_runV (As := []) (rest := []) ⟨hx, hb, hml, hown, hg⟩ (c_X11_next_500 l D y H_6.size mo (((((((fmo.set 0 (.int 0)).set 3 (.int 0)).set 2 (.int 0)).set 4 (.int 0)).set 5 (.int 500)).set 15 (.int 0)).set 52 (.int 0)) (px_sn (by decide) (px_sn (by decide) (px_sn (by decide) (px_sn (by decide) (px_sn (by decide) (px_ss (px_sn (by decide) hmo_3))))))) (px_sn (by decide) (px_sn (by decide) (px_sn (by decide) (px_ss (px_sn (by decide) (px_sn (by decide) (px_sn (by decide) hmo_4))))))) (px_sn (by decide) (px_sn (by decide) (px_ss (px_sn (by decide) (px_sn (by decide) (px_sn (by decide) (px_sn (by decide) hmo_5))))))) (px_sn (by decide) (px_sn (by decide) (px_sn (by decide) (px_sn (by decide) (px_sn (by decide) (px_sn (by decide) (px_sn (by decide) hmo_11))))))) (px_sn (by decide) (px_sn (by decide) (px_sn (by decide) (px_sn (by decide) (px_sn (by decide) (px_sn (by decide) (px_sn (by decide) hmo_12))))))) (px_sn (by decide) (px_sn (by decide) (px_sn (by decide) (px_sn (by decide) (px_sn (by decide) (px_sn (by decide) (px_sn (by decide) hmo_13)))))))) (cwV 0 hg (px_gV q_7_91 q_7_93 q_p_60 q_1_15 q_7_94) rfl rfl rfl (by decide +kernel) ⟨Nat.le_of_ble_eq_true rfl, Nat.le_of_ble_eq_true rfl⟩) (px_preV hK hPc_7 hDc_7 (ci := 11) (q0 := 0) rfl rfl) rfl rfl hl.1 rfl (lv_room (Nat.le_of_ble_eq_true rfl)) dX11_evening_36 ⟨Nat.le_of_ble_eq_true rfl, Nat.le_of_ble_eq_true rfl⟩) hS (fun q _ h => hFc_7 q h) hFc_7 (fun u_7 t_7 H_7 locs_7 ht_7 hvm_7 hw_7 hB_7 hz_7 hk_7 hS_7 => ?_)
    refine W.cs (cells' := 0) (slots' := 0) rfl rfl ?_
    obtain ⟨hP1_7, hD1_7⟩ := hB_7
    rw [ht_7] at hP1_7
    obtain ⟨hP_7, hD_7⟩ := va_join (wr := [px_i ms (y 1) 765 fms, px_i mb (y 1) 580 fmb, px_i me (y 1) 4 fme]) (w1 := [px_o mo 11 ((((((((((fmo.set 0 (.int 0)).set 3 (.int 0)).set 2 (.int 0)).set 4 (.int 0)).set 5 (.int 500)).set 15 (.int 0)).set 52 (.int 0)).set 12 (.int 0)).set 13 (.int 0)).set 11 (.int 0))]) hP hD [3] [0, 1, 2] rfl rfl (by decide +kernel) (by decide +kernel) hk_7 hFc_7 hP1_7 hD1_7
    clear hP hD hS hPc_7 hDc_7 hFc_7 hz_7 hk_7 hvm_7 ht_7 hP1_7 hD1_7
    have hP : va_P D vwCl [px_i ms (y 1) 765 fms, px_i mb (y 1) 580 fmb, px_i me (y 1) 4 fme, px_o mo 11 ((((((((((fmo.set 0 (.int 0)).set 3 (.int 0)).set 2 (.int 0)).set 4 (.int 0)).set 5 (.int 500)).set 15 (.int 0)).set 52 (.int 0)).set 12 (.int 0)).set 13 (.int 0)).set 11 (.int 0))] H_7 := hP_7
    have hD : va_D A [px_i ms (y 1) 765 fms, px_i mb (y 1) 580 fmb, px_i me (y 1) 4 fme, px_o mo 11 ((((((((((fmo.set 0 (.int 0)).set 3 (.int 0)).set 2 (.int 0)).set 4 (.int 0)).set 5 (.int 500)).set 15 (.int 0)).set 52 (.int 0)).set 12 (.int 0)).set 13 (.int 0)).set 11 (.int 0))] := hD_7
    have hS := hS_7
    clear hP_7 hD_7 hS_7
    refine lv_aload_n hx hb dX11_evening_39 rfl (lv_at hl 0 rfl) ?_
    refine va_get (D := D) (ci := 11) (v := .int 0) (C := RX11) (T := TX11) (N := 65) hx hb hg inGX11 hown hK hP 3 rfl rfl 11 (by decide) (hg _ q_6_137) (fun _ h9 => h9) (px_ss (px_sn (by decide) (px_sn (by decide) (px_sn (by decide) (px_sn (by decide) (px_sn (by decide) (px_sn (by decide) (px_sn (by decide) (px_sn (by decide) (px_sn (by decide) hmo_11)))))))))) dX11_evening_40 ?_
    refine lv_if_eq (tgt := 83) hx hb dX11_evening_43 (by decide) (fun _ => ?_) (fun c_8 => absurd c_8 (by decide))
    refine lv_aload_n hx hb dX11_evening_83 rfl (lv_at hl 0 rfl) ?_
    have hPc_9 := hP.sub (ws' := [px_o mo 11 ((((((((((fmo.set 0 (.int 0)).set 3 (.int 0)).set 2 (.int 0)).set 4 (.int 0)).set 5 (.int 500)).set 15 (.int 0)).set 52 (.int 0)).set 12 (.int 0)).set 13 (.int 0)).set 11 (.int 0)), px_i ms (y 1) 765 fms, px_i mb (y 1) 580 fmb]) [3, 0, 1] rfl
    have hDc_9 := hD.sub (ws' := [px_o mo 11 ((((((((((fmo.set 0 (.int 0)).set 3 (.int 0)).set 2 (.int 0)).set 4 (.int 0)).set 5 (.int 500)).set 15 (.int 0)).set 52 (.int 0)).set 12 (.int 0)).set 13 (.int 0)).set 11 (.int 0)), px_i ms (y 1) 765 fms, px_i mb (y 1) 580 fmb]) [3, 0, 1] (by decide +kernel) rfl
    have hFc_9 := va_free (wc := [px_o mo 11 ((((((((((fmo.set 0 (.int 0)).set 3 (.int 0)).set 2 (.int 0)).set 4 (.int 0)).set 5 (.int 500)).set 15 (.int 0)).set 52 (.int 0)).set 12 (.int 0)).set 13 (.int 0)).set 11 (.int 0)), px_i ms (y 1) 765 fms, px_i mb (y 1) 580 fmb]) hD hS hA [3, 0, 1] rfl
    refine va_callv (va_runV (As := []) (rest := []) ⟨hx, hb, hml, hown, hg⟩ (c_X11_tries l D y H_7.size mo ((((((((((fmo.set 0 (.int 0)).set 3 (.int 0)).set 2 (.int 0)).set 4 (.int 0)).set 5 (.int 500)).set 15 (.int 0)).set 52 (.int 0)).set 12 (.int 0)).set 13 (.int 0)).set 11 (.int 0)) ms mb fms fmb (px_sn (by decide) (px_sn (by decide) (px_sn (by decide) (px_sn (by decide) (px_sn (by decide) (px_sn (by decide) (px_sn (by decide) (px_sn (by decide) (px_sn (by decide) (px_sn (by decide) hmo_6)))))))))) (px_sn (by decide) (px_sn (by decide) (px_sn (by decide) (px_sn (by decide) (px_sn (by decide) (px_sn (by decide) (px_sn (by decide) (px_sn (by decide) (px_sn (by decide) (px_sn (by decide) hmo_26))))))))))) (cwV 0 hg (px_gV q_8_172 q_8_174 q_p_109 q_1_15 q_8_175) rfl rfl rfl (by decide +kernel) ⟨Nat.le_of_ble_eq_true rfl, Nat.le_of_ble_eq_true rfl⟩) (px_preV hK hPc_9 hDc_9 (ci := 11) (q0 := 0) rfl rfl) rfl rfl hl.1 rfl (lv_room (Nat.le_of_ble_eq_true rfl)) dX11_evening_84 ⟨Nat.le_of_ble_eq_true rfl, Nat.le_of_ble_eq_true rfl⟩) hS (fun q _ h => hFc_9 q h) hFc_9 (fun u_9 t_9 H_9 locs_9 ht_9 hvm_9 hw_9 hB_9 hz_9 hk_9 hS_9 => ?_)
    refine W.cs (cells' := 0) (slots' := 0) rfl rfl ?_
    obtain ⟨hP1_9, hD1_9⟩ := hB_9
    rw [ht_9] at hP1_9
    obtain ⟨hP_9, hD_9⟩ := va_join (wr := [px_i me (y 1) 4 fme]) (w1 := [px_o mo 11 ((((((((((fmo.set 0 (.int 0)).set 3 (.int 0)).set 2 (.int 0)).set 4 (.int 0)).set 5 (.int 500)).set 15 (.int 0)).set 52 (.int 0)).set 12 (.int 0)).set 13 (.int 0)).set 11 (.int 0)), px_i ms (y 1) 765 fms, px_i mb (y 1) 580 (u_9.2.1 0)]) hP hD [3, 0, 1] [2] rfl rfl (by decide +kernel) (by decide +kernel) hk_9 hFc_9 hP1_9 hD1_9
    clear hP hD hS hPc_9 hDc_9 hFc_9 hz_9 hk_9 hvm_9 ht_9 hP1_9 hD1_9
    have hP : va_P D vwCl [px_i me (y 1) 4 fme, px_o mo 11 ((((((((((fmo.set 0 (.int 0)).set 3 (.int 0)).set 2 (.int 0)).set 4 (.int 0)).set 5 (.int 500)).set 15 (.int 0)).set 52 (.int 0)).set 12 (.int 0)).set 13 (.int 0)).set 11 (.int 0)), px_i ms (y 1) 765 fms, px_i mb (y 1) 580 (u_9.2.1 0)] H_9 := hP_9
    have hD : va_D A [px_i me (y 1) 4 fme, px_o mo 11 ((((((((((fmo.set 0 (.int 0)).set 3 (.int 0)).set 2 (.int 0)).set 4 (.int 0)).set 5 (.int 500)).set 15 (.int 0)).set 52 (.int 0)).set 12 (.int 0)).set 13 (.int 0)).set 11 (.int 0)), px_i ms (y 1) 765 fms, px_i mb (y 1) 580 (u_9.2.1 0)] := hD_9
    have hS := hS_9
    clear hP_9 hD_9 hS_9
    refine lv_iconst (v := 0) hx hb dX11_evening_87 (by decide) ?_
    refine lv_istore_n (lv' := [(2, .int 0), (0, .ref mo), (1, .int p0)]) hx hb dX11_evening_88 rfl hl (by decide) rfl (fun ls hl => ?_)
    refine lv_iload_n hx hb dX11_evening_89 rfl (lv_at hl 0 rfl) ?_
    refine lv_iconst (v := 4) hx hb dX11_evening_90 (by decide) ?_
    refine lv_icmp_ge (tgt := 107) hx hb dX11_evening_91 (by decide) (fun c_10 => absurd c_10 (by decide)) (fun _ => ?_)
    refine lv_aload_n hx hb dX11_evening_94 rfl (lv_at hl 1 rfl) ?_
    refine va_get (D := D) (ci := 11) (v := .ref me) (C := RX11) (T := TX11) (N := 65) hx hb hg inGX11 hown hK hP 1 rfl rfl 53 (by decide) (hg _ q_6_179) (fun _ h9 => h9) (px_sn (by decide) (px_sn (by decide) (px_sn (by decide) (px_sn (by decide) (px_sn (by decide) (px_sn (by decide) (px_sn (by decide) (px_sn (by decide) (px_sn (by decide) (px_sn (by decide) hmo_53)))))))))) dX11_evening_95 ?_
    refine lv_iload_n hx hb dX11_evening_98 rfl (lv_at hl 0 rfl) ?_
    refine lv_iconst (v := 0) hx hb dX11_evening_99 (by decide) ?_
    refine va_iast hx hb hK hP hD hS 0 1 rfl rfl (i := 0) (px_in (by decide)) dX11_evening_100 (fun H_11 locs_11 hP_11 hD_11 hS_11 => ?_)
    clear hP hD hS
    have hP : va_P D vwCl [px_i me (y 1) 4 (upd fme 0 0), px_o mo 11 ((((((((((fmo.set 0 (.int 0)).set 3 (.int 0)).set 2 (.int 0)).set 4 (.int 0)).set 5 (.int 500)).set 15 (.int 0)).set 52 (.int 0)).set 12 (.int 0)).set 13 (.int 0)).set 11 (.int 0)), px_i ms (y 1) 765 fms, px_i mb (y 1) 580 (u_9.2.1 0)] H_11 := hP_11
    have hD : va_D A [px_i me (y 1) 4 (upd fme 0 0), px_o mo 11 ((((((((((fmo.set 0 (.int 0)).set 3 (.int 0)).set 2 (.int 0)).set 4 (.int 0)).set 5 (.int 500)).set 15 (.int 0)).set 52 (.int 0)).set 12 (.int 0)).set 13 (.int 0)).set 11 (.int 0)), px_i ms (y 1) 765 fms, px_i mb (y 1) 580 (u_9.2.1 0)] := hD_11
    have hS := hS_11
    clear hP_11 hD_11 hS_11
    refine lv_iinc (v := 1) (lv' := [(2, .int 1), (0, .ref mo), (1, .int p0)]) hx hb dX11_evening_101 hl (k := 0) rfl (by decide) (by decide) rfl (fun ls hl => ?_)
    refine lv_goto (tgt := 89) hx hb dX11_evening_104 (by decide) ?_
    refine lv_iload_n hx hb dX11_evening_89 rfl (lv_at hl 0 rfl) ?_
    refine lv_iconst (v := 4) hx hb dX11_evening_90 (by decide) ?_
    refine lv_icmp_ge (tgt := 107) hx hb dX11_evening_91 (by decide) (fun c_12 => absurd c_12 (by decide)) (fun _ => ?_)
    refine lv_aload_n hx hb dX11_evening_94 rfl (lv_at hl 1 rfl) ?_
    refine va_get (D := D) (ci := 11) (v := .ref me) (C := RX11) (T := TX11) (N := 65) hx hb hg inGX11 hown hK hP 1 rfl rfl 53 (by decide) (hg _ q_6_179) (fun _ h9 => h9) (px_sn (by decide) (px_sn (by decide) (px_sn (by decide) (px_sn (by decide) (px_sn (by decide) (px_sn (by decide) (px_sn (by decide) (px_sn (by decide) (px_sn (by decide) (px_sn (by decide) hmo_53)))))))))) dX11_evening_95 ?_
    refine lv_iload_n hx hb dX11_evening_98 rfl (lv_at hl 0 rfl) ?_
    refine lv_iconst (v := 0) hx hb dX11_evening_99 (by decide) ?_
    refine va_iast hx hb hK hP hD hS 0 1 rfl rfl (i := 1) (px_in (by decide)) dX11_evening_100 (fun H_13 locs_13 hP_13 hD_13 hS_13 => ?_)
    clear hP hD hS
    have hP : va_P D vwCl [px_i me (y 1) 4 (upd (upd fme 0 0) 1 0), px_o mo 11 ((((((((((fmo.set 0 (.int 0)).set 3 (.int 0)).set 2 (.int 0)).set 4 (.int 0)).set 5 (.int 500)).set 15 (.int 0)).set 52 (.int 0)).set 12 (.int 0)).set 13 (.int 0)).set 11 (.int 0)), px_i ms (y 1) 765 fms, px_i mb (y 1) 580 (u_9.2.1 0)] H_13 := hP_13
    have hD : va_D A [px_i me (y 1) 4 (upd (upd fme 0 0) 1 0), px_o mo 11 ((((((((((fmo.set 0 (.int 0)).set 3 (.int 0)).set 2 (.int 0)).set 4 (.int 0)).set 5 (.int 500)).set 15 (.int 0)).set 52 (.int 0)).set 12 (.int 0)).set 13 (.int 0)).set 11 (.int 0)), px_i ms (y 1) 765 fms, px_i mb (y 1) 580 (u_9.2.1 0)] := hD_13
    have hS := hS_13
    clear hP_13 hD_13 hS_13
    refine lv_iinc (v := 2) (lv' := [(2, .int 2), (0, .ref mo), (1, .int p0)]) hx hb dX11_evening_101 hl (k := 0) rfl (by decide) (by decide) rfl (fun ls hl => ?_)
    refine lv_goto (tgt := 89) hx hb dX11_evening_104 (by decide) ?_
    refine lv_iload_n hx hb dX11_evening_89 rfl (lv_at hl 0 rfl) ?_
    refine lv_iconst (v := 4) hx hb dX11_evening_90 (by decide) ?_
    refine lv_icmp_ge (tgt := 107) hx hb dX11_evening_91 (by decide) (fun c_14 => absurd c_14 (by decide)) (fun _ => ?_)
    refine lv_aload_n hx hb dX11_evening_94 rfl (lv_at hl 1 rfl) ?_
    refine va_get (D := D) (ci := 11) (v := .ref me) (C := RX11) (T := TX11) (N := 65) hx hb hg inGX11 hown hK hP 1 rfl rfl 53 (by decide) (hg _ q_6_179) (fun _ h9 => h9) (px_sn (by decide) (px_sn (by decide) (px_sn (by decide) (px_sn (by decide) (px_sn (by decide) (px_sn (by decide) (px_sn (by decide) (px_sn (by decide) (px_sn (by decide) (px_sn (by decide) hmo_53)))))))))) dX11_evening_95 ?_
    refine lv_iload_n hx hb dX11_evening_98 rfl (lv_at hl 0 rfl) ?_
    refine lv_iconst (v := 0) hx hb dX11_evening_99 (by decide) ?_
    refine va_iast hx hb hK hP hD hS 0 1 rfl rfl (i := 2) (px_in (by decide)) dX11_evening_100 (fun H_15 locs_15 hP_15 hD_15 hS_15 => ?_)
    clear hP hD hS
    have hP : va_P D vwCl [px_i me (y 1) 4 (upd (upd (upd fme 0 0) 1 0) 2 0), px_o mo 11 ((((((((((fmo.set 0 (.int 0)).set 3 (.int 0)).set 2 (.int 0)).set 4 (.int 0)).set 5 (.int 500)).set 15 (.int 0)).set 52 (.int 0)).set 12 (.int 0)).set 13 (.int 0)).set 11 (.int 0)), px_i ms (y 1) 765 fms, px_i mb (y 1) 580 (u_9.2.1 0)] H_15 := hP_15
    have hD : va_D A [px_i me (y 1) 4 (upd (upd (upd fme 0 0) 1 0) 2 0), px_o mo 11 ((((((((((fmo.set 0 (.int 0)).set 3 (.int 0)).set 2 (.int 0)).set 4 (.int 0)).set 5 (.int 500)).set 15 (.int 0)).set 52 (.int 0)).set 12 (.int 0)).set 13 (.int 0)).set 11 (.int 0)), px_i ms (y 1) 765 fms, px_i mb (y 1) 580 (u_9.2.1 0)] := hD_15
    have hS := hS_15
    clear hP_15 hD_15 hS_15
    refine lv_iinc (v := 3) (lv' := [(2, .int 3), (0, .ref mo), (1, .int p0)]) hx hb dX11_evening_101 hl (k := 0) rfl (by decide) (by decide) rfl (fun ls hl => ?_)
    refine lv_goto (tgt := 89) hx hb dX11_evening_104 (by decide) ?_
    refine lv_iload_n hx hb dX11_evening_89 rfl (lv_at hl 0 rfl) ?_
    refine lv_iconst (v := 4) hx hb dX11_evening_90 (by decide) ?_
    refine lv_icmp_ge (tgt := 107) hx hb dX11_evening_91 (by decide) (fun c_16 => absurd c_16 (by decide)) (fun _ => ?_)
    refine lv_aload_n hx hb dX11_evening_94 rfl (lv_at hl 1 rfl) ?_
    refine va_get (D := D) (ci := 11) (v := .ref me) (C := RX11) (T := TX11) (N := 65) hx hb hg inGX11 hown hK hP 1 rfl rfl 53 (by decide) (hg _ q_6_179) (fun _ h9 => h9) (px_sn (by decide) (px_sn (by decide) (px_sn (by decide) (px_sn (by decide) (px_sn (by decide) (px_sn (by decide) (px_sn (by decide) (px_sn (by decide) (px_sn (by decide) (px_sn (by decide) hmo_53)))))))))) dX11_evening_95 ?_
    refine lv_iload_n hx hb dX11_evening_98 rfl (lv_at hl 0 rfl) ?_
    refine lv_iconst (v := 0) hx hb dX11_evening_99 (by decide) ?_
    refine va_iast hx hb hK hP hD hS 0 1 rfl rfl (i := 3) (px_in (by decide)) dX11_evening_100 (fun H_17 locs_17 hP_17 hD_17 hS_17 => ?_)
    clear hP hD hS
    have hP : va_P D vwCl [px_i me (y 1) 4 (upd (upd (upd (upd fme 0 0) 1 0) 2 0) 3 0), px_o mo 11 ((((((((((fmo.set 0 (.int 0)).set 3 (.int 0)).set 2 (.int 0)).set 4 (.int 0)).set 5 (.int 500)).set 15 (.int 0)).set 52 (.int 0)).set 12 (.int 0)).set 13 (.int 0)).set 11 (.int 0)), px_i ms (y 1) 765 fms, px_i mb (y 1) 580 (u_9.2.1 0)] H_17 := hP_17
    have hD : va_D A [px_i me (y 1) 4 (upd (upd (upd (upd fme 0 0) 1 0) 2 0) 3 0), px_o mo 11 ((((((((((fmo.set 0 (.int 0)).set 3 (.int 0)).set 2 (.int 0)).set 4 (.int 0)).set 5 (.int 500)).set 15 (.int 0)).set 52 (.int 0)).set 12 (.int 0)).set 13 (.int 0)).set 11 (.int 0)), px_i ms (y 1) 765 fms, px_i mb (y 1) 580 (u_9.2.1 0)] := hD_17
    have hS := hS_17
    clear hP_17 hD_17 hS_17
    refine lv_iinc (v := 4) (lv' := [(2, .int 4), (0, .ref mo), (1, .int p0)]) hx hb dX11_evening_101 hl (k := 0) rfl (by decide) (by decide) rfl (fun ls hl => ?_)
    refine lv_goto (tgt := 89) hx hb dX11_evening_104 (by decide) ?_
    refine lv_iload_n hx hb dX11_evening_89 rfl (lv_at hl 0 rfl) ?_
    refine lv_iconst (v := 4) hx hb dX11_evening_90 (by decide) ?_
    refine lv_icmp_ge (tgt := 107) hx hb dX11_evening_91 (by decide) (fun _ => ?_) (fun c_18 => absurd c_18 (by decide))
    refine lv_iconst (v := (-1)) hx hb dX11_evening_107 (by decide) ?_
    refine lv_istore_n (lv' := [(2, .int (-1)), (0, .ref mo), (1, .int p0)]) hx hb dX11_evening_108 rfl hl (by decide) rfl (fun ls hl => ?_)
    refine lv_iconst (v := 0) hx hb dX11_evening_109 (by decide) ?_
    refine lv_istore_n (lv' := [(3, .int 0), (2, .int (-1)), (0, .ref mo), (1, .int p0)]) hx hb dX11_evening_110 rfl hl (by decide) rfl (fun ls hl => ?_)
    refine lv_iload_n hx hb dX11_evening_111 rfl (lv_at hl 0 rfl) ?_
    refine lv_aload_n hx hb dX11_evening_112 rfl (lv_at hl 2 rfl) ?_
    refine va_get (D := D) (ci := 11) (v := .int 0) (C := RX11) (T := TX11) (N := 65) hx hb hg inGX11 hown hK hP 1 rfl rfl 52 (by decide) (hg _ q_6_178) (fun _ h9 => h9) (px_sn (by decide) (px_sn (by decide) (px_sn (by decide) (px_ss (px_sn (by decide) (px_sn (by decide) (px_sn (by decide) (px_sn (by decide) (px_sn (by decide) (px_sn (by decide) hmo_52)))))))))) dX11_evening_113 ?_
    refine lv_icmp_ge (tgt := 290) hx hb dX11_evening_116 (by decide) (fun _ => ?_) (fun c_19 => absurd c_19 (by decide))
    refine lv_aload_n hx hb dX11_evening_290 rfl (lv_at hl 2 rfl) ?_
    refine va_get (D := D) (ci := 11) (v := .ref me) (C := RX11) (T := TX11) (N := 65) hx hb hg inGX11 hown hK hP 1 rfl rfl 53 (by decide) (hg _ q_6_179) (fun _ h9 => h9) (px_sn (by decide) (px_sn (by decide) (px_sn (by decide) (px_sn (by decide) (px_sn (by decide) (px_sn (by decide) (px_sn (by decide) (px_sn (by decide) (px_sn (by decide) (px_sn (by decide) hmo_53)))))))))) dX11_evening_291 ?_
    refine lv_iconst (v := 2) hx hb dX11_evening_294 (by decide) ?_
    refine lv_aload_n hx hb dX11_evening_295 rfl (lv_at hl 2 rfl) ?_
    have hPc_20 := hP.sub (ws' := [px_o mo 11 ((((((((((fmo.set 0 (.int 0)).set 3 (.int 0)).set 2 (.int 0)).set 4 (.int 0)).set 5 (.int 500)).set 15 (.int 0)).set 52 (.int 0)).set 12 (.int 0)).set 13 (.int 0)).set 11 (.int 0)), px_i ms (y 1) 765 fms]) [1, 2] rfl
    have hDc_20 := hD.sub (ws' := [px_o mo 11 ((((((((((fmo.set 0 (.int 0)).set 3 (.int 0)).set 2 (.int 0)).set 4 (.int 0)).set 5 (.int 500)).set 15 (.int 0)).set 52 (.int 0)).set 12 (.int 0)).set 13 (.int 0)).set 11 (.int 0)), px_i ms (y 1) 765 fms]) [1, 2] (by decide +kernel) rfl
    refine vp_callSi (va_Run.run (va_runV (As := []) (rest := [.int 2, .ref me]) ⟨hx, hb, hml, hown, hg⟩ (c_X11_allBooks l D y H_17.size mo ((((((((((fmo.set 0 (.int 0)).set 3 (.int 0)).set 2 (.int 0)).set 4 (.int 0)).set 5 (.int 500)).set 15 (.int 0)).set 52 (.int 0)).set 12 (.int 0)).set 13 (.int 0)).set 11 (.int 0)) ms fms (px_sn (by decide) (px_sn (by decide) (px_sn (by decide) (px_sn (by decide) (px_sn (by decide) (px_sn (by decide) (px_sn (by decide) (px_sn (by decide) (px_sn (by decide) (px_sn (by decide) hmo_6)))))))))) hms_e138 hms_e139 hms_e140 hms_e141 hms_e142 hms_e143 hms_e144 hms_e145 hms_e146 hms_e147 hms_e148 hms_e149 hms_e150) (cwV 0 hg (px_gV q_7_227 q_7_229 q_p_85 q_1_15 q_7_230) rfl rfl rfl (by decide +kernel) ⟨Nat.le_of_ble_eq_true rfl, Nat.le_of_ble_eq_true rfl⟩) (px_preV hK hPc_20 hDc_20 (ci := 11) (q0 := 0) rfl rfl) rfl rfl hl.1 rfl (lv_room (Nat.le_of_ble_eq_true rfl)) dX11_evening_296 ⟨Nat.le_of_ble_eq_true rfl, Nat.le_of_ble_eq_true rfl⟩)) (fun r_20 hw_20 => ?_)
    clear hPc_20 hDc_20
    obtain rfl : r_20 = 0 := hw_20
    refine va_iast hx hb hK hP hD hS 0 1 rfl rfl (i := 2) (px_in (by decide)) dX11_evening_299 (fun H_21 locs_21 hP_21 hD_21 hS_21 => ?_)
    clear hP hD hS
    have hP : va_P D vwCl [px_i me (y 1) 4 (upd (upd (upd (upd (upd fme 0 0) 1 0) 2 0) 3 0) 2 0), px_o mo 11 ((((((((((fmo.set 0 (.int 0)).set 3 (.int 0)).set 2 (.int 0)).set 4 (.int 0)).set 5 (.int 500)).set 15 (.int 0)).set 52 (.int 0)).set 12 (.int 0)).set 13 (.int 0)).set 11 (.int 0)), px_i ms (y 1) 765 fms, px_i mb (y 1) 580 (u_9.2.1 0)] H_21 := hP_21
    have hD : va_D A [px_i me (y 1) 4 (upd (upd (upd (upd (upd fme 0 0) 1 0) 2 0) 3 0) 2 0), px_o mo 11 ((((((((((fmo.set 0 (.int 0)).set 3 (.int 0)).set 2 (.int 0)).set 4 (.int 0)).set 5 (.int 500)).set 15 (.int 0)).set 52 (.int 0)).set 12 (.int 0)).set 13 (.int 0)).set 11 (.int 0)), px_i ms (y 1) 765 fms, px_i mb (y 1) 580 (u_9.2.1 0)] := hD_21
    have hS := hS_21
    clear hP_21 hD_21 hS_21
    refine lv_aload_n hx hb dX11_evening_300 rfl (lv_at hl 2 rfl) ?_
    refine va_get (D := D) (ci := 11) (v := .ref me) (C := RX11) (T := TX11) (N := 65) hx hb hg inGX11 hown hK hP 1 rfl rfl 53 (by decide) (hg _ q_6_179) (fun _ h9 => h9) (px_sn (by decide) (px_sn (by decide) (px_sn (by decide) (px_sn (by decide) (px_sn (by decide) (px_sn (by decide) (px_sn (by decide) (px_sn (by decide) (px_sn (by decide) (px_sn (by decide) hmo_53)))))))))) dX11_evening_301 ?_
    refine lv_iconst (v := 3) hx hb dX11_evening_304 (by decide) ?_
    refine lv_aload_n hx hb dX11_evening_305 rfl (lv_at hl 2 rfl) ?_
    refine va_get (D := D) (ci := 11) (v := .ref ms) (C := RX11) (T := TX11) (N := 65) hx hb hg inGX11 hown hK hP 1 rfl rfl 6 (by decide) (hg _ q_6_132) (fun _ h9 => h9) (px_sn (by decide) (px_sn (by decide) (px_sn (by decide) (px_sn (by decide) (px_sn (by decide) (px_sn (by decide) (px_sn (by decide) (px_sn (by decide) (px_sn (by decide) (px_sn (by decide) hmo_6)))))))))) dX11_evening_306 ?_
    refine lv_iconst (v := 4) hx hb dX11_evening_309 (by decide) ?_
    refine va_iald hx hb hK hP 2 1 rfl rfl (i := 4) (px_in (by decide)) dX11_evening_310 ?_
    refine px_top (v := (-1)) hms_e4 ?_
    refine va_iast hx hb hK hP hD hS 0 1 rfl rfl (i := 3) (px_in (by decide)) dX11_evening_311 (fun H_22 locs_22 hP_22 hD_22 hS_22 => ?_)
    clear hP hD hS
    have hP : va_P D vwCl [px_i me (y 1) 4 (upd (upd (upd (upd (upd (upd fme 0 0) 1 0) 2 0) 3 0) 2 0) 3 (-1)), px_o mo 11 ((((((((((fmo.set 0 (.int 0)).set 3 (.int 0)).set 2 (.int 0)).set 4 (.int 0)).set 5 (.int 500)).set 15 (.int 0)).set 52 (.int 0)).set 12 (.int 0)).set 13 (.int 0)).set 11 (.int 0)), px_i ms (y 1) 765 fms, px_i mb (y 1) 580 (u_9.2.1 0)] H_22 := hP_22
    have hD : va_D A [px_i me (y 1) 4 (upd (upd (upd (upd (upd (upd fme 0 0) 1 0) 2 0) 3 0) 2 0) 3 (-1)), px_o mo 11 ((((((((((fmo.set 0 (.int 0)).set 3 (.int 0)).set 2 (.int 0)).set 4 (.int 0)).set 5 (.int 500)).set 15 (.int 0)).set 52 (.int 0)).set 12 (.int 0)).set 13 (.int 0)).set 11 (.int 0)), px_i ms (y 1) 765 fms, px_i mb (y 1) 580 (u_9.2.1 0)] := hD_22
    have hS := hS_22
    clear hP_22 hD_22 hS_22
    refine lv_aload_n hx hb dX11_evening_312 rfl (lv_at hl 2 rfl) ?_
    refine lv_iconst (v := 1) hx hb dX11_evening_313 (by decide) ?_
    refine va_put (D := D) (ci := 11) (v := .int 1) (ty := .boolean) (C := RX11) (T := TX11) (N := 65) hx hb hg inGX11 tyX11 tyX11_ok nmX11 hown hK hP hD hS 1 rfl rfl 54 (by decide) (hg _ q_6_180) (fun _ h9 => h9) rfl (by decide +kernel) (by decide) rfl (px_len (px_sn (by decide) (px_sn (by decide) (px_sn (by decide) (px_sn (by decide) (px_sn (by decide) (px_sn (by decide) (px_sn (by decide) (px_sn (by decide) (px_sn (by decide) (px_sn (by decide) hmo_54))))))))))) dX11_evening_314 (fun H_23 locs_23 hP_23 hD_23 hS_23 => ?_)
    clear hP hD hS
    have hP : va_P D vwCl [px_i me (y 1) 4 (upd (upd (upd (upd (upd (upd fme 0 0) 1 0) 2 0) 3 0) 2 0) 3 (-1)), px_o mo 11 (((((((((((fmo.set 0 (.int 0)).set 3 (.int 0)).set 2 (.int 0)).set 4 (.int 0)).set 5 (.int 500)).set 15 (.int 0)).set 52 (.int 0)).set 12 (.int 0)).set 13 (.int 0)).set 11 (.int 0)).set 54 (.int 1)), px_i ms (y 1) 765 fms, px_i mb (y 1) 580 (u_9.2.1 0)] H_23 := hP_23
    have hD : va_D A [px_i me (y 1) 4 (upd (upd (upd (upd (upd (upd fme 0 0) 1 0) 2 0) 3 0) 2 0) 3 (-1)), px_o mo 11 (((((((((((fmo.set 0 (.int 0)).set 3 (.int 0)).set 2 (.int 0)).set 4 (.int 0)).set 5 (.int 500)).set 15 (.int 0)).set 52 (.int 0)).set 12 (.int 0)).set 13 (.int 0)).set 11 (.int 0)).set 54 (.int 1)), px_i ms (y 1) 765 fms, px_i mb (y 1) 580 (u_9.2.1 0)] := hD_23
    have hS := hS_23
    clear hP_23 hD_23 hS_23
    refine lv_iload_n hx hb dX11_evening_317 rfl (lv_at hl 3 rfl) ?_
    refine lv_if_ne (tgt := 325) hx hb dX11_evening_318 (by decide) (fun c_24 => ?_) (fun c_24 => ?_)
    · refine lv_iload_n hx hb dX11_evening_325 rfl (lv_at hl 1 rfl) ?_
      exact W.iret (v := (-1)) hx hb hr (fun t ht hW => ⟨⟨_, (), rfl, (by show _ = px_eve p0; unfold px_eve; simp only [Int32.lt_iff_toInt_lt, Int32.le_iff_toInt_le, ← Int32.toInt_inj] at g_2_0_0 g_2_0_1 c_24; have e0 : (0 : Int32).toInt = 0 := rfl; have e1 : (1 : Int32).toInt = 1 := rfl; first | (rw [if_pos (by omega)]; done) | (rw [if_neg (by omega)]; done)), trivial⟩, hS.F ht⟩) hS.2.2 dX11_evening_326
    · refine lv_aload_n hx hb dX11_evening_321 rfl (lv_at hl 2 rfl) ?_
      have hPc_25 := hP.sub (ws' := [px_o mo 11 (((((((((((fmo.set 0 (.int 0)).set 3 (.int 0)).set 2 (.int 0)).set 4 (.int 0)).set 5 (.int 500)).set 15 (.int 0)).set 52 (.int 0)).set 12 (.int 0)).set 13 (.int 0)).set 11 (.int 0)).set 54 (.int 1)), px_i ms (y 1) 765 fms, px_i mb (y 1) 580 (u_9.2.1 0)]) [1, 2, 3] rfl
      have hDc_25 := hD.sub (ws' := [px_o mo 11 (((((((((((fmo.set 0 (.int 0)).set 3 (.int 0)).set 2 (.int 0)).set 4 (.int 0)).set 5 (.int 500)).set 15 (.int 0)).set 52 (.int 0)).set 12 (.int 0)).set 13 (.int 0)).set 11 (.int 0)).set 54 (.int 1)), px_i ms (y 1) 765 fms, px_i mb (y 1) 580 (u_9.2.1 0)]) [1, 2, 3] (by decide +kernel) rfl
      have hFc_25 := va_free (wc := [px_o mo 11 (((((((((((fmo.set 0 (.int 0)).set 3 (.int 0)).set 2 (.int 0)).set 4 (.int 0)).set 5 (.int 500)).set 15 (.int 0)).set 52 (.int 0)).set 12 (.int 0)).set 13 (.int 0)).set 11 (.int 0)).set 54 (.int 1)), px_i ms (y 1) 765 fms, px_i mb (y 1) 580 (u_9.2.1 0)]) hD hS hA [1, 2, 3] rfl
      refine va_callv (va_runV (As := []) (rest := []) ⟨hx, hb, hml, hown, hg⟩ (c_X11_back l D y H_23.size mo (((((((((((fmo.set 0 (.int 0)).set 3 (.int 0)).set 2 (.int 0)).set 4 (.int 0)).set 5 (.int 500)).set 15 (.int 0)).set 52 (.int 0)).set 12 (.int 0)).set 13 (.int 0)).set 11 (.int 0)).set 54 (.int 1)) ms mb fms (u_9.2.1 0) (px_sn (by decide) (px_sn (by decide) (px_sn (by decide) (px_sn (by decide) (px_sn (by decide) (px_sn (by decide) (px_sn (by decide) (px_sn (by decide) (px_sn (by decide) (px_sn (by decide) (px_sn (by decide) hmo_6))))))))))) (px_sn (by decide) (px_sn (by decide) (px_sn (by decide) (px_sn (by decide) (px_sn (by decide) (px_sn (by decide) (px_sn (by decide) (px_sn (by decide) (px_sn (by decide) (px_sn (by decide) (px_sn (by decide) hmo_26)))))))))))) (cwV 0 hg (px_gV q_8_176 q_8_178 q_p_110 q_1_15 q_8_179) rfl rfl rfl (by decide +kernel) ⟨Nat.le_of_ble_eq_true rfl, Nat.le_of_ble_eq_true rfl⟩) (px_preV hK hPc_25 hDc_25 (ci := 11) (q0 := 0) rfl rfl) rfl rfl hl.1 rfl (lv_room (Nat.le_of_ble_eq_true rfl)) dX11_evening_322 ⟨Nat.le_of_ble_eq_true rfl, Nat.le_of_ble_eq_true rfl⟩) hS (fun q _ h => hFc_25 q h) hFc_25 (fun u_25 t_25 H_25 locs_25 ht_25 hvm_25 hw_25 hB_25 hz_25 hk_25 hS_25 => ?_)
      refine W.cs (cells' := 0) (slots' := 0) rfl rfl ?_
      obtain ⟨hP1_25, hD1_25⟩ := hB_25
      rw [ht_25] at hP1_25
      obtain ⟨hP_25, hD_25⟩ := va_join (wr := [px_i me (y 1) 4 (upd (upd (upd (upd (upd (upd fme 0 0) 1 0) 2 0) 3 0) 2 0) 3 (-1))]) (w1 := [px_o mo 11 (((((((((((fmo.set 0 (.int 0)).set 3 (.int 0)).set 2 (.int 0)).set 4 (.int 0)).set 5 (.int 500)).set 15 (.int 0)).set 52 (.int 0)).set 12 (.int 0)).set 13 (.int 0)).set 11 (.int 0)).set 54 (.int 1)), px_i ms (y 1) 765 (u_25.2.1 0), px_i mb (y 1) 580 (u_9.2.1 0)]) hP hD [1, 2, 3] [0] rfl rfl (by decide +kernel) (by decide +kernel) hk_25 hFc_25 hP1_25 hD1_25
      clear hP hD hS hPc_25 hDc_25 hFc_25 hz_25 hk_25 hvm_25 ht_25 hP1_25 hD1_25
      have hP : va_P D vwCl [px_i me (y 1) 4 (upd (upd (upd (upd (upd (upd fme 0 0) 1 0) 2 0) 3 0) 2 0) 3 (-1)), px_o mo 11 (((((((((((fmo.set 0 (.int 0)).set 3 (.int 0)).set 2 (.int 0)).set 4 (.int 0)).set 5 (.int 500)).set 15 (.int 0)).set 52 (.int 0)).set 12 (.int 0)).set 13 (.int 0)).set 11 (.int 0)).set 54 (.int 1)), px_i ms (y 1) 765 (u_25.2.1 0), px_i mb (y 1) 580 (u_9.2.1 0)] H_25 := hP_25
      have hD : va_D A [px_i me (y 1) 4 (upd (upd (upd (upd (upd (upd fme 0 0) 1 0) 2 0) 3 0) 2 0) 3 (-1)), px_o mo 11 (((((((((((fmo.set 0 (.int 0)).set 3 (.int 0)).set 2 (.int 0)).set 4 (.int 0)).set 5 (.int 500)).set 15 (.int 0)).set 52 (.int 0)).set 12 (.int 0)).set 13 (.int 0)).set 11 (.int 0)).set 54 (.int 1)), px_i ms (y 1) 765 (u_25.2.1 0), px_i mb (y 1) 580 (u_9.2.1 0)] := hD_25
      have hS := hS_25
      clear hP_25 hD_25 hS_25
      refine lv_iload_n hx hb dX11_evening_325 rfl (lv_at hl 1 rfl) ?_
      exact W.iret (v := (-1)) hx hb hr (fun t ht hW => ⟨⟨_, (), rfl, (by show _ = px_eve p0; unfold px_eve; simp only [Int32.lt_iff_toInt_lt, Int32.le_iff_toInt_le, ← Int32.toInt_inj] at g_2_0_0 g_2_0_1 c_24; have e0 : (0 : Int32).toInt = 0 := rfl; have e1 : (1 : Int32).toInt = 1 := rfl; first | (rw [if_pos (by omega)]; done) | (rw [if_neg (by omega)]; done)), trivial⟩, hS.F ht⟩) hS.2.2 dX11_evening_326
  · refine lv_if_ne (tgt := 18) hx hb dX11_evening_11 (by decide) (fun c_26 => absurd c_26 (by decide)) (fun _ => ?_)
    refine lv_sipush (v := (-1000)) hx hb dX11_evening_14 (by decide) ?_
    exact W.iret (v := (-1000)) hx hb hr (fun t ht hW => ⟨⟨_, (), rfl, (by show _ = px_eve p0; unfold px_eve; simp only [Int32.lt_iff_toInt_lt, Int32.le_iff_toInt_le, ← Int32.toInt_inj] at g_2_1_0; have e0 : (0 : Int32).toInt = 0 := rfl; first | (rw [if_pos (by omega)]; done) | (rw [if_neg (by omega)]; done)), trivial⟩, hS.F ht⟩) hS.2.2 dX11_evening_17
  · refine lv_if_ne (tgt := 18) hx hb dX11_evening_11 (by decide) (fun c_27 => absurd c_27 (by decide)) (fun _ => ?_)
    refine lv_sipush (v := (-1000)) hx hb dX11_evening_14 (by decide) ?_
    exact W.iret (v := (-1000)) hx hb hr (fun t ht hW => ⟨⟨_, (), rfl, (by show _ = px_eve p0; unfold px_eve; simp only [Int32.lt_iff_toInt_lt, Int32.le_iff_toInt_le, ← Int32.toInt_inj] at g_2_2_0; have e0 : (1 : Int32).toInt = 1 := rfl; first | (rw [if_pos (by omega)]; done) | (rw [if_neg (by omega)]; done)), trivial⟩, hS.F ht⟩) hS.2.2 dX11_evening_17

set_option maxHeartbeats 4000000 in
set_option maxRecDepth 100000 in
theorem c_X11_image (l : Launch) (D : va_G) (y : Nat → ClassId) (sz : Nat) (mo : Nat) (fmo : List Value) (ms : Nat) (mn : Nat) (mi : Nat) (mj : Nat) (mk : Nat) (fms : Nat → Int32) (fmn : Nat → Int64) (fmi : Nat → Int32) (fmj : Nat → Int64) (fmk : Nat → Int32) (p0 : Int32) (hmo_0 : px_g fmo 0 (.int 0)) (hmo_6 : px_g fmo 6 (.ref ms)) (hmo_9 : px_g fmo 9 (.ref mn)) (hmo_62 : px_g fmo 62 (.ref mi)) (hmo_63 : px_g fmo 63 (.ref mj)) (hmo_64 : px_g fmo 64 (.ref mk)) : Met l yX11_image (px_w yX11_image cX11_image 3 (some .boolean)) ({ frames := 1, cells := 0, slots := 0, locals := 22 }) (va_Pc [.ref mo, .int p0] (px_P D y sz [px_o mo 11 fmo, px_i ms (y 1) 765 fms, px_l mn (y 2) 12 fmn, px_i mi (y 1) 1530 fmi, px_l mj (y 2) 12 fmj, px_i mk (y 3) 2 fmk])) (va_Qi (fun (r : Int32) (u : Unit) => r = px_is01 p0) (fun (u : Unit) t => True) (va_A [px_o mo 11 fmo, px_i ms (y 1) 765 fms, px_l mn (y 2) 12 fmn, px_i mi (y 1) 1530 fmi, px_l mj (y 2) 12 fmj, px_i mk (y 3) 2 fmk] sz)) 0 0 (va_A [px_o mo 11 fmo, px_i ms (y 1) 765 fms, px_l mn (y 2) 12 fmn, px_i mi (y 1) 1530 fmi, px_l mj (y 2) 12 fmj, px_i mk (y 3) 2 fmk] sz) := by
  refine Met.ofW (cc := cX11_image) (maxL := 3) (ret := (some .boolean)) (by decide) rfl ?_
  intro p e s m args below meth c s₁ B hml hv
  obtain ⟨rfl, hsz, hP, hK, hD0⟩ := hv
  have hx := B.exec
  have hb := B.bytes
  have hr := B.returns
  have hts := atoms_spec (ws := px_w yX11_image cX11_image 3 (some .boolean)) B.pre
  have hg : ∀ w ∈ gw, w.before [.ref mo, .int p0].toArray s = true := fun w h => hts w (List.mem_cons_of_mem _ h)
  have hown : s.vm.findClass RX11 = some m.cls := findClass_of_methodNamed B.named
  have hlocks := B.notSynchronized
  subst hsz
  have hD := hD0.self (sz := s.heap.size)
  generalize hAe : va_A [px_o mo 11 fmo, px_i ms (y 1) 765 fms, px_l mn (y 2) 12 fmn, px_i mi (y 1) 1530 fmi, px_l mj (y 2) 12 fmj, px_i mk (y 3) 2 fmk] s.heap.size = A at hD ⊢
  have hA : ∀ q : Nat, s.heap.size ≤ q → A q := fun q h => by rw [← hAe]; exact Or.inr h
  have hS : va_S A s.heap s.heap [] := va_S.rf
  have hP : va_P D vwCl [px_o mo 11 fmo, px_i ms (y 1) 765 fms, px_l mn (y 2) 12 fmn, px_i mi (y 1) 1530 fmi, px_l mj (y 2) 12 fmj, px_i mk (y 3) 2 fmk] s.heap := hP
  have hl := lv_entry ([.ref mo, .int p0]) (n := 3) (Nat.le_of_ble_eq_true rfl)
  rw [lg_entry_eq]
  generalize (lg_sl ([.ref mo, .int p0]) ++ List.replicate (3 - (lg_sl ([.ref mo, .int p0])).length) Slot.unset).toArray = ls at hl ⊢
  have hl : lv_has ls 3 [(0, .ref mo), (1, .int p0)] := hl
  refine lv_aload_n hx hb dX11_image_0 rfl (lv_at hl 0 rfl) ?_
  refine lv_iconst (v := 0) hx hb dX11_image_1 (by decide) ?_
  refine va_put (D := D) (ci := 11) (v := .int 0) (ty := .int) (C := RX11) (T := TX11) (N := 65) hx hb hg inGX11 tyX11 tyX11_ok nmX11 hown hK hP hD hS 0 rfl rfl 0 (by decide) (hg _ q_6_126) (fun _ h9 => h9) rfl (by decide +kernel) rfl rfl (px_len hmo_0) dX11_image_2 (fun H_1 locs_1 hP_1 hD_1 hS_1 => ?_)
  clear hP hD hS
  have hP : va_P D vwCl [px_o mo 11 (fmo.set 0 (.int 0)), px_i ms (y 1) 765 fms, px_l mn (y 2) 12 fmn, px_i mi (y 1) 1530 fmi, px_l mj (y 2) 12 fmj, px_i mk (y 3) 2 fmk] H_1 := hP_1
  have hD : va_D A [px_o mo 11 (fmo.set 0 (.int 0)), px_i ms (y 1) 765 fms, px_l mn (y 2) 12 fmn, px_i mi (y 1) 1530 fmi, px_l mj (y 2) 12 fmj, px_i mk (y 3) 2 fmk] := hD_1
  have hS := hS_1
  clear hP_1 hD_1 hS_1
  refine lv_iload_n hx hb dX11_image_5 rfl (lv_at hl 1 rfl) ?_
  refine lv_iconst (v := 0) hx hb dX11_image_6 (by decide) ?_
  refine lv_iconst (v := 1) hx hb dX11_image_7 (by decide) ?_
  have hPc_2 := hP.sub (ws' := []) [] rfl
  have hDc_2 := hD.sub (ws' := []) [] (by decide +kernel) rfl
  refine vp_callSi (va_Run.run (va_runS (As := [.int p0, .int 0, .int 1]) (rest := []) ⟨hx, hb, hml, hown, hg⟩ (c_X11_isIn l D y H_1.size p0 0 1 ) (va_cwS 3 hg (px_gS q_7_121 q_7_122 q_1_15 q_7_123) rfl rfl rfl (by decide +kernel) ⟨Nat.le_of_ble_eq_true rfl, Nat.le_of_ble_eq_true rfl⟩) (px_preS hK hPc_2 hDc_2) rfl rfl hl.1 rfl (lv_room (Nat.le_of_ble_eq_true rfl)) dX11_image_8 ⟨Nat.le_of_ble_eq_true rfl, Nat.le_of_ble_eq_true rfl⟩)) (fun r_2 hw_2 => ?_)
  clear hPc_2 hDc_2
  rcases hw_2 with ⟨rfl, g_2_0_0, g_2_0_1⟩ | ⟨rfl, g_2_1_0⟩ | ⟨rfl, g_2_2_0⟩
  · refine lv_if_ne (tgt := 16) hx hb dX11_image_11 (by decide) (fun _ => ?_) (fun c_3 => absurd c_3 (by decide))
    obtain ⟨j_4, hj_4, ej_4⟩ := px_split (x := p0) (n := 1) (by decide) (by simp only [Int32.lt_iff_toInt_lt, Int32.le_iff_toInt_le, ← Int32.toInt_inj] at g_2_0_0 g_2_0_1; have e0 : (0 : Int32).toInt = 0 := rfl; have e1 : (1 : Int32).toInt = 1 := rfl; omega) (by simp only [Int32.lt_iff_toInt_lt, Int32.le_iff_toInt_le, ← Int32.toInt_inj] at g_2_0_0 g_2_0_1; have e0 : (0 : Int32).toInt = 0 := rfl; have e1 : (1 : Int32).toInt = 1 := rfl; omega)
    rcases (show j_4 = 0 ∨ j_4 = 1 by omega) with rfl | rfl
    · obtain rfl : p0 = 0 := ej_4
      refine lv_iconst (v := 0) hx hb dX11_image_16 (by decide) ?_
      refine lv_istore_n (lv' := [(2, .int 0), (0, .ref mo), (1, .int 0)]) hx hb dX11_image_17 rfl hl (by decide) rfl (fun ls hl => ?_)
      refine px_loop1 (α := (Nat → Int32)) (nL := 3) 765 (ws := fun i_5 F_5 => [px_o mo 11 (fmo.set 0 (.int 0)), px_i ms (y 1) 765 fms, px_l mn (y 2) 12 fmn, px_i mi (y 1) 1530 F_5, px_l mj (y 2) 12 fmj, px_i mk (y 3) 2 fmk]) (lv := fun i_5 F_5 => [(2, .int (nI i_5)), (0, .ref mo), (1, .int 0)]) (inv := fun i_5 F_5 => True) ?_ ?_ 0 (by decide) fmi trivial hP hD hS (lv_sub hl [0, 1, 2] rfl)
      · clear hP hD hS
        intro i_5 F_5 hi_5 hv_5 ih_5 H_5 locs_5 ls hP hD hS hl
        have hP : va_P D vwCl [px_o mo 11 (fmo.set 0 (.int 0)), px_i ms (y 1) 765 fms, px_l mn (y 2) 12 fmn, px_i mi (y 1) 1530 F_5, px_l mj (y 2) 12 fmj, px_i mk (y 3) 2 fmk] H_5 := hP
        have hD : va_D A [px_o mo 11 (fmo.set 0 (.int 0)), px_i ms (y 1) 765 fms, px_l mn (y 2) 12 fmn, px_i mi (y 1) 1530 F_5, px_l mj (y 2) 12 fmj, px_i mk (y 3) 2 fmk] := hD
        have hl : lv_has ls 3 [(2, .int (nI i_5)), (0, .ref mo), (1, .int 0)] := hl
        refine lv_iload_n hx hb dX11_image_18 rfl (lv_at hl 0 rfl) ?_
        refine lv_sipush (v := 765) hx hb dX11_image_19 (by decide) ?_
        refine lv_icmp_ge (tgt := 49) hx hb dX11_image_22 (by decide) (fun c_6 => absurd c_6 (nI_ge (by omega) (by decide))) (fun _ => ?_)
        refine lv_aload_n hx hb dX11_image_25 rfl (lv_at hl 1 rfl) ?_
        refine va_get (D := D) (ci := 11) (v := .ref mi) (C := RX11) (T := TX11) (N := 65) hx hb hg inGX11 hown hK hP 0 rfl rfl 62 (by decide) (hg _ q_6_188) (fun _ h9 => h9) (px_sn (by decide) hmo_62) dX11_image_26 ?_
        refine lv_sipush (v := 765) hx hb dX11_image_29 (by decide) ?_
        refine lv_iload_n hx hb dX11_image_32 rfl (lv_at hl 2 rfl) ?_
        refine lv_imul hx hb dX11_image_33 ?_
        refine px_top (v := 0) (by decide) ?_
        refine lv_iload_n hx hb dX11_image_34 rfl (lv_at hl 0 rfl) ?_
        refine lv_iadd hx hb dX11_image_35 ?_
        refine px_top (v := nI (0 + i_5)) (nI_add 0 i_5) ?_
        refine lv_aload_n hx hb dX11_image_36 rfl (lv_at hl 1 rfl) ?_
        refine va_get (D := D) (ci := 11) (v := .ref ms) (C := RX11) (T := TX11) (N := 65) hx hb hg inGX11 hown hK hP 0 rfl rfl 6 (by decide) (hg _ q_6_132) (fun _ h9 => h9) (px_sn (by decide) hmo_6) dX11_image_37 ?_
        refine lv_iload_n hx hb dX11_image_40 rfl (lv_at hl 0 rfl) ?_
        refine va_iald hx hb hK hP 1 1 rfl rfl (i := (nI i_5)) (vp_in_nI (by omega) (by decide)) dX11_image_41 ?_
        refine px_top (v := fms i_5) (by rw [nI_clamp (by omega)]) ?_
        refine va_iast hx hb hK hP hD hS 3 1 rfl rfl (i := (nI (0 + i_5))) (vp_in_nI (by omega) (by decide)) dX11_image_42 (fun H_8 locs_8 hP_8 hD_8 hS_8 => ?_)
        clear hP hD hS
        have hP : va_P D vwCl [px_o mo 11 (fmo.set 0 (.int 0)), px_i ms (y 1) 765 fms, px_l mn (y 2) 12 fmn, px_i mi (y 1) 1530 (upd F_5 (nI (0 + i_5)).toNatClampNeg (fms i_5)), px_l mj (y 2) 12 fmj, px_i mk (y 3) 2 fmk] H_8 := hP_8
        have hD : va_D A [px_o mo 11 (fmo.set 0 (.int 0)), px_i ms (y 1) 765 fms, px_l mn (y 2) 12 fmn, px_i mi (y 1) 1530 (upd F_5 (nI (0 + i_5)).toNatClampNeg (fms i_5)), px_l mj (y 2) 12 fmj, px_i mk (y 3) 2 fmk] := hD_8
        have hS := hS_8
        clear hP_8 hD_8 hS_8
        refine lv_iinc (v := nI (i_5 + 1)) (lv' := [(2, .int (nI (i_5 + 1))), (0, .ref mo), (1, .int 0)]) hx hb dX11_image_43 hl (k := 0) rfl (nI_1 i_5) (by decide) rfl (fun ls hl => ?_)
        refine lv_goto (tgt := 18) hx hb dX11_image_46 (by decide) ?_
        exact ih_5 (upd F_5 (nI (0 + i_5)).toNatClampNeg (fms i_5)) _ _ ls trivial hP hD hS (lv_sub hl [0, 1, 2] rfl)
      · clear hP hD hS
        intro F_5 hv_5 H_5 locs_5 ls hP hD hS hl
        have hP : va_P D vwCl [px_o mo 11 (fmo.set 0 (.int 0)), px_i ms (y 1) 765 fms, px_l mn (y 2) 12 fmn, px_i mi (y 1) 1530 F_5, px_l mj (y 2) 12 fmj, px_i mk (y 3) 2 fmk] H_5 := hP
        have hD : va_D A [px_o mo 11 (fmo.set 0 (.int 0)), px_i ms (y 1) 765 fms, px_l mn (y 2) 12 fmn, px_i mi (y 1) 1530 F_5, px_l mj (y 2) 12 fmj, px_i mk (y 3) 2 fmk] := hD
        have hl : lv_has ls 3 [(2, .int 765), (0, .ref mo), (1, .int 0)] := hl
        refine lv_iload_n hx hb dX11_image_18 rfl (lv_at hl 0 rfl) ?_
        refine lv_sipush (v := 765) hx hb dX11_image_19 (by decide) ?_
        refine lv_icmp_ge (tgt := 49) hx hb dX11_image_22 (by decide) (fun _ => ?_) (fun c_9 => absurd c_9 (by decide))
        refine lv_iconst (v := 0) hx hb dX11_image_49 (by decide) ?_
        refine lv_istore_n (lv' := [(2, .int 0), (0, .ref mo), (1, .int 0)]) hx hb dX11_image_50 rfl hl (by decide) rfl (fun ls hl => ?_)
        refine lv_iload_n hx hb dX11_image_51 rfl (lv_at hl 0 rfl) ?_
        refine lv_bipush (v := 6) hx hb dX11_image_52 (by decide) ?_
        refine lv_icmp_ge (tgt := 80) hx hb dX11_image_54 (by decide) (fun c_10 => absurd c_10 (by decide)) (fun _ => ?_)
        refine lv_aload_n hx hb dX11_image_57 rfl (lv_at hl 1 rfl) ?_
        refine va_get (D := D) (ci := 11) (v := .ref mj) (C := RX11) (T := TX11) (N := 65) hx hb hg inGX11 hown hK hP 0 rfl rfl 63 (by decide) (hg _ q_6_189) (fun _ h9 => h9) (px_sn (by decide) hmo_63) dX11_image_58 ?_
        refine lv_bipush (v := 6) hx hb dX11_image_61 (by decide) ?_
        refine lv_iload_n hx hb dX11_image_63 rfl (lv_at hl 2 rfl) ?_
        refine lv_imul hx hb dX11_image_64 ?_
        refine px_top (v := 0) (by decide) ?_
        refine lv_iload_n hx hb dX11_image_65 rfl (lv_at hl 0 rfl) ?_
        refine lv_iadd hx hb dX11_image_66 ?_
        refine px_top (v := 0) (by decide) ?_
        refine lv_aload_n hx hb dX11_image_67 rfl (lv_at hl 1 rfl) ?_
        refine va_get (D := D) (ci := 11) (v := .ref mn) (C := RX11) (T := TX11) (N := 65) hx hb hg inGX11 hown hK hP 0 rfl rfl 9 (by decide) (hg _ q_6_135) (fun _ h9 => h9) (px_sn (by decide) hmo_9) dX11_image_68 ?_
        refine lv_iload_n hx hb dX11_image_71 rfl (lv_at hl 0 rfl) ?_
        refine va_lald hx hb hK hP 2 2 rfl rfl (i := 0) (px_in (by decide)) dX11_image_72 ?_
        refine va_last hx hb hK hP hD hS 4 2 rfl rfl (i := 0) (px_in (by decide)) dX11_image_73 (fun H_11 locs_11 hP_11 hD_11 hS_11 => ?_)
        clear hP hD hS
        have hP : va_P D vwCl [px_o mo 11 (fmo.set 0 (.int 0)), px_i ms (y 1) 765 fms, px_l mn (y 2) 12 fmn, px_i mi (y 1) 1530 F_5, px_l mj (y 2) 12 (vp_updL fmj 0 (fmn 0)), px_i mk (y 3) 2 fmk] H_11 := hP_11
        have hD : va_D A [px_o mo 11 (fmo.set 0 (.int 0)), px_i ms (y 1) 765 fms, px_l mn (y 2) 12 fmn, px_i mi (y 1) 1530 F_5, px_l mj (y 2) 12 (vp_updL fmj 0 (fmn 0)), px_i mk (y 3) 2 fmk] := hD_11
        have hS := hS_11
        clear hP_11 hD_11 hS_11
        refine lv_iinc (v := 1) (lv' := [(2, .int 1), (0, .ref mo), (1, .int 0)]) hx hb dX11_image_74 hl (k := 0) rfl (by decide) (by decide) rfl (fun ls hl => ?_)
        refine lv_goto (tgt := 51) hx hb dX11_image_77 (by decide) ?_
        refine lv_iload_n hx hb dX11_image_51 rfl (lv_at hl 0 rfl) ?_
        refine lv_bipush (v := 6) hx hb dX11_image_52 (by decide) ?_
        refine lv_icmp_ge (tgt := 80) hx hb dX11_image_54 (by decide) (fun c_12 => absurd c_12 (by decide)) (fun _ => ?_)
        refine lv_aload_n hx hb dX11_image_57 rfl (lv_at hl 1 rfl) ?_
        refine va_get (D := D) (ci := 11) (v := .ref mj) (C := RX11) (T := TX11) (N := 65) hx hb hg inGX11 hown hK hP 0 rfl rfl 63 (by decide) (hg _ q_6_189) (fun _ h9 => h9) (px_sn (by decide) hmo_63) dX11_image_58 ?_
        refine lv_bipush (v := 6) hx hb dX11_image_61 (by decide) ?_
        refine lv_iload_n hx hb dX11_image_63 rfl (lv_at hl 2 rfl) ?_
        refine lv_imul hx hb dX11_image_64 ?_
        refine px_top (v := 0) (by decide) ?_
        refine lv_iload_n hx hb dX11_image_65 rfl (lv_at hl 0 rfl) ?_
        refine lv_iadd hx hb dX11_image_66 ?_
        refine px_top (v := 1) (by decide) ?_
        refine lv_aload_n hx hb dX11_image_67 rfl (lv_at hl 1 rfl) ?_
        refine va_get (D := D) (ci := 11) (v := .ref mn) (C := RX11) (T := TX11) (N := 65) hx hb hg inGX11 hown hK hP 0 rfl rfl 9 (by decide) (hg _ q_6_135) (fun _ h9 => h9) (px_sn (by decide) hmo_9) dX11_image_68 ?_
        refine lv_iload_n hx hb dX11_image_71 rfl (lv_at hl 0 rfl) ?_
        refine va_lald hx hb hK hP 2 2 rfl rfl (i := 1) (px_in (by decide)) dX11_image_72 ?_
        refine va_last hx hb hK hP hD hS 4 2 rfl rfl (i := 1) (px_in (by decide)) dX11_image_73 (fun H_13 locs_13 hP_13 hD_13 hS_13 => ?_)
        clear hP hD hS
        have hP : va_P D vwCl [px_o mo 11 (fmo.set 0 (.int 0)), px_i ms (y 1) 765 fms, px_l mn (y 2) 12 fmn, px_i mi (y 1) 1530 F_5, px_l mj (y 2) 12 (vp_updL (vp_updL fmj 0 (fmn 0)) 1 (fmn 1)), px_i mk (y 3) 2 fmk] H_13 := hP_13
        have hD : va_D A [px_o mo 11 (fmo.set 0 (.int 0)), px_i ms (y 1) 765 fms, px_l mn (y 2) 12 fmn, px_i mi (y 1) 1530 F_5, px_l mj (y 2) 12 (vp_updL (vp_updL fmj 0 (fmn 0)) 1 (fmn 1)), px_i mk (y 3) 2 fmk] := hD_13
        have hS := hS_13
        clear hP_13 hD_13 hS_13
        refine lv_iinc (v := 2) (lv' := [(2, .int 2), (0, .ref mo), (1, .int 0)]) hx hb dX11_image_74 hl (k := 0) rfl (by decide) (by decide) rfl (fun ls hl => ?_)
        refine lv_goto (tgt := 51) hx hb dX11_image_77 (by decide) ?_
        refine lv_iload_n hx hb dX11_image_51 rfl (lv_at hl 0 rfl) ?_
        refine lv_bipush (v := 6) hx hb dX11_image_52 (by decide) ?_
        refine lv_icmp_ge (tgt := 80) hx hb dX11_image_54 (by decide) (fun c_14 => absurd c_14 (by decide)) (fun _ => ?_)
        refine lv_aload_n hx hb dX11_image_57 rfl (lv_at hl 1 rfl) ?_
        refine va_get (D := D) (ci := 11) (v := .ref mj) (C := RX11) (T := TX11) (N := 65) hx hb hg inGX11 hown hK hP 0 rfl rfl 63 (by decide) (hg _ q_6_189) (fun _ h9 => h9) (px_sn (by decide) hmo_63) dX11_image_58 ?_
        refine lv_bipush (v := 6) hx hb dX11_image_61 (by decide) ?_
        refine lv_iload_n hx hb dX11_image_63 rfl (lv_at hl 2 rfl) ?_
        refine lv_imul hx hb dX11_image_64 ?_
        refine px_top (v := 0) (by decide) ?_
        refine lv_iload_n hx hb dX11_image_65 rfl (lv_at hl 0 rfl) ?_
        refine lv_iadd hx hb dX11_image_66 ?_
        refine px_top (v := 2) (by decide) ?_
        refine lv_aload_n hx hb dX11_image_67 rfl (lv_at hl 1 rfl) ?_
        refine va_get (D := D) (ci := 11) (v := .ref mn) (C := RX11) (T := TX11) (N := 65) hx hb hg inGX11 hown hK hP 0 rfl rfl 9 (by decide) (hg _ q_6_135) (fun _ h9 => h9) (px_sn (by decide) hmo_9) dX11_image_68 ?_
        refine lv_iload_n hx hb dX11_image_71 rfl (lv_at hl 0 rfl) ?_
        refine va_lald hx hb hK hP 2 2 rfl rfl (i := 2) (px_in (by decide)) dX11_image_72 ?_
        refine va_last hx hb hK hP hD hS 4 2 rfl rfl (i := 2) (px_in (by decide)) dX11_image_73 (fun H_15 locs_15 hP_15 hD_15 hS_15 => ?_)
        clear hP hD hS
        have hP : va_P D vwCl [px_o mo 11 (fmo.set 0 (.int 0)), px_i ms (y 1) 765 fms, px_l mn (y 2) 12 fmn, px_i mi (y 1) 1530 F_5, px_l mj (y 2) 12 (vp_updL (vp_updL (vp_updL fmj 0 (fmn 0)) 1 (fmn 1)) 2 (fmn 2)), px_i mk (y 3) 2 fmk] H_15 := hP_15
        have hD : va_D A [px_o mo 11 (fmo.set 0 (.int 0)), px_i ms (y 1) 765 fms, px_l mn (y 2) 12 fmn, px_i mi (y 1) 1530 F_5, px_l mj (y 2) 12 (vp_updL (vp_updL (vp_updL fmj 0 (fmn 0)) 1 (fmn 1)) 2 (fmn 2)), px_i mk (y 3) 2 fmk] := hD_15
        have hS := hS_15
        clear hP_15 hD_15 hS_15
        refine lv_iinc (v := 3) (lv' := [(2, .int 3), (0, .ref mo), (1, .int 0)]) hx hb dX11_image_74 hl (k := 0) rfl (by decide) (by decide) rfl (fun ls hl => ?_)
        refine lv_goto (tgt := 51) hx hb dX11_image_77 (by decide) ?_
        refine lv_iload_n hx hb dX11_image_51 rfl (lv_at hl 0 rfl) ?_
        refine lv_bipush (v := 6) hx hb dX11_image_52 (by decide) ?_
        refine lv_icmp_ge (tgt := 80) hx hb dX11_image_54 (by decide) (fun c_16 => absurd c_16 (by decide)) (fun _ => ?_)
        refine lv_aload_n hx hb dX11_image_57 rfl (lv_at hl 1 rfl) ?_
        refine va_get (D := D) (ci := 11) (v := .ref mj) (C := RX11) (T := TX11) (N := 65) hx hb hg inGX11 hown hK hP 0 rfl rfl 63 (by decide) (hg _ q_6_189) (fun _ h9 => h9) (px_sn (by decide) hmo_63) dX11_image_58 ?_
        refine lv_bipush (v := 6) hx hb dX11_image_61 (by decide) ?_
        refine lv_iload_n hx hb dX11_image_63 rfl (lv_at hl 2 rfl) ?_
        refine lv_imul hx hb dX11_image_64 ?_
        refine px_top (v := 0) (by decide) ?_
        refine lv_iload_n hx hb dX11_image_65 rfl (lv_at hl 0 rfl) ?_
        refine lv_iadd hx hb dX11_image_66 ?_
        refine px_top (v := 3) (by decide) ?_
        refine lv_aload_n hx hb dX11_image_67 rfl (lv_at hl 1 rfl) ?_
        refine va_get (D := D) (ci := 11) (v := .ref mn) (C := RX11) (T := TX11) (N := 65) hx hb hg inGX11 hown hK hP 0 rfl rfl 9 (by decide) (hg _ q_6_135) (fun _ h9 => h9) (px_sn (by decide) hmo_9) dX11_image_68 ?_
        refine lv_iload_n hx hb dX11_image_71 rfl (lv_at hl 0 rfl) ?_
        refine va_lald hx hb hK hP 2 2 rfl rfl (i := 3) (px_in (by decide)) dX11_image_72 ?_
        refine va_last hx hb hK hP hD hS 4 2 rfl rfl (i := 3) (px_in (by decide)) dX11_image_73 (fun H_17 locs_17 hP_17 hD_17 hS_17 => ?_)
        clear hP hD hS
        have hP : va_P D vwCl [px_o mo 11 (fmo.set 0 (.int 0)), px_i ms (y 1) 765 fms, px_l mn (y 2) 12 fmn, px_i mi (y 1) 1530 F_5, px_l mj (y 2) 12 (vp_updL (vp_updL (vp_updL (vp_updL fmj 0 (fmn 0)) 1 (fmn 1)) 2 (fmn 2)) 3 (fmn 3)), px_i mk (y 3) 2 fmk] H_17 := hP_17
        have hD : va_D A [px_o mo 11 (fmo.set 0 (.int 0)), px_i ms (y 1) 765 fms, px_l mn (y 2) 12 fmn, px_i mi (y 1) 1530 F_5, px_l mj (y 2) 12 (vp_updL (vp_updL (vp_updL (vp_updL fmj 0 (fmn 0)) 1 (fmn 1)) 2 (fmn 2)) 3 (fmn 3)), px_i mk (y 3) 2 fmk] := hD_17
        have hS := hS_17
        clear hP_17 hD_17 hS_17
        refine lv_iinc (v := 4) (lv' := [(2, .int 4), (0, .ref mo), (1, .int 0)]) hx hb dX11_image_74 hl (k := 0) rfl (by decide) (by decide) rfl (fun ls hl => ?_)
        refine lv_goto (tgt := 51) hx hb dX11_image_77 (by decide) ?_
        refine lv_iload_n hx hb dX11_image_51 rfl (lv_at hl 0 rfl) ?_
        refine lv_bipush (v := 6) hx hb dX11_image_52 (by decide) ?_
        refine lv_icmp_ge (tgt := 80) hx hb dX11_image_54 (by decide) (fun c_18 => absurd c_18 (by decide)) (fun _ => ?_)
        refine lv_aload_n hx hb dX11_image_57 rfl (lv_at hl 1 rfl) ?_
        refine va_get (D := D) (ci := 11) (v := .ref mj) (C := RX11) (T := TX11) (N := 65) hx hb hg inGX11 hown hK hP 0 rfl rfl 63 (by decide) (hg _ q_6_189) (fun _ h9 => h9) (px_sn (by decide) hmo_63) dX11_image_58 ?_
        refine lv_bipush (v := 6) hx hb dX11_image_61 (by decide) ?_
        refine lv_iload_n hx hb dX11_image_63 rfl (lv_at hl 2 rfl) ?_
        refine lv_imul hx hb dX11_image_64 ?_
        refine px_top (v := 0) (by decide) ?_
        refine lv_iload_n hx hb dX11_image_65 rfl (lv_at hl 0 rfl) ?_
        refine lv_iadd hx hb dX11_image_66 ?_
        refine px_top (v := 4) (by decide) ?_
        refine lv_aload_n hx hb dX11_image_67 rfl (lv_at hl 1 rfl) ?_
        refine va_get (D := D) (ci := 11) (v := .ref mn) (C := RX11) (T := TX11) (N := 65) hx hb hg inGX11 hown hK hP 0 rfl rfl 9 (by decide) (hg _ q_6_135) (fun _ h9 => h9) (px_sn (by decide) hmo_9) dX11_image_68 ?_
        refine lv_iload_n hx hb dX11_image_71 rfl (lv_at hl 0 rfl) ?_
        refine va_lald hx hb hK hP 2 2 rfl rfl (i := 4) (px_in (by decide)) dX11_image_72 ?_
        refine va_last hx hb hK hP hD hS 4 2 rfl rfl (i := 4) (px_in (by decide)) dX11_image_73 (fun H_19 locs_19 hP_19 hD_19 hS_19 => ?_)
        clear hP hD hS
        have hP : va_P D vwCl [px_o mo 11 (fmo.set 0 (.int 0)), px_i ms (y 1) 765 fms, px_l mn (y 2) 12 fmn, px_i mi (y 1) 1530 F_5, px_l mj (y 2) 12 (vp_updL (vp_updL (vp_updL (vp_updL (vp_updL fmj 0 (fmn 0)) 1 (fmn 1)) 2 (fmn 2)) 3 (fmn 3)) 4 (fmn 4)), px_i mk (y 3) 2 fmk] H_19 := hP_19
        have hD : va_D A [px_o mo 11 (fmo.set 0 (.int 0)), px_i ms (y 1) 765 fms, px_l mn (y 2) 12 fmn, px_i mi (y 1) 1530 F_5, px_l mj (y 2) 12 (vp_updL (vp_updL (vp_updL (vp_updL (vp_updL fmj 0 (fmn 0)) 1 (fmn 1)) 2 (fmn 2)) 3 (fmn 3)) 4 (fmn 4)), px_i mk (y 3) 2 fmk] := hD_19
        have hS := hS_19
        clear hP_19 hD_19 hS_19
        refine lv_iinc (v := 5) (lv' := [(2, .int 5), (0, .ref mo), (1, .int 0)]) hx hb dX11_image_74 hl (k := 0) rfl (by decide) (by decide) rfl (fun ls hl => ?_)
        refine lv_goto (tgt := 51) hx hb dX11_image_77 (by decide) ?_
        refine lv_iload_n hx hb dX11_image_51 rfl (lv_at hl 0 rfl) ?_
        refine lv_bipush (v := 6) hx hb dX11_image_52 (by decide) ?_
        refine lv_icmp_ge (tgt := 80) hx hb dX11_image_54 (by decide) (fun c_20 => absurd c_20 (by decide)) (fun _ => ?_)
        refine lv_aload_n hx hb dX11_image_57 rfl (lv_at hl 1 rfl) ?_
        refine va_get (D := D) (ci := 11) (v := .ref mj) (C := RX11) (T := TX11) (N := 65) hx hb hg inGX11 hown hK hP 0 rfl rfl 63 (by decide) (hg _ q_6_189) (fun _ h9 => h9) (px_sn (by decide) hmo_63) dX11_image_58 ?_
        refine lv_bipush (v := 6) hx hb dX11_image_61 (by decide) ?_
        refine lv_iload_n hx hb dX11_image_63 rfl (lv_at hl 2 rfl) ?_
        refine lv_imul hx hb dX11_image_64 ?_
        refine px_top (v := 0) (by decide) ?_
        refine lv_iload_n hx hb dX11_image_65 rfl (lv_at hl 0 rfl) ?_
        refine lv_iadd hx hb dX11_image_66 ?_
        refine px_top (v := 5) (by decide) ?_
        refine lv_aload_n hx hb dX11_image_67 rfl (lv_at hl 1 rfl) ?_
        refine va_get (D := D) (ci := 11) (v := .ref mn) (C := RX11) (T := TX11) (N := 65) hx hb hg inGX11 hown hK hP 0 rfl rfl 9 (by decide) (hg _ q_6_135) (fun _ h9 => h9) (px_sn (by decide) hmo_9) dX11_image_68 ?_
        refine lv_iload_n hx hb dX11_image_71 rfl (lv_at hl 0 rfl) ?_
        refine va_lald hx hb hK hP 2 2 rfl rfl (i := 5) (px_in (by decide)) dX11_image_72 ?_
        refine va_last hx hb hK hP hD hS 4 2 rfl rfl (i := 5) (px_in (by decide)) dX11_image_73 (fun H_21 locs_21 hP_21 hD_21 hS_21 => ?_)
        clear hP hD hS
        have hP : va_P D vwCl [px_o mo 11 (fmo.set 0 (.int 0)), px_i ms (y 1) 765 fms, px_l mn (y 2) 12 fmn, px_i mi (y 1) 1530 F_5, px_l mj (y 2) 12 (vp_updL (vp_updL (vp_updL (vp_updL (vp_updL (vp_updL fmj 0 (fmn 0)) 1 (fmn 1)) 2 (fmn 2)) 3 (fmn 3)) 4 (fmn 4)) 5 (fmn 5)), px_i mk (y 3) 2 fmk] H_21 := hP_21
        have hD : va_D A [px_o mo 11 (fmo.set 0 (.int 0)), px_i ms (y 1) 765 fms, px_l mn (y 2) 12 fmn, px_i mi (y 1) 1530 F_5, px_l mj (y 2) 12 (vp_updL (vp_updL (vp_updL (vp_updL (vp_updL (vp_updL fmj 0 (fmn 0)) 1 (fmn 1)) 2 (fmn 2)) 3 (fmn 3)) 4 (fmn 4)) 5 (fmn 5)), px_i mk (y 3) 2 fmk] := hD_21
        have hS := hS_21
        clear hP_21 hD_21 hS_21
        refine lv_iinc (v := 6) (lv' := [(2, .int 6), (0, .ref mo), (1, .int 0)]) hx hb dX11_image_74 hl (k := 0) rfl (by decide) (by decide) rfl (fun ls hl => ?_)
        refine lv_goto (tgt := 51) hx hb dX11_image_77 (by decide) ?_
        refine lv_iload_n hx hb dX11_image_51 rfl (lv_at hl 0 rfl) ?_
        refine lv_bipush (v := 6) hx hb dX11_image_52 (by decide) ?_
        refine lv_icmp_ge (tgt := 80) hx hb dX11_image_54 (by decide) (fun _ => ?_) (fun c_22 => absurd c_22 (by decide))
        refine lv_aload_n hx hb dX11_image_80 rfl (lv_at hl 1 rfl) ?_
        refine va_get (D := D) (ci := 11) (v := .ref mk) (C := RX11) (T := TX11) (N := 65) hx hb hg inGX11 hown hK hP 0 rfl rfl 64 (by decide) (hg _ q_6_190) (fun _ h9 => h9) (px_sn (by decide) hmo_64) dX11_image_81 ?_
        refine lv_iload_n hx hb dX11_image_84 rfl (lv_at hl 2 rfl) ?_
        refine lv_iconst (v := 1) hx hb dX11_image_85 (by decide) ?_
        refine va_zast hx hb hK hP hD hS 5 3 rfl rfl (i := 0) (px_in (by decide)) dX11_image_86 (fun H_23 locs_23 hP_23 hD_23 hS_23 => ?_)
        clear hP hD hS
        have hP : va_P D vwCl [px_o mo 11 (fmo.set 0 (.int 0)), px_i ms (y 1) 765 fms, px_l mn (y 2) 12 fmn, px_i mi (y 1) 1530 F_5, px_l mj (y 2) 12 (vp_updL (vp_updL (vp_updL (vp_updL (vp_updL (vp_updL fmj 0 (fmn 0)) 1 (fmn 1)) 2 (fmn 2)) 3 (fmn 3)) 4 (fmn 4)) 5 (fmn 5)), px_i mk (y 3) 2 (upd fmk 0 (vp_nar .boolean 1))] H_23 := hP_23
        have hD : va_D A [px_o mo 11 (fmo.set 0 (.int 0)), px_i ms (y 1) 765 fms, px_l mn (y 2) 12 fmn, px_i mi (y 1) 1530 F_5, px_l mj (y 2) 12 (vp_updL (vp_updL (vp_updL (vp_updL (vp_updL (vp_updL fmj 0 (fmn 0)) 1 (fmn 1)) 2 (fmn 2)) 3 (fmn 3)) 4 (fmn 4)) 5 (fmn 5)), px_i mk (y 3) 2 (upd fmk 0 (vp_nar .boolean 1))] := hD_23
        have hS := hS_23
        clear hP_23 hD_23 hS_23
        refine lv_iconst (v := 1) hx hb dX11_image_87 (by decide) ?_
        exact W.zret (v := 1) hx hb hr (by decide) (fun t ht hW => ⟨⟨_, (), rfl, (by decide), trivial⟩, hS.F ht⟩) hS.2.2 dX11_image_88
    · obtain rfl : p0 = 1 := ej_4
      refine lv_iconst (v := 0) hx hb dX11_image_16 (by decide) ?_
      refine lv_istore_n (lv' := [(2, .int 0), (0, .ref mo), (1, .int 1)]) hx hb dX11_image_17 rfl hl (by decide) rfl (fun ls hl => ?_)
      refine px_loop1 (α := (Nat → Int32)) (nL := 3) 765 (ws := fun i_24 F_24 => [px_o mo 11 (fmo.set 0 (.int 0)), px_i ms (y 1) 765 fms, px_l mn (y 2) 12 fmn, px_i mi (y 1) 1530 F_24, px_l mj (y 2) 12 fmj, px_i mk (y 3) 2 fmk]) (lv := fun i_24 F_24 => [(2, .int (nI i_24)), (0, .ref mo), (1, .int 1)]) (inv := fun i_24 F_24 => True) ?_ ?_ 0 (by decide) fmi trivial hP hD hS (lv_sub hl [0, 1, 2] rfl)
      · clear hP hD hS
        intro i_24 F_24 hi_24 hv_24 ih_24 H_24 locs_24 ls hP hD hS hl
        have hP : va_P D vwCl [px_o mo 11 (fmo.set 0 (.int 0)), px_i ms (y 1) 765 fms, px_l mn (y 2) 12 fmn, px_i mi (y 1) 1530 F_24, px_l mj (y 2) 12 fmj, px_i mk (y 3) 2 fmk] H_24 := hP
        have hD : va_D A [px_o mo 11 (fmo.set 0 (.int 0)), px_i ms (y 1) 765 fms, px_l mn (y 2) 12 fmn, px_i mi (y 1) 1530 F_24, px_l mj (y 2) 12 fmj, px_i mk (y 3) 2 fmk] := hD
        have hl : lv_has ls 3 [(2, .int (nI i_24)), (0, .ref mo), (1, .int 1)] := hl
        refine lv_iload_n hx hb dX11_image_18 rfl (lv_at hl 0 rfl) ?_
        refine lv_sipush (v := 765) hx hb dX11_image_19 (by decide) ?_
        refine lv_icmp_ge (tgt := 49) hx hb dX11_image_22 (by decide) (fun c_25 => absurd c_25 (nI_ge (by omega) (by decide))) (fun _ => ?_)
        refine lv_aload_n hx hb dX11_image_25 rfl (lv_at hl 1 rfl) ?_
        refine va_get (D := D) (ci := 11) (v := .ref mi) (C := RX11) (T := TX11) (N := 65) hx hb hg inGX11 hown hK hP 0 rfl rfl 62 (by decide) (hg _ q_6_188) (fun _ h9 => h9) (px_sn (by decide) hmo_62) dX11_image_26 ?_
        refine lv_sipush (v := 765) hx hb dX11_image_29 (by decide) ?_
        refine lv_iload_n hx hb dX11_image_32 rfl (lv_at hl 2 rfl) ?_
        refine lv_imul hx hb dX11_image_33 ?_
        refine px_top (v := 765) (by decide) ?_
        refine lv_iload_n hx hb dX11_image_34 rfl (lv_at hl 0 rfl) ?_
        refine lv_iadd hx hb dX11_image_35 ?_
        refine px_top (v := nI (765 + i_24)) (nI_add 765 i_24) ?_
        refine lv_aload_n hx hb dX11_image_36 rfl (lv_at hl 1 rfl) ?_
        refine va_get (D := D) (ci := 11) (v := .ref ms) (C := RX11) (T := TX11) (N := 65) hx hb hg inGX11 hown hK hP 0 rfl rfl 6 (by decide) (hg _ q_6_132) (fun _ h9 => h9) (px_sn (by decide) hmo_6) dX11_image_37 ?_
        refine lv_iload_n hx hb dX11_image_40 rfl (lv_at hl 0 rfl) ?_
        refine va_iald hx hb hK hP 1 1 rfl rfl (i := (nI i_24)) (vp_in_nI (by omega) (by decide)) dX11_image_41 ?_
        refine px_top (v := fms i_24) (by rw [nI_clamp (by omega)]) ?_
        refine va_iast hx hb hK hP hD hS 3 1 rfl rfl (i := (nI (765 + i_24))) (vp_in_nI (by omega) (by decide)) dX11_image_42 (fun H_27 locs_27 hP_27 hD_27 hS_27 => ?_)
        clear hP hD hS
        have hP : va_P D vwCl [px_o mo 11 (fmo.set 0 (.int 0)), px_i ms (y 1) 765 fms, px_l mn (y 2) 12 fmn, px_i mi (y 1) 1530 (upd F_24 (nI (765 + i_24)).toNatClampNeg (fms i_24)), px_l mj (y 2) 12 fmj, px_i mk (y 3) 2 fmk] H_27 := hP_27
        have hD : va_D A [px_o mo 11 (fmo.set 0 (.int 0)), px_i ms (y 1) 765 fms, px_l mn (y 2) 12 fmn, px_i mi (y 1) 1530 (upd F_24 (nI (765 + i_24)).toNatClampNeg (fms i_24)), px_l mj (y 2) 12 fmj, px_i mk (y 3) 2 fmk] := hD_27
        have hS := hS_27
        clear hP_27 hD_27 hS_27
        refine lv_iinc (v := nI (i_24 + 1)) (lv' := [(2, .int (nI (i_24 + 1))), (0, .ref mo), (1, .int 1)]) hx hb dX11_image_43 hl (k := 0) rfl (nI_1 i_24) (by decide) rfl (fun ls hl => ?_)
        refine lv_goto (tgt := 18) hx hb dX11_image_46 (by decide) ?_
        exact ih_24 (upd F_24 (nI (765 + i_24)).toNatClampNeg (fms i_24)) _ _ ls trivial hP hD hS (lv_sub hl [0, 1, 2] rfl)
      · clear hP hD hS
        intro F_24 hv_24 H_24 locs_24 ls hP hD hS hl
        have hP : va_P D vwCl [px_o mo 11 (fmo.set 0 (.int 0)), px_i ms (y 1) 765 fms, px_l mn (y 2) 12 fmn, px_i mi (y 1) 1530 F_24, px_l mj (y 2) 12 fmj, px_i mk (y 3) 2 fmk] H_24 := hP
        have hD : va_D A [px_o mo 11 (fmo.set 0 (.int 0)), px_i ms (y 1) 765 fms, px_l mn (y 2) 12 fmn, px_i mi (y 1) 1530 F_24, px_l mj (y 2) 12 fmj, px_i mk (y 3) 2 fmk] := hD
        have hl : lv_has ls 3 [(2, .int 765), (0, .ref mo), (1, .int 1)] := hl
        refine lv_iload_n hx hb dX11_image_18 rfl (lv_at hl 0 rfl) ?_
        refine lv_sipush (v := 765) hx hb dX11_image_19 (by decide) ?_
        refine lv_icmp_ge (tgt := 49) hx hb dX11_image_22 (by decide) (fun _ => ?_) (fun c_28 => absurd c_28 (by decide))
        refine lv_iconst (v := 0) hx hb dX11_image_49 (by decide) ?_
        refine lv_istore_n (lv' := [(2, .int 0), (0, .ref mo), (1, .int 1)]) hx hb dX11_image_50 rfl hl (by decide) rfl (fun ls hl => ?_)
        refine lv_iload_n hx hb dX11_image_51 rfl (lv_at hl 0 rfl) ?_
        refine lv_bipush (v := 6) hx hb dX11_image_52 (by decide) ?_
        refine lv_icmp_ge (tgt := 80) hx hb dX11_image_54 (by decide) (fun c_29 => absurd c_29 (by decide)) (fun _ => ?_)
        refine lv_aload_n hx hb dX11_image_57 rfl (lv_at hl 1 rfl) ?_
        refine va_get (D := D) (ci := 11) (v := .ref mj) (C := RX11) (T := TX11) (N := 65) hx hb hg inGX11 hown hK hP 0 rfl rfl 63 (by decide) (hg _ q_6_189) (fun _ h9 => h9) (px_sn (by decide) hmo_63) dX11_image_58 ?_
        refine lv_bipush (v := 6) hx hb dX11_image_61 (by decide) ?_
        refine lv_iload_n hx hb dX11_image_63 rfl (lv_at hl 2 rfl) ?_
        refine lv_imul hx hb dX11_image_64 ?_
        refine px_top (v := 6) (by decide) ?_
        refine lv_iload_n hx hb dX11_image_65 rfl (lv_at hl 0 rfl) ?_
        refine lv_iadd hx hb dX11_image_66 ?_
        refine px_top (v := 6) (by decide) ?_
        refine lv_aload_n hx hb dX11_image_67 rfl (lv_at hl 1 rfl) ?_
        refine va_get (D := D) (ci := 11) (v := .ref mn) (C := RX11) (T := TX11) (N := 65) hx hb hg inGX11 hown hK hP 0 rfl rfl 9 (by decide) (hg _ q_6_135) (fun _ h9 => h9) (px_sn (by decide) hmo_9) dX11_image_68 ?_
        refine lv_iload_n hx hb dX11_image_71 rfl (lv_at hl 0 rfl) ?_
        refine va_lald hx hb hK hP 2 2 rfl rfl (i := 0) (px_in (by decide)) dX11_image_72 ?_
        refine va_last hx hb hK hP hD hS 4 2 rfl rfl (i := 6) (px_in (by decide)) dX11_image_73 (fun H_30 locs_30 hP_30 hD_30 hS_30 => ?_)
        clear hP hD hS
        have hP : va_P D vwCl [px_o mo 11 (fmo.set 0 (.int 0)), px_i ms (y 1) 765 fms, px_l mn (y 2) 12 fmn, px_i mi (y 1) 1530 F_24, px_l mj (y 2) 12 (vp_updL fmj 6 (fmn 0)), px_i mk (y 3) 2 fmk] H_30 := hP_30
        have hD : va_D A [px_o mo 11 (fmo.set 0 (.int 0)), px_i ms (y 1) 765 fms, px_l mn (y 2) 12 fmn, px_i mi (y 1) 1530 F_24, px_l mj (y 2) 12 (vp_updL fmj 6 (fmn 0)), px_i mk (y 3) 2 fmk] := hD_30
        have hS := hS_30
        clear hP_30 hD_30 hS_30
        refine lv_iinc (v := 1) (lv' := [(2, .int 1), (0, .ref mo), (1, .int 1)]) hx hb dX11_image_74 hl (k := 0) rfl (by decide) (by decide) rfl (fun ls hl => ?_)
        refine lv_goto (tgt := 51) hx hb dX11_image_77 (by decide) ?_
        refine lv_iload_n hx hb dX11_image_51 rfl (lv_at hl 0 rfl) ?_
        refine lv_bipush (v := 6) hx hb dX11_image_52 (by decide) ?_
        refine lv_icmp_ge (tgt := 80) hx hb dX11_image_54 (by decide) (fun c_31 => absurd c_31 (by decide)) (fun _ => ?_)
        refine lv_aload_n hx hb dX11_image_57 rfl (lv_at hl 1 rfl) ?_
        refine va_get (D := D) (ci := 11) (v := .ref mj) (C := RX11) (T := TX11) (N := 65) hx hb hg inGX11 hown hK hP 0 rfl rfl 63 (by decide) (hg _ q_6_189) (fun _ h9 => h9) (px_sn (by decide) hmo_63) dX11_image_58 ?_
        refine lv_bipush (v := 6) hx hb dX11_image_61 (by decide) ?_
        refine lv_iload_n hx hb dX11_image_63 rfl (lv_at hl 2 rfl) ?_
        refine lv_imul hx hb dX11_image_64 ?_
        refine px_top (v := 6) (by decide) ?_
        refine lv_iload_n hx hb dX11_image_65 rfl (lv_at hl 0 rfl) ?_
        refine lv_iadd hx hb dX11_image_66 ?_
        refine px_top (v := 7) (by decide) ?_
        refine lv_aload_n hx hb dX11_image_67 rfl (lv_at hl 1 rfl) ?_
        refine va_get (D := D) (ci := 11) (v := .ref mn) (C := RX11) (T := TX11) (N := 65) hx hb hg inGX11 hown hK hP 0 rfl rfl 9 (by decide) (hg _ q_6_135) (fun _ h9 => h9) (px_sn (by decide) hmo_9) dX11_image_68 ?_
        refine lv_iload_n hx hb dX11_image_71 rfl (lv_at hl 0 rfl) ?_
        refine va_lald hx hb hK hP 2 2 rfl rfl (i := 1) (px_in (by decide)) dX11_image_72 ?_
        refine va_last hx hb hK hP hD hS 4 2 rfl rfl (i := 7) (px_in (by decide)) dX11_image_73 (fun H_32 locs_32 hP_32 hD_32 hS_32 => ?_)
        clear hP hD hS
        have hP : va_P D vwCl [px_o mo 11 (fmo.set 0 (.int 0)), px_i ms (y 1) 765 fms, px_l mn (y 2) 12 fmn, px_i mi (y 1) 1530 F_24, px_l mj (y 2) 12 (vp_updL (vp_updL fmj 6 (fmn 0)) 7 (fmn 1)), px_i mk (y 3) 2 fmk] H_32 := hP_32
        have hD : va_D A [px_o mo 11 (fmo.set 0 (.int 0)), px_i ms (y 1) 765 fms, px_l mn (y 2) 12 fmn, px_i mi (y 1) 1530 F_24, px_l mj (y 2) 12 (vp_updL (vp_updL fmj 6 (fmn 0)) 7 (fmn 1)), px_i mk (y 3) 2 fmk] := hD_32
        have hS := hS_32
        clear hP_32 hD_32 hS_32
        refine lv_iinc (v := 2) (lv' := [(2, .int 2), (0, .ref mo), (1, .int 1)]) hx hb dX11_image_74 hl (k := 0) rfl (by decide) (by decide) rfl (fun ls hl => ?_)
        refine lv_goto (tgt := 51) hx hb dX11_image_77 (by decide) ?_
        refine lv_iload_n hx hb dX11_image_51 rfl (lv_at hl 0 rfl) ?_
        refine lv_bipush (v := 6) hx hb dX11_image_52 (by decide) ?_
        refine lv_icmp_ge (tgt := 80) hx hb dX11_image_54 (by decide) (fun c_33 => absurd c_33 (by decide)) (fun _ => ?_)
        refine lv_aload_n hx hb dX11_image_57 rfl (lv_at hl 1 rfl) ?_
        refine va_get (D := D) (ci := 11) (v := .ref mj) (C := RX11) (T := TX11) (N := 65) hx hb hg inGX11 hown hK hP 0 rfl rfl 63 (by decide) (hg _ q_6_189) (fun _ h9 => h9) (px_sn (by decide) hmo_63) dX11_image_58 ?_
        refine lv_bipush (v := 6) hx hb dX11_image_61 (by decide) ?_
        refine lv_iload_n hx hb dX11_image_63 rfl (lv_at hl 2 rfl) ?_
        refine lv_imul hx hb dX11_image_64 ?_
        refine px_top (v := 6) (by decide) ?_
        refine lv_iload_n hx hb dX11_image_65 rfl (lv_at hl 0 rfl) ?_
        refine lv_iadd hx hb dX11_image_66 ?_
        refine px_top (v := 8) (by decide) ?_
        refine lv_aload_n hx hb dX11_image_67 rfl (lv_at hl 1 rfl) ?_
        refine va_get (D := D) (ci := 11) (v := .ref mn) (C := RX11) (T := TX11) (N := 65) hx hb hg inGX11 hown hK hP 0 rfl rfl 9 (by decide) (hg _ q_6_135) (fun _ h9 => h9) (px_sn (by decide) hmo_9) dX11_image_68 ?_
        refine lv_iload_n hx hb dX11_image_71 rfl (lv_at hl 0 rfl) ?_
        refine va_lald hx hb hK hP 2 2 rfl rfl (i := 2) (px_in (by decide)) dX11_image_72 ?_
        refine va_last hx hb hK hP hD hS 4 2 rfl rfl (i := 8) (px_in (by decide)) dX11_image_73 (fun H_34 locs_34 hP_34 hD_34 hS_34 => ?_)
        clear hP hD hS
        have hP : va_P D vwCl [px_o mo 11 (fmo.set 0 (.int 0)), px_i ms (y 1) 765 fms, px_l mn (y 2) 12 fmn, px_i mi (y 1) 1530 F_24, px_l mj (y 2) 12 (vp_updL (vp_updL (vp_updL fmj 6 (fmn 0)) 7 (fmn 1)) 8 (fmn 2)), px_i mk (y 3) 2 fmk] H_34 := hP_34
        have hD : va_D A [px_o mo 11 (fmo.set 0 (.int 0)), px_i ms (y 1) 765 fms, px_l mn (y 2) 12 fmn, px_i mi (y 1) 1530 F_24, px_l mj (y 2) 12 (vp_updL (vp_updL (vp_updL fmj 6 (fmn 0)) 7 (fmn 1)) 8 (fmn 2)), px_i mk (y 3) 2 fmk] := hD_34
        have hS := hS_34
        clear hP_34 hD_34 hS_34
        refine lv_iinc (v := 3) (lv' := [(2, .int 3), (0, .ref mo), (1, .int 1)]) hx hb dX11_image_74 hl (k := 0) rfl (by decide) (by decide) rfl (fun ls hl => ?_)
        refine lv_goto (tgt := 51) hx hb dX11_image_77 (by decide) ?_
        refine lv_iload_n hx hb dX11_image_51 rfl (lv_at hl 0 rfl) ?_
        refine lv_bipush (v := 6) hx hb dX11_image_52 (by decide) ?_
        refine lv_icmp_ge (tgt := 80) hx hb dX11_image_54 (by decide) (fun c_35 => absurd c_35 (by decide)) (fun _ => ?_)
        refine lv_aload_n hx hb dX11_image_57 rfl (lv_at hl 1 rfl) ?_
        refine va_get (D := D) (ci := 11) (v := .ref mj) (C := RX11) (T := TX11) (N := 65) hx hb hg inGX11 hown hK hP 0 rfl rfl 63 (by decide) (hg _ q_6_189) (fun _ h9 => h9) (px_sn (by decide) hmo_63) dX11_image_58 ?_
        refine lv_bipush (v := 6) hx hb dX11_image_61 (by decide) ?_
        refine lv_iload_n hx hb dX11_image_63 rfl (lv_at hl 2 rfl) ?_
        refine lv_imul hx hb dX11_image_64 ?_
        refine px_top (v := 6) (by decide) ?_
        refine lv_iload_n hx hb dX11_image_65 rfl (lv_at hl 0 rfl) ?_
        refine lv_iadd hx hb dX11_image_66 ?_
        refine px_top (v := 9) (by decide) ?_
        refine lv_aload_n hx hb dX11_image_67 rfl (lv_at hl 1 rfl) ?_
        refine va_get (D := D) (ci := 11) (v := .ref mn) (C := RX11) (T := TX11) (N := 65) hx hb hg inGX11 hown hK hP 0 rfl rfl 9 (by decide) (hg _ q_6_135) (fun _ h9 => h9) (px_sn (by decide) hmo_9) dX11_image_68 ?_
        refine lv_iload_n hx hb dX11_image_71 rfl (lv_at hl 0 rfl) ?_
        refine va_lald hx hb hK hP 2 2 rfl rfl (i := 3) (px_in (by decide)) dX11_image_72 ?_
        refine va_last hx hb hK hP hD hS 4 2 rfl rfl (i := 9) (px_in (by decide)) dX11_image_73 (fun H_36 locs_36 hP_36 hD_36 hS_36 => ?_)
        clear hP hD hS
        have hP : va_P D vwCl [px_o mo 11 (fmo.set 0 (.int 0)), px_i ms (y 1) 765 fms, px_l mn (y 2) 12 fmn, px_i mi (y 1) 1530 F_24, px_l mj (y 2) 12 (vp_updL (vp_updL (vp_updL (vp_updL fmj 6 (fmn 0)) 7 (fmn 1)) 8 (fmn 2)) 9 (fmn 3)), px_i mk (y 3) 2 fmk] H_36 := hP_36
        have hD : va_D A [px_o mo 11 (fmo.set 0 (.int 0)), px_i ms (y 1) 765 fms, px_l mn (y 2) 12 fmn, px_i mi (y 1) 1530 F_24, px_l mj (y 2) 12 (vp_updL (vp_updL (vp_updL (vp_updL fmj 6 (fmn 0)) 7 (fmn 1)) 8 (fmn 2)) 9 (fmn 3)), px_i mk (y 3) 2 fmk] := hD_36
        have hS := hS_36
        clear hP_36 hD_36 hS_36
        refine lv_iinc (v := 4) (lv' := [(2, .int 4), (0, .ref mo), (1, .int 1)]) hx hb dX11_image_74 hl (k := 0) rfl (by decide) (by decide) rfl (fun ls hl => ?_)
        refine lv_goto (tgt := 51) hx hb dX11_image_77 (by decide) ?_
        refine lv_iload_n hx hb dX11_image_51 rfl (lv_at hl 0 rfl) ?_
        refine lv_bipush (v := 6) hx hb dX11_image_52 (by decide) ?_
        refine lv_icmp_ge (tgt := 80) hx hb dX11_image_54 (by decide) (fun c_37 => absurd c_37 (by decide)) (fun _ => ?_)
        refine lv_aload_n hx hb dX11_image_57 rfl (lv_at hl 1 rfl) ?_
        refine va_get (D := D) (ci := 11) (v := .ref mj) (C := RX11) (T := TX11) (N := 65) hx hb hg inGX11 hown hK hP 0 rfl rfl 63 (by decide) (hg _ q_6_189) (fun _ h9 => h9) (px_sn (by decide) hmo_63) dX11_image_58 ?_
        refine lv_bipush (v := 6) hx hb dX11_image_61 (by decide) ?_
        refine lv_iload_n hx hb dX11_image_63 rfl (lv_at hl 2 rfl) ?_
        refine lv_imul hx hb dX11_image_64 ?_
        refine px_top (v := 6) (by decide) ?_
        refine lv_iload_n hx hb dX11_image_65 rfl (lv_at hl 0 rfl) ?_
        refine lv_iadd hx hb dX11_image_66 ?_
        refine px_top (v := 10) (by decide) ?_
        refine lv_aload_n hx hb dX11_image_67 rfl (lv_at hl 1 rfl) ?_
        refine va_get (D := D) (ci := 11) (v := .ref mn) (C := RX11) (T := TX11) (N := 65) hx hb hg inGX11 hown hK hP 0 rfl rfl 9 (by decide) (hg _ q_6_135) (fun _ h9 => h9) (px_sn (by decide) hmo_9) dX11_image_68 ?_
        refine lv_iload_n hx hb dX11_image_71 rfl (lv_at hl 0 rfl) ?_
        refine va_lald hx hb hK hP 2 2 rfl rfl (i := 4) (px_in (by decide)) dX11_image_72 ?_
        refine va_last hx hb hK hP hD hS 4 2 rfl rfl (i := 10) (px_in (by decide)) dX11_image_73 (fun H_38 locs_38 hP_38 hD_38 hS_38 => ?_)
        clear hP hD hS
        have hP : va_P D vwCl [px_o mo 11 (fmo.set 0 (.int 0)), px_i ms (y 1) 765 fms, px_l mn (y 2) 12 fmn, px_i mi (y 1) 1530 F_24, px_l mj (y 2) 12 (vp_updL (vp_updL (vp_updL (vp_updL (vp_updL fmj 6 (fmn 0)) 7 (fmn 1)) 8 (fmn 2)) 9 (fmn 3)) 10 (fmn 4)), px_i mk (y 3) 2 fmk] H_38 := hP_38
        have hD : va_D A [px_o mo 11 (fmo.set 0 (.int 0)), px_i ms (y 1) 765 fms, px_l mn (y 2) 12 fmn, px_i mi (y 1) 1530 F_24, px_l mj (y 2) 12 (vp_updL (vp_updL (vp_updL (vp_updL (vp_updL fmj 6 (fmn 0)) 7 (fmn 1)) 8 (fmn 2)) 9 (fmn 3)) 10 (fmn 4)), px_i mk (y 3) 2 fmk] := hD_38
        have hS := hS_38
        clear hP_38 hD_38 hS_38
        refine lv_iinc (v := 5) (lv' := [(2, .int 5), (0, .ref mo), (1, .int 1)]) hx hb dX11_image_74 hl (k := 0) rfl (by decide) (by decide) rfl (fun ls hl => ?_)
        refine lv_goto (tgt := 51) hx hb dX11_image_77 (by decide) ?_
        refine lv_iload_n hx hb dX11_image_51 rfl (lv_at hl 0 rfl) ?_
        refine lv_bipush (v := 6) hx hb dX11_image_52 (by decide) ?_
        refine lv_icmp_ge (tgt := 80) hx hb dX11_image_54 (by decide) (fun c_39 => absurd c_39 (by decide)) (fun _ => ?_)
        refine lv_aload_n hx hb dX11_image_57 rfl (lv_at hl 1 rfl) ?_
        refine va_get (D := D) (ci := 11) (v := .ref mj) (C := RX11) (T := TX11) (N := 65) hx hb hg inGX11 hown hK hP 0 rfl rfl 63 (by decide) (hg _ q_6_189) (fun _ h9 => h9) (px_sn (by decide) hmo_63) dX11_image_58 ?_
        refine lv_bipush (v := 6) hx hb dX11_image_61 (by decide) ?_
        refine lv_iload_n hx hb dX11_image_63 rfl (lv_at hl 2 rfl) ?_
        refine lv_imul hx hb dX11_image_64 ?_
        refine px_top (v := 6) (by decide) ?_
        refine lv_iload_n hx hb dX11_image_65 rfl (lv_at hl 0 rfl) ?_
        refine lv_iadd hx hb dX11_image_66 ?_
        refine px_top (v := 11) (by decide) ?_
        refine lv_aload_n hx hb dX11_image_67 rfl (lv_at hl 1 rfl) ?_
        refine va_get (D := D) (ci := 11) (v := .ref mn) (C := RX11) (T := TX11) (N := 65) hx hb hg inGX11 hown hK hP 0 rfl rfl 9 (by decide) (hg _ q_6_135) (fun _ h9 => h9) (px_sn (by decide) hmo_9) dX11_image_68 ?_
        refine lv_iload_n hx hb dX11_image_71 rfl (lv_at hl 0 rfl) ?_
        refine va_lald hx hb hK hP 2 2 rfl rfl (i := 5) (px_in (by decide)) dX11_image_72 ?_
        refine va_last hx hb hK hP hD hS 4 2 rfl rfl (i := 11) (px_in (by decide)) dX11_image_73 (fun H_40 locs_40 hP_40 hD_40 hS_40 => ?_)
        clear hP hD hS
        have hP : va_P D vwCl [px_o mo 11 (fmo.set 0 (.int 0)), px_i ms (y 1) 765 fms, px_l mn (y 2) 12 fmn, px_i mi (y 1) 1530 F_24, px_l mj (y 2) 12 (vp_updL (vp_updL (vp_updL (vp_updL (vp_updL (vp_updL fmj 6 (fmn 0)) 7 (fmn 1)) 8 (fmn 2)) 9 (fmn 3)) 10 (fmn 4)) 11 (fmn 5)), px_i mk (y 3) 2 fmk] H_40 := hP_40
        have hD : va_D A [px_o mo 11 (fmo.set 0 (.int 0)), px_i ms (y 1) 765 fms, px_l mn (y 2) 12 fmn, px_i mi (y 1) 1530 F_24, px_l mj (y 2) 12 (vp_updL (vp_updL (vp_updL (vp_updL (vp_updL (vp_updL fmj 6 (fmn 0)) 7 (fmn 1)) 8 (fmn 2)) 9 (fmn 3)) 10 (fmn 4)) 11 (fmn 5)), px_i mk (y 3) 2 fmk] := hD_40
        have hS := hS_40
        clear hP_40 hD_40 hS_40
        refine lv_iinc (v := 6) (lv' := [(2, .int 6), (0, .ref mo), (1, .int 1)]) hx hb dX11_image_74 hl (k := 0) rfl (by decide) (by decide) rfl (fun ls hl => ?_)
        refine lv_goto (tgt := 51) hx hb dX11_image_77 (by decide) ?_
        refine lv_iload_n hx hb dX11_image_51 rfl (lv_at hl 0 rfl) ?_
        refine lv_bipush (v := 6) hx hb dX11_image_52 (by decide) ?_
        refine lv_icmp_ge (tgt := 80) hx hb dX11_image_54 (by decide) (fun _ => ?_) (fun c_41 => absurd c_41 (by decide))
        refine lv_aload_n hx hb dX11_image_80 rfl (lv_at hl 1 rfl) ?_
        refine va_get (D := D) (ci := 11) (v := .ref mk) (C := RX11) (T := TX11) (N := 65) hx hb hg inGX11 hown hK hP 0 rfl rfl 64 (by decide) (hg _ q_6_190) (fun _ h9 => h9) (px_sn (by decide) hmo_64) dX11_image_81 ?_
        refine lv_iload_n hx hb dX11_image_84 rfl (lv_at hl 2 rfl) ?_
        refine lv_iconst (v := 1) hx hb dX11_image_85 (by decide) ?_
        refine va_zast hx hb hK hP hD hS 5 3 rfl rfl (i := 1) (px_in (by decide)) dX11_image_86 (fun H_42 locs_42 hP_42 hD_42 hS_42 => ?_)
        clear hP hD hS
        have hP : va_P D vwCl [px_o mo 11 (fmo.set 0 (.int 0)), px_i ms (y 1) 765 fms, px_l mn (y 2) 12 fmn, px_i mi (y 1) 1530 F_24, px_l mj (y 2) 12 (vp_updL (vp_updL (vp_updL (vp_updL (vp_updL (vp_updL fmj 6 (fmn 0)) 7 (fmn 1)) 8 (fmn 2)) 9 (fmn 3)) 10 (fmn 4)) 11 (fmn 5)), px_i mk (y 3) 2 (upd fmk 1 (vp_nar .boolean 1))] H_42 := hP_42
        have hD : va_D A [px_o mo 11 (fmo.set 0 (.int 0)), px_i ms (y 1) 765 fms, px_l mn (y 2) 12 fmn, px_i mi (y 1) 1530 F_24, px_l mj (y 2) 12 (vp_updL (vp_updL (vp_updL (vp_updL (vp_updL (vp_updL fmj 6 (fmn 0)) 7 (fmn 1)) 8 (fmn 2)) 9 (fmn 3)) 10 (fmn 4)) 11 (fmn 5)), px_i mk (y 3) 2 (upd fmk 1 (vp_nar .boolean 1))] := hD_42
        have hS := hS_42
        clear hP_42 hD_42 hS_42
        refine lv_iconst (v := 1) hx hb dX11_image_87 (by decide) ?_
        exact W.zret (v := 1) hx hb hr (by decide) (fun t ht hW => ⟨⟨_, (), rfl, (by decide), trivial⟩, hS.F ht⟩) hS.2.2 dX11_image_88
  · refine lv_if_ne (tgt := 16) hx hb dX11_image_11 (by decide) (fun c_43 => absurd c_43 (by decide)) (fun _ => ?_)
    refine lv_iconst (v := 0) hx hb dX11_image_14 (by decide) ?_
    exact W.zret (v := 0) hx hb hr (by decide) (fun t ht hW => ⟨⟨_, (), rfl, (by show _ = px_is01 p0; unfold px_is01; simp only [Int32.lt_iff_toInt_lt, Int32.le_iff_toInt_le, ← Int32.toInt_inj] at g_2_1_0; have e0 : (0 : Int32).toInt = 0 := rfl; first | (rw [if_pos (by omega)]; done) | (rw [if_neg (by omega)]; done)), trivial⟩, hS.F ht⟩) hS.2.2 dX11_image_15
  · refine lv_if_ne (tgt := 16) hx hb dX11_image_11 (by decide) (fun c_44 => absurd c_44 (by decide)) (fun _ => ?_)
    refine lv_iconst (v := 0) hx hb dX11_image_14 (by decide) ?_
    exact W.zret (v := 0) hx hb hr (by decide) (fun t ht hW => ⟨⟨_, (), rfl, (by show _ = px_is01 p0; unfold px_is01; simp only [Int32.lt_iff_toInt_lt, Int32.le_iff_toInt_le, ← Int32.toInt_inj] at g_2_2_0; have e0 : (1 : Int32).toInt = 1 := rfl; first | (rw [if_pos (by omega)]; done) | (rw [if_neg (by omega)]; done)), trivial⟩, hS.F ht⟩) hS.2.2 dX11_image_15
