set_option maxHeartbeats 4000000 in
set_option maxRecDepth 100000 in
theorem c_X3_copyFrom (l : Launch) (D : va_G) (y : Nat → ClassId) (sz : Nat) (gk : Nat) (trk : Nat) (fgk : List Value) (gs : Nat) (gt : Nat) (gq : Nat) (fgs : Nat → Int32) (fgt : Nat → Int32) (fgq : Nat → Int32) (ftrk : List Value) (trs : Nat) (trt : Nat) (trq : Nat) (ftrs : Nat → Int32) (ftrt : Nat → Int32) (ftrq : Nat → Int32) (hgk_0 : px_g fgk 0 (.ref gs)) (hgk_1 : px_g fgk 1 (.ref gt)) (hgk_2 : px_g fgk 2 (.int 0)) (hgk_3 : px_g fgk 3 (.ref gq)) (htrk_0 : px_g ftrk 0 (.ref trs)) (htrk_1 : px_g ftrk 1 (.ref trt)) (htrk_2 : px_g ftrk 2 (.int 0)) (htrk_3 : px_g ftrk 3 (.ref trq)) : Met l yX3_copyFrom (px_w yX3_copyFrom cX3_copyFrom 2 none) ({ frames := 1, cells := 0, slots := 0, locals := 40 }) (va_Pc [.ref gk, .ref trk] (px_P D y sz [px_o gk 3 fgk, px_i gs (y 1) 78 fgs, px_i gt (y 1) 52 fgt, px_i gq (y 1) 6 fgq, px_o trk 3 ftrk, px_i trs (y 1) 78 ftrs, px_i trt (y 1) 52 ftrt, px_i trq (y 1) 6 ftrq])) (va_Qv (fun (u : px_U) => True) (fun (u : px_U) t => va_P D vwCl [px_o gk 3 (fgk.set 2 (.int 0)), px_i gs (y 1) 78 (u.2.1 0), px_i gt (y 1) 52 (u.2.1 1), px_i gq (y 1) 6 (u.2.1 2), px_o trk 3 ftrk, px_i trs (y 1) 78 ftrs, px_i trt (y 1) 52 ftrt, px_i trq (y 1) 6 ftrq] t.heap ∧ va_D (va_A [px_o gk 3 fgk, px_i gs (y 1) 78 fgs, px_i gt (y 1) 52 fgt, px_i gq (y 1) 6 fgq, px_o trk 3 ftrk, px_i trs (y 1) 78 ftrs, px_i trt (y 1) 52 ftrt, px_i trq (y 1) 6 ftrq] sz) [px_o gk 3 (fgk.set 2 (.int 0)), px_i gs (y 1) 78 (u.2.1 0), px_i gt (y 1) 52 (u.2.1 1), px_i gq (y 1) 6 (u.2.1 2), px_o trk 3 ftrk, px_i trs (y 1) 78 ftrs, px_i trt (y 1) 52 ftrt, px_i trq (y 1) 6 ftrq]) (va_A [px_o gk 3 fgk, px_i gs (y 1) 78 fgs, px_i gt (y 1) 52 fgt, px_i gq (y 1) 6 fgq, px_o trk 3 ftrk, px_i trs (y 1) 78 ftrs, px_i trt (y 1) 52 ftrt, px_i trq (y 1) 6 ftrq] sz)) 0 0 (va_A [px_o gk 3 fgk, px_i gs (y 1) 78 fgs, px_i gt (y 1) 52 fgt, px_i gq (y 1) 6 fgq, px_o trk 3 ftrk, px_i trs (y 1) 78 ftrs, px_i trt (y 1) 52 ftrt, px_i trq (y 1) 6 ftrq] sz) := by
  refine Met.ofW (cc := cX3_copyFrom) (maxL := 2) (ret := none) (by decide) rfl ?_
  intro p e s m args below meth c s₁ B hml hv
  obtain ⟨rfl, hsz, hP, hK, hD0⟩ := hv
  have hx := B.exec
  have hb := B.bytes
  have hr := B.returns
  have hts := atoms_spec (ws := px_w yX3_copyFrom cX3_copyFrom 2 none) B.pre
  have hg : ∀ w ∈ gw, w.before [.ref gk, .ref trk].toArray s = true := fun w h => hts w (List.mem_cons_of_mem _ h)
  have hown : s.vm.findClass RX3 = some m.cls := findClass_of_methodNamed B.named
  have hlocks := B.notSynchronized
  subst hsz
  have hD := hD0.self (sz := s.heap.size)
  generalize hAe : va_A [px_o gk 3 fgk, px_i gs (y 1) 78 fgs, px_i gt (y 1) 52 fgt, px_i gq (y 1) 6 fgq, px_o trk 3 ftrk, px_i trs (y 1) 78 ftrs, px_i trt (y 1) 52 ftrt, px_i trq (y 1) 6 ftrq] s.heap.size = A at hD ⊢
  have hA : ∀ q : Nat, s.heap.size ≤ q → A q := fun q h => by rw [← hAe]; exact Or.inr h
  have hS : va_S A s.heap s.heap [] := va_S.rf
  have hP : va_P D vwCl [px_o gk 3 fgk, px_i gs (y 1) 78 fgs, px_i gt (y 1) 52 fgt, px_i gq (y 1) 6 fgq, px_o trk 3 ftrk, px_i trs (y 1) 78 ftrs, px_i trt (y 1) 52 ftrt, px_i trq (y 1) 6 ftrq] s.heap := hP
  have hl := lv_entry ([.ref gk, .ref trk]) (n := 2) (Nat.le_of_ble_eq_true rfl)
  rw [lg_entry_eq]
  generalize (lg_sl ([.ref gk, .ref trk]) ++ List.replicate (2 - (lg_sl ([.ref gk, .ref trk])).length) Slot.unset).toArray = ls at hl ⊢
  have hl : lv_has ls 2 [(0, .ref gk), (1, .ref trk)] := hl
  refine lv_aload_n hx hb dX3_copyFrom_0 rfl (lv_at hl 1 rfl) ?_
  refine va_get (D := D) (ci := 3) (v := .ref trs) (C := RX3) (T := TX3) (N := 4) hx hb hg inGX3 hown hK hP 4 rfl rfl 0 (by decide) (hg _ q_1_44) (fun _ h9 => h9) htrk_0 dX3_copyFrom_1 ?_
  refine lv_iconst (v := 0) hx hb dX3_copyFrom_4 (by decide) ?_
  refine lv_aload_n hx hb dX3_copyFrom_5 rfl (lv_at hl 0 rfl) ?_
  refine va_get (D := D) (ci := 3) (v := .ref gs) (C := RX3) (T := TX3) (N := 4) hx hb hg inGX3 hown hK hP 0 rfl rfl 0 (by decide) (hg _ q_1_44) (fun _ h9 => h9) hgk_0 dX3_copyFrom_6 ?_
  refine lv_iconst (v := 0) hx hb dX3_copyFrom_9 (by decide) ?_
  refine lv_aload_n hx hb dX3_copyFrom_10 rfl (lv_at hl 0 rfl) ?_
  refine va_get (D := D) (ci := 3) (v := .ref gs) (C := RX3) (T := TX3) (N := 4) hx hb hg inGX3 hown hK hP 0 rfl rfl 0 (by decide) (hg _ q_1_44) (fun _ h9 => h9) hgk_0 dX3_copyFrom_11 ?_
  refine va_alen (v := 78) hx hb hK hP 1 1 rfl rfl rfl dX3_copyFrom_14 ?_
  refine va_copyi hx hb (hml.trans hl.1.symm) hown (hg _ q_3_98) (hg _ q_3_93) (hg _ q_3_92) (hg _ q_1_17) hK hP hD hS 5 1 1 1 rfl rfl rfl rfl (ty := .int) rfl (sp := 0) (dp := 0) (n := 78) (by decide) (by decide) (by decide) (by decide) (by decide) (fun _ _ => rfl) (Nat.le_of_ble_eq_true rfl) (Nat.le_of_ble_eq_true rfl) dX3_copyFrom_15 (fun H_1 locs_1 hP_1 hD_1 hS_1 => ?_)
  clear hP hD hS
  have hP : va_P D vwCl [px_o gk 3 fgk, px_i gs (y 1) 78 (va_cpy ftrs fgs 0 0 78), px_i gt (y 1) 52 fgt, px_i gq (y 1) 6 fgq, px_o trk 3 ftrk, px_i trs (y 1) 78 ftrs, px_i trt (y 1) 52 ftrt, px_i trq (y 1) 6 ftrq] H_1 := hP_1
  have hD : va_D A [px_o gk 3 fgk, px_i gs (y 1) 78 (va_cpy ftrs fgs 0 0 78), px_i gt (y 1) 52 fgt, px_i gq (y 1) 6 fgq, px_o trk 3 ftrk, px_i trs (y 1) 78 ftrs, px_i trt (y 1) 52 ftrt, px_i trq (y 1) 6 ftrq] := hD_1
  have hS := hS_1
  clear hP_1 hD_1 hS_1
  refine lv_aload_n hx hb dX3_copyFrom_18 rfl (lv_at hl 1 rfl) ?_
  refine va_get (D := D) (ci := 3) (v := .ref trt) (C := RX3) (T := TX3) (N := 4) hx hb hg inGX3 hown hK hP 4 rfl rfl 1 (by decide) (hg _ q_1_45) (fun _ h9 => h9) htrk_1 dX3_copyFrom_19 ?_
  refine lv_iconst (v := 0) hx hb dX3_copyFrom_22 (by decide) ?_
  refine lv_aload_n hx hb dX3_copyFrom_23 rfl (lv_at hl 0 rfl) ?_
  refine va_get (D := D) (ci := 3) (v := .ref gt) (C := RX3) (T := TX3) (N := 4) hx hb hg inGX3 hown hK hP 0 rfl rfl 1 (by decide) (hg _ q_1_45) (fun _ h9 => h9) hgk_1 dX3_copyFrom_24 ?_
  refine lv_iconst (v := 0) hx hb dX3_copyFrom_27 (by decide) ?_
  refine lv_aload_n hx hb dX3_copyFrom_28 rfl (lv_at hl 1 rfl) ?_
  refine va_get (D := D) (ci := 3) (v := .int 0) (C := RX3) (T := TX3) (N := 4) hx hb hg inGX3 hown hK hP 4 rfl rfl 2 (by decide) (hg _ q_1_46) (fun _ h9 => h9) htrk_2 dX3_copyFrom_29 ?_
  refine va_copyi hx hb (hml.trans hl.1.symm) hown (hg _ q_3_98) (hg _ q_3_93) (hg _ q_3_92) (hg _ q_1_17) hK hP hD hS 6 2 1 1 rfl rfl rfl rfl (ty := .int) rfl (sp := 0) (dp := 0) (n := 0) (by decide) (by decide) (by decide) (by decide) (by decide) (fun _ _ => rfl) (Nat.le_of_ble_eq_true rfl) (Nat.le_of_ble_eq_true rfl) dX3_copyFrom_32 (fun H_2 locs_2 hP_2 hD_2 hS_2 => ?_)
  clear hP hD hS
  have hP : va_P D vwCl [px_o gk 3 fgk, px_i gs (y 1) 78 (va_cpy ftrs fgs 0 0 78), px_i gt (y 1) 52 (va_cpy ftrt fgt 0 0 0), px_i gq (y 1) 6 fgq, px_o trk 3 ftrk, px_i trs (y 1) 78 ftrs, px_i trt (y 1) 52 ftrt, px_i trq (y 1) 6 ftrq] H_2 := hP_2
  have hD : va_D A [px_o gk 3 fgk, px_i gs (y 1) 78 (va_cpy ftrs fgs 0 0 78), px_i gt (y 1) 52 (va_cpy ftrt fgt 0 0 0), px_i gq (y 1) 6 fgq, px_o trk 3 ftrk, px_i trs (y 1) 78 ftrs, px_i trt (y 1) 52 ftrt, px_i trq (y 1) 6 ftrq] := hD_2
  have hS := hS_2
  clear hP_2 hD_2 hS_2
  refine lv_aload_n hx hb dX3_copyFrom_35 rfl (lv_at hl 1 rfl) ?_
  refine va_get (D := D) (ci := 3) (v := .ref trq) (C := RX3) (T := TX3) (N := 4) hx hb hg inGX3 hown hK hP 4 rfl rfl 3 (by decide) (hg _ q_1_47) (fun _ h9 => h9) htrk_3 dX3_copyFrom_36 ?_
  refine lv_iconst (v := 0) hx hb dX3_copyFrom_39 (by decide) ?_
  refine lv_aload_n hx hb dX3_copyFrom_40 rfl (lv_at hl 0 rfl) ?_
  refine va_get (D := D) (ci := 3) (v := .ref gq) (C := RX3) (T := TX3) (N := 4) hx hb hg inGX3 hown hK hP 0 rfl rfl 3 (by decide) (hg _ q_1_47) (fun _ h9 => h9) hgk_3 dX3_copyFrom_41 ?_
  refine lv_iconst (v := 0) hx hb dX3_copyFrom_44 (by decide) ?_
  refine lv_aload_n hx hb dX3_copyFrom_45 rfl (lv_at hl 0 rfl) ?_
  refine va_get (D := D) (ci := 3) (v := .ref gq) (C := RX3) (T := TX3) (N := 4) hx hb hg inGX3 hown hK hP 0 rfl rfl 3 (by decide) (hg _ q_1_47) (fun _ h9 => h9) hgk_3 dX3_copyFrom_46 ?_
  refine va_alen (v := 6) hx hb hK hP 3 1 rfl rfl rfl dX3_copyFrom_49 ?_
  refine va_copyi hx hb (hml.trans hl.1.symm) hown (hg _ q_3_98) (hg _ q_3_93) (hg _ q_3_92) (hg _ q_1_17) hK hP hD hS 7 3 1 1 rfl rfl rfl rfl (ty := .int) rfl (sp := 0) (dp := 0) (n := 6) (by decide) (by decide) (by decide) (by decide) (by decide) (fun _ _ => rfl) (Nat.le_of_ble_eq_true rfl) (Nat.le_of_ble_eq_true rfl) dX3_copyFrom_50 (fun H_3 locs_3 hP_3 hD_3 hS_3 => ?_)
  clear hP hD hS
  have hP : va_P D vwCl [px_o gk 3 fgk, px_i gs (y 1) 78 (va_cpy ftrs fgs 0 0 78), px_i gt (y 1) 52 (va_cpy ftrt fgt 0 0 0), px_i gq (y 1) 6 (va_cpy ftrq fgq 0 0 6), px_o trk 3 ftrk, px_i trs (y 1) 78 ftrs, px_i trt (y 1) 52 ftrt, px_i trq (y 1) 6 ftrq] H_3 := hP_3
  have hD : va_D A [px_o gk 3 fgk, px_i gs (y 1) 78 (va_cpy ftrs fgs 0 0 78), px_i gt (y 1) 52 (va_cpy ftrt fgt 0 0 0), px_i gq (y 1) 6 (va_cpy ftrq fgq 0 0 6), px_o trk 3 ftrk, px_i trs (y 1) 78 ftrs, px_i trt (y 1) 52 ftrt, px_i trq (y 1) 6 ftrq] := hD_3
  have hS := hS_3
  clear hP_3 hD_3 hS_3
  refine lv_aload_n hx hb dX3_copyFrom_53 rfl (lv_at hl 0 rfl) ?_
  refine lv_aload_n hx hb dX3_copyFrom_54 rfl (lv_at hl 1 rfl) ?_
  refine va_get (D := D) (ci := 3) (v := .int 0) (C := RX3) (T := TX3) (N := 4) hx hb hg inGX3 hown hK hP 4 rfl rfl 2 (by decide) (hg _ q_1_46) (fun _ h9 => h9) htrk_2 dX3_copyFrom_55 ?_
  refine va_put (D := D) (ci := 3) (v := .int 0) (ty := .int) (C := RX3) (T := TX3) (N := 4) hx hb hg inGX3 tyX3 tyX3_ok nmX3 hown hK hP hD hS 0 rfl rfl 2 (by decide) (hg _ q_1_46) (fun _ h9 => h9) rfl (by decide +kernel) rfl rfl (px_len hgk_2) dX3_copyFrom_58 (fun H_4 locs_4 hP_4 hD_4 hS_4 => ?_)
  clear hP hD hS
  have hP : va_P D vwCl [px_o gk 3 (fgk.set 2 (.int 0)), px_i gs (y 1) 78 (va_cpy ftrs fgs 0 0 78), px_i gt (y 1) 52 (va_cpy ftrt fgt 0 0 0), px_i gq (y 1) 6 (va_cpy ftrq fgq 0 0 6), px_o trk 3 ftrk, px_i trs (y 1) 78 ftrs, px_i trt (y 1) 52 ftrt, px_i trq (y 1) 6 ftrq] H_4 := hP_4
  have hD : va_D A [px_o gk 3 (fgk.set 2 (.int 0)), px_i gs (y 1) 78 (va_cpy ftrs fgs 0 0 78), px_i gt (y 1) 52 (va_cpy ftrt fgt 0 0 0), px_i gq (y 1) 6 (va_cpy ftrq fgq 0 0 6), px_o trk 3 ftrk, px_i trs (y 1) 78 ftrs, px_i trt (y 1) 52 ftrt, px_i trq (y 1) 6 ftrq] := hD_4
  have hS := hS_4
  clear hP_4 hD_4 hS_4
  have hP9 := hP.sub (ws' := [px_o gk 3 (fgk.set 2 (.int 0)), px_i gs (y 1) 78 (va_cpy ftrs fgs 0 0 78), px_i gt (y 1) 52 (va_cpy ftrt fgt 0 0 0), px_i gq (y 1) 6 (va_cpy ftrq fgq 0 0 6), px_o trk 3 ftrk, px_i trs (y 1) 78 ftrs, px_i trt (y 1) 52 ftrt, px_i trq (y 1) 6 ftrq]) [0, 1, 2, 3, 4, 5, 6, 7] rfl
  have hD9 := hD.sub (ws' := [px_o gk 3 (fgk.set 2 (.int 0)), px_i gs (y 1) 78 (va_cpy ftrs fgs 0 0 78), px_i gt (y 1) 52 (va_cpy ftrt fgt 0 0 0), px_i gq (y 1) 6 (va_cpy ftrq fgq 0 0 6), px_o trk 3 ftrk, px_i trs (y 1) 78 ftrs, px_i trt (y 1) 52 ftrt, px_i trq (y 1) 6 ftrq]) [0, 1, 2, 3, 4, 5, 6, 7] (by decide +kernel) rfl
  exact W.vret hx hb hr (fun t ht hW => ⟨⟨(px_v [], px_vi [(va_cpy ftrs fgs 0 0 78), (va_cpy ftrt fgt 0 0 0), (va_cpy ftrq fgq 0 0 6)], px_vl []), rfl, trivial, by rw [ht]; exact hP9, hD9⟩, hS.F ht⟩) hS.2.2 dX3_copyFrom_61

set_option maxHeartbeats 4000000 in
set_option maxRecDepth 100000 in
theorem c_X2_copyFrom (l : Launch) (D : va_G) (y : Nat → ClassId) (sz : Nat) (g : Nat) (tr : Nat) (fg : List Value) (gn : Nat) (gh : Nat) (gc : Nat) (gp : Nat) (go : Nat) (ga : Nat) (gv : Nat) (gl : Nat) (gk : Nat) (fgn : Nat → Int64) (fgh : Nat → Int32) (fgc : Nat → Int32) (fgp : Nat → Int32) (fgo : Nat → Int32) (fga : Nat → Int32) (fgv : Nat → Int32) (fgl : Nat → Int32) (fgk : List Value) (gs : Nat) (gt : Nat) (gq : Nat) (fgs : Nat → Int32) (fgt : Nat → Int32) (fgq : Nat → Int32) (ftr : List Value) (trn : Nat) (trh : Nat) (trc : Nat) (trp : Nat) (tro : Nat) (tra : Nat) (trv : Nat) (trl : Nat) (trk : Nat) (ftrn : Nat → Int64) (ftrh : Nat → Int32) (ftrc : Nat → Int32) (ftrp : Nat → Int32) (ftro : Nat → Int32) (ftra : Nat → Int32) (ftrv : Nat → Int32) (ftrl : Nat → Int32) (ftrk : List Value) (trs : Nat) (trt : Nat) (trq : Nat) (ftrs : Nat → Int32) (ftrt : Nat → Int32) (ftrq : Nat → Int32) (hg_0 : px_g fg 0 (.int 0)) (hg_1 : px_g fg 1 (.int 0)) (hg_2 : px_g fg 2 (.int 0)) (hg_3 : px_g fg 3 (.int 0)) (hg_4 : px_g fg 4 (.ref gn)) (hg_5 : px_g fg 5 (.ref gh)) (hg_6 : px_g fg 6 (.ref gc)) (hg_7 : px_g fg 7 (.ref gp)) (hg_8 : px_g fg 8 (.int 0)) (hg_9 : px_g fg 9 (.int 0)) (hg_10 : px_g fg 10 (.ref go)) (hg_11 : px_g fg 11 (.ref ga)) (hg_12 : px_g fg 12 (.ref gv)) (hg_13 : px_g fg 13 (.ref gl)) (hg_14 : px_g fg 14 (.int (-1))) (hg_15 : px_g fg 15 (.int 0)) (hg_16 : px_g fg 16 (.int 0)) (hg_17 : px_g fg 17 (.ref gk)) (hgk_0 : px_g fgk 0 (.ref gs)) (hgk_1 : px_g fgk 1 (.ref gt)) (hgk_2 : px_g fgk 2 (.int 0)) (hgk_3 : px_g fgk 3 (.ref gq)) (htr_0 : px_g ftr 0 (.int 0)) (htr_1 : px_g ftr 1 (.int 0)) (htr_2 : px_g ftr 2 (.int 0)) (htr_3 : px_g ftr 3 (.int 0)) (htr_4 : px_g ftr 4 (.ref trn)) (htr_5 : px_g ftr 5 (.ref trh)) (htr_6 : px_g ftr 6 (.ref trc)) (htr_7 : px_g ftr 7 (.ref trp)) (htr_8 : px_g ftr 8 (.int 0)) (htr_9 : px_g ftr 9 (.int 0)) (htr_10 : px_g ftr 10 (.ref tro)) (htr_11 : px_g ftr 11 (.ref tra)) (htr_12 : px_g ftr 12 (.ref trv)) (htr_13 : px_g ftr 13 (.ref trl)) (htr_14 : px_g ftr 14 (.int (-1))) (htr_15 : px_g ftr 15 (.int 0)) (htr_16 : px_g ftr 16 (.int 0)) (htr_17 : px_g ftr 17 (.ref trk)) (htrk_0 : px_g ftrk 0 (.ref trs)) (htrk_1 : px_g ftrk 1 (.ref trt)) (htrk_2 : px_g ftrk 2 (.int 0)) (htrk_3 : px_g ftrk 3 (.ref trq)) : Met l yX2_copyFrom (px_w yX2_copyFrom cX2_copyFrom 2 none) ({ frames := 2, cells := 0, slots := 0, locals := 61 }) (va_Pc [.ref g, .ref tr] (px_P D y sz [px_o g 2 fg, px_l gn (y 2) 6 fgn, px_i gh (y 1) 78 fgh, px_i gc (y 1) 6 fgc, px_i gp (y 1) 52 fgp, px_i go (y 1) 13 fgo, px_i ga (y 1) 6 fga, px_i gv (y 1) 6 fgv, px_i gl (y 1) 6 fgl, px_o gk 3 fgk, px_i gs (y 1) 78 fgs, px_i gt (y 1) 52 fgt, px_i gq (y 1) 6 fgq, px_o tr 2 ftr, px_l trn (y 2) 6 ftrn, px_i trh (y 1) 78 ftrh, px_i trc (y 1) 6 ftrc, px_i trp (y 1) 52 ftrp, px_i tro (y 1) 13 ftro, px_i tra (y 1) 6 ftra, px_i trv (y 1) 6 ftrv, px_i trl (y 1) 6 ftrl, px_o trk 3 ftrk, px_i trs (y 1) 78 ftrs, px_i trt (y 1) 52 ftrt, px_i trq (y 1) 6 ftrq])) (va_Qv (fun (u : px_U) => True) (fun (u : px_U) t => va_P D vwCl [px_o g 2 (((((((((fg.set 0 (.int 0)).set 1 (.int 0)).set 2 (.int 0)).set 3 (.int 0)).set 8 (.int 0)).set 9 (.int 0)).set 14 (.int (-1))).set 15 (.int 0)).set 16 (.int 0)), px_l gn (y 2) 6 (u.2.2 0), px_i gh (y 1) 78 (u.2.1 0), px_i gc (y 1) 6 (u.2.1 1), px_i gp (y 1) 52 (u.2.1 2), px_i go (y 1) 13 (u.2.1 3), px_i ga (y 1) 6 (u.2.1 4), px_i gv (y 1) 6 (u.2.1 5), px_i gl (y 1) 6 (u.2.1 6), px_o gk 3 (fgk.set 2 (.int 0)), px_i gs (y 1) 78 (u.2.1 7), px_i gt (y 1) 52 (u.2.1 8), px_i gq (y 1) 6 (u.2.1 9), px_o tr 2 ftr, px_l trn (y 2) 6 ftrn, px_i trh (y 1) 78 ftrh, px_i trc (y 1) 6 ftrc, px_i trp (y 1) 52 ftrp, px_i tro (y 1) 13 ftro, px_i tra (y 1) 6 ftra, px_i trv (y 1) 6 ftrv, px_i trl (y 1) 6 ftrl, px_o trk 3 ftrk, px_i trs (y 1) 78 ftrs, px_i trt (y 1) 52 ftrt, px_i trq (y 1) 6 ftrq] t.heap ∧ va_D (va_A [px_o g 2 fg, px_l gn (y 2) 6 fgn, px_i gh (y 1) 78 fgh, px_i gc (y 1) 6 fgc, px_i gp (y 1) 52 fgp, px_i go (y 1) 13 fgo, px_i ga (y 1) 6 fga, px_i gv (y 1) 6 fgv, px_i gl (y 1) 6 fgl, px_o gk 3 fgk, px_i gs (y 1) 78 fgs, px_i gt (y 1) 52 fgt, px_i gq (y 1) 6 fgq, px_o tr 2 ftr, px_l trn (y 2) 6 ftrn, px_i trh (y 1) 78 ftrh, px_i trc (y 1) 6 ftrc, px_i trp (y 1) 52 ftrp, px_i tro (y 1) 13 ftro, px_i tra (y 1) 6 ftra, px_i trv (y 1) 6 ftrv, px_i trl (y 1) 6 ftrl, px_o trk 3 ftrk, px_i trs (y 1) 78 ftrs, px_i trt (y 1) 52 ftrt, px_i trq (y 1) 6 ftrq] sz) [px_o g 2 (((((((((fg.set 0 (.int 0)).set 1 (.int 0)).set 2 (.int 0)).set 3 (.int 0)).set 8 (.int 0)).set 9 (.int 0)).set 14 (.int (-1))).set 15 (.int 0)).set 16 (.int 0)), px_l gn (y 2) 6 (u.2.2 0), px_i gh (y 1) 78 (u.2.1 0), px_i gc (y 1) 6 (u.2.1 1), px_i gp (y 1) 52 (u.2.1 2), px_i go (y 1) 13 (u.2.1 3), px_i ga (y 1) 6 (u.2.1 4), px_i gv (y 1) 6 (u.2.1 5), px_i gl (y 1) 6 (u.2.1 6), px_o gk 3 (fgk.set 2 (.int 0)), px_i gs (y 1) 78 (u.2.1 7), px_i gt (y 1) 52 (u.2.1 8), px_i gq (y 1) 6 (u.2.1 9), px_o tr 2 ftr, px_l trn (y 2) 6 ftrn, px_i trh (y 1) 78 ftrh, px_i trc (y 1) 6 ftrc, px_i trp (y 1) 52 ftrp, px_i tro (y 1) 13 ftro, px_i tra (y 1) 6 ftra, px_i trv (y 1) 6 ftrv, px_i trl (y 1) 6 ftrl, px_o trk 3 ftrk, px_i trs (y 1) 78 ftrs, px_i trt (y 1) 52 ftrt, px_i trq (y 1) 6 ftrq]) (va_A [px_o g 2 fg, px_l gn (y 2) 6 fgn, px_i gh (y 1) 78 fgh, px_i gc (y 1) 6 fgc, px_i gp (y 1) 52 fgp, px_i go (y 1) 13 fgo, px_i ga (y 1) 6 fga, px_i gv (y 1) 6 fgv, px_i gl (y 1) 6 fgl, px_o gk 3 fgk, px_i gs (y 1) 78 fgs, px_i gt (y 1) 52 fgt, px_i gq (y 1) 6 fgq, px_o tr 2 ftr, px_l trn (y 2) 6 ftrn, px_i trh (y 1) 78 ftrh, px_i trc (y 1) 6 ftrc, px_i trp (y 1) 52 ftrp, px_i tro (y 1) 13 ftro, px_i tra (y 1) 6 ftra, px_i trv (y 1) 6 ftrv, px_i trl (y 1) 6 ftrl, px_o trk 3 ftrk, px_i trs (y 1) 78 ftrs, px_i trt (y 1) 52 ftrt, px_i trq (y 1) 6 ftrq] sz)) 0 0 (va_A [px_o g 2 fg, px_l gn (y 2) 6 fgn, px_i gh (y 1) 78 fgh, px_i gc (y 1) 6 fgc, px_i gp (y 1) 52 fgp, px_i go (y 1) 13 fgo, px_i ga (y 1) 6 fga, px_i gv (y 1) 6 fgv, px_i gl (y 1) 6 fgl, px_o gk 3 fgk, px_i gs (y 1) 78 fgs, px_i gt (y 1) 52 fgt, px_i gq (y 1) 6 fgq, px_o tr 2 ftr, px_l trn (y 2) 6 ftrn, px_i trh (y 1) 78 ftrh, px_i trc (y 1) 6 ftrc, px_i trp (y 1) 52 ftrp, px_i tro (y 1) 13 ftro, px_i tra (y 1) 6 ftra, px_i trv (y 1) 6 ftrv, px_i trl (y 1) 6 ftrl, px_o trk 3 ftrk, px_i trs (y 1) 78 ftrs, px_i trt (y 1) 52 ftrt, px_i trq (y 1) 6 ftrq] sz) := by
  refine Met.ofW (cc := cX2_copyFrom) (maxL := 2) (ret := none) (by decide) rfl ?_
  intro p e s m args below meth c s₁ B hml hv
  obtain ⟨rfl, hsz, hP, hK, hD0⟩ := hv
  have hx := B.exec
  have hb := B.bytes
  have hr := B.returns
  have hts := atoms_spec (ws := px_w yX2_copyFrom cX2_copyFrom 2 none) B.pre
  have hg : ∀ w ∈ gw, w.before [.ref g, .ref tr].toArray s = true := fun w h => hts w (List.mem_cons_of_mem _ h)
  have hown : s.vm.findClass RX2 = some m.cls := findClass_of_methodNamed B.named
  have hlocks := B.notSynchronized
  subst hsz
  have hD := hD0.self (sz := s.heap.size)
  generalize hAe : va_A [px_o g 2 fg, px_l gn (y 2) 6 fgn, px_i gh (y 1) 78 fgh, px_i gc (y 1) 6 fgc, px_i gp (y 1) 52 fgp, px_i go (y 1) 13 fgo, px_i ga (y 1) 6 fga, px_i gv (y 1) 6 fgv, px_i gl (y 1) 6 fgl, px_o gk 3 fgk, px_i gs (y 1) 78 fgs, px_i gt (y 1) 52 fgt, px_i gq (y 1) 6 fgq, px_o tr 2 ftr, px_l trn (y 2) 6 ftrn, px_i trh (y 1) 78 ftrh, px_i trc (y 1) 6 ftrc, px_i trp (y 1) 52 ftrp, px_i tro (y 1) 13 ftro, px_i tra (y 1) 6 ftra, px_i trv (y 1) 6 ftrv, px_i trl (y 1) 6 ftrl, px_o trk 3 ftrk, px_i trs (y 1) 78 ftrs, px_i trt (y 1) 52 ftrt, px_i trq (y 1) 6 ftrq] s.heap.size = A at hD ⊢
  have hA : ∀ q : Nat, s.heap.size ≤ q → A q := fun q h => by rw [← hAe]; exact Or.inr h
  have hS : va_S A s.heap s.heap [] := va_S.rf
  have hP : va_P D vwCl [px_o g 2 fg, px_l gn (y 2) 6 fgn, px_i gh (y 1) 78 fgh, px_i gc (y 1) 6 fgc, px_i gp (y 1) 52 fgp, px_i go (y 1) 13 fgo, px_i ga (y 1) 6 fga, px_i gv (y 1) 6 fgv, px_i gl (y 1) 6 fgl, px_o gk 3 fgk, px_i gs (y 1) 78 fgs, px_i gt (y 1) 52 fgt, px_i gq (y 1) 6 fgq, px_o tr 2 ftr, px_l trn (y 2) 6 ftrn, px_i trh (y 1) 78 ftrh, px_i trc (y 1) 6 ftrc, px_i trp (y 1) 52 ftrp, px_i tro (y 1) 13 ftro, px_i tra (y 1) 6 ftra, px_i trv (y 1) 6 ftrv, px_i trl (y 1) 6 ftrl, px_o trk 3 ftrk, px_i trs (y 1) 78 ftrs, px_i trt (y 1) 52 ftrt, px_i trq (y 1) 6 ftrq] s.heap := hP
  have hl := lv_entry ([.ref g, .ref tr]) (n := 2) (Nat.le_of_ble_eq_true rfl)
  rw [lg_entry_eq]
  generalize (lg_sl ([.ref g, .ref tr]) ++ List.replicate (2 - (lg_sl ([.ref g, .ref tr])).length) Slot.unset).toArray = ls at hl ⊢
  have hl : lv_has ls 2 [(0, .ref g), (1, .ref tr)] := hl
  refine lv_aload_n hx hb dX2_copyFrom_0 rfl (lv_at hl 0 rfl) ?_
  refine lv_aload_n hx hb dX2_copyFrom_1 rfl (lv_at hl 1 rfl) ?_
  refine va_get (D := D) (ci := 2) (v := .int 0) (C := RX2) (T := TX2) (N := 18) hx hb hg inGX2 hown hK hP 13 rfl rfl 0 (by decide) (hg _ q_1_64) (fun _ h9 => h9) htr_0 dX2_copyFrom_2 ?_
  refine va_put (D := D) (ci := 2) (v := .int 0) (ty := .int) (C := RX2) (T := TX2) (N := 18) hx hb hg inGX2 tyX2 tyX2_ok nmX2 hown hK hP hD hS 0 rfl rfl 0 (by decide) (hg _ q_1_64) (fun _ h9 => h9) rfl (by decide +kernel) rfl rfl (px_len hg_0) dX2_copyFrom_5 (fun H_1 locs_1 hP_1 hD_1 hS_1 => ?_)
  clear hP hD hS
  have hP : va_P D vwCl [px_o g 2 (fg.set 0 (.int 0)), px_l gn (y 2) 6 fgn, px_i gh (y 1) 78 fgh, px_i gc (y 1) 6 fgc, px_i gp (y 1) 52 fgp, px_i go (y 1) 13 fgo, px_i ga (y 1) 6 fga, px_i gv (y 1) 6 fgv, px_i gl (y 1) 6 fgl, px_o gk 3 fgk, px_i gs (y 1) 78 fgs, px_i gt (y 1) 52 fgt, px_i gq (y 1) 6 fgq, px_o tr 2 ftr, px_l trn (y 2) 6 ftrn, px_i trh (y 1) 78 ftrh, px_i trc (y 1) 6 ftrc, px_i trp (y 1) 52 ftrp, px_i tro (y 1) 13 ftro, px_i tra (y 1) 6 ftra, px_i trv (y 1) 6 ftrv, px_i trl (y 1) 6 ftrl, px_o trk 3 ftrk, px_i trs (y 1) 78 ftrs, px_i trt (y 1) 52 ftrt, px_i trq (y 1) 6 ftrq] H_1 := hP_1
  have hD : va_D A [px_o g 2 (fg.set 0 (.int 0)), px_l gn (y 2) 6 fgn, px_i gh (y 1) 78 fgh, px_i gc (y 1) 6 fgc, px_i gp (y 1) 52 fgp, px_i go (y 1) 13 fgo, px_i ga (y 1) 6 fga, px_i gv (y 1) 6 fgv, px_i gl (y 1) 6 fgl, px_o gk 3 fgk, px_i gs (y 1) 78 fgs, px_i gt (y 1) 52 fgt, px_i gq (y 1) 6 fgq, px_o tr 2 ftr, px_l trn (y 2) 6 ftrn, px_i trh (y 1) 78 ftrh, px_i trc (y 1) 6 ftrc, px_i trp (y 1) 52 ftrp, px_i tro (y 1) 13 ftro, px_i tra (y 1) 6 ftra, px_i trv (y 1) 6 ftrv, px_i trl (y 1) 6 ftrl, px_o trk 3 ftrk, px_i trs (y 1) 78 ftrs, px_i trt (y 1) 52 ftrt, px_i trq (y 1) 6 ftrq] := hD_1
  have hS := hS_1
  clear hP_1 hD_1 hS_1
  refine lv_aload_n hx hb dX2_copyFrom_8 rfl (lv_at hl 0 rfl) ?_
  refine lv_aload_n hx hb dX2_copyFrom_9 rfl (lv_at hl 1 rfl) ?_
  refine va_get (D := D) (ci := 2) (v := .int 0) (C := RX2) (T := TX2) (N := 18) hx hb hg inGX2 hown hK hP 13 rfl rfl 1 (by decide) (hg _ q_1_70) (fun _ h9 => h9) htr_1 dX2_copyFrom_10 ?_
  refine va_put (D := D) (ci := 2) (v := .int 0) (ty := .int) (C := RX2) (T := TX2) (N := 18) hx hb hg inGX2 tyX2 tyX2_ok nmX2 hown hK hP hD hS 0 rfl rfl 1 (by decide) (hg _ q_1_70) (fun _ h9 => h9) rfl (by decide +kernel) rfl rfl (px_len (px_sn (by decide) hg_1)) dX2_copyFrom_13 (fun H_2 locs_2 hP_2 hD_2 hS_2 => ?_)
  clear hP hD hS
  have hP : va_P D vwCl [px_o g 2 ((fg.set 0 (.int 0)).set 1 (.int 0)), px_l gn (y 2) 6 fgn, px_i gh (y 1) 78 fgh, px_i gc (y 1) 6 fgc, px_i gp (y 1) 52 fgp, px_i go (y 1) 13 fgo, px_i ga (y 1) 6 fga, px_i gv (y 1) 6 fgv, px_i gl (y 1) 6 fgl, px_o gk 3 fgk, px_i gs (y 1) 78 fgs, px_i gt (y 1) 52 fgt, px_i gq (y 1) 6 fgq, px_o tr 2 ftr, px_l trn (y 2) 6 ftrn, px_i trh (y 1) 78 ftrh, px_i trc (y 1) 6 ftrc, px_i trp (y 1) 52 ftrp, px_i tro (y 1) 13 ftro, px_i tra (y 1) 6 ftra, px_i trv (y 1) 6 ftrv, px_i trl (y 1) 6 ftrl, px_o trk 3 ftrk, px_i trs (y 1) 78 ftrs, px_i trt (y 1) 52 ftrt, px_i trq (y 1) 6 ftrq] H_2 := hP_2
  have hD : va_D A [px_o g 2 ((fg.set 0 (.int 0)).set 1 (.int 0)), px_l gn (y 2) 6 fgn, px_i gh (y 1) 78 fgh, px_i gc (y 1) 6 fgc, px_i gp (y 1) 52 fgp, px_i go (y 1) 13 fgo, px_i ga (y 1) 6 fga, px_i gv (y 1) 6 fgv, px_i gl (y 1) 6 fgl, px_o gk 3 fgk, px_i gs (y 1) 78 fgs, px_i gt (y 1) 52 fgt, px_i gq (y 1) 6 fgq, px_o tr 2 ftr, px_l trn (y 2) 6 ftrn, px_i trh (y 1) 78 ftrh, px_i trc (y 1) 6 ftrc, px_i trp (y 1) 52 ftrp, px_i tro (y 1) 13 ftro, px_i tra (y 1) 6 ftra, px_i trv (y 1) 6 ftrv, px_i trl (y 1) 6 ftrl, px_o trk 3 ftrk, px_i trs (y 1) 78 ftrs, px_i trt (y 1) 52 ftrt, px_i trq (y 1) 6 ftrq] := hD_2
  have hS := hS_2
  clear hP_2 hD_2 hS_2
  refine lv_aload_n hx hb dX2_copyFrom_16 rfl (lv_at hl 0 rfl) ?_
  refine lv_aload_n hx hb dX2_copyFrom_17 rfl (lv_at hl 1 rfl) ?_
  refine va_get (D := D) (ci := 2) (v := .int 0) (C := RX2) (T := TX2) (N := 18) hx hb hg inGX2 hown hK hP 13 rfl rfl 2 (by decide) (hg _ q_1_74) (fun _ h9 => h9) htr_2 dX2_copyFrom_18 ?_
  refine va_put (D := D) (ci := 2) (v := .int 0) (ty := .boolean) (C := RX2) (T := TX2) (N := 18) hx hb hg inGX2 tyX2 tyX2_ok nmX2 hown hK hP hD hS 0 rfl rfl 2 (by decide) (hg _ q_1_74) (fun _ h9 => h9) rfl (by decide +kernel) (by decide) rfl (px_len (px_sn (by decide) (px_sn (by decide) hg_2))) dX2_copyFrom_21 (fun H_3 locs_3 hP_3 hD_3 hS_3 => ?_)
  clear hP hD hS
  have hP : va_P D vwCl [px_o g 2 (((fg.set 0 (.int 0)).set 1 (.int 0)).set 2 (.int 0)), px_l gn (y 2) 6 fgn, px_i gh (y 1) 78 fgh, px_i gc (y 1) 6 fgc, px_i gp (y 1) 52 fgp, px_i go (y 1) 13 fgo, px_i ga (y 1) 6 fga, px_i gv (y 1) 6 fgv, px_i gl (y 1) 6 fgl, px_o gk 3 fgk, px_i gs (y 1) 78 fgs, px_i gt (y 1) 52 fgt, px_i gq (y 1) 6 fgq, px_o tr 2 ftr, px_l trn (y 2) 6 ftrn, px_i trh (y 1) 78 ftrh, px_i trc (y 1) 6 ftrc, px_i trp (y 1) 52 ftrp, px_i tro (y 1) 13 ftro, px_i tra (y 1) 6 ftra, px_i trv (y 1) 6 ftrv, px_i trl (y 1) 6 ftrl, px_o trk 3 ftrk, px_i trs (y 1) 78 ftrs, px_i trt (y 1) 52 ftrt, px_i trq (y 1) 6 ftrq] H_3 := hP_3
  have hD : va_D A [px_o g 2 (((fg.set 0 (.int 0)).set 1 (.int 0)).set 2 (.int 0)), px_l gn (y 2) 6 fgn, px_i gh (y 1) 78 fgh, px_i gc (y 1) 6 fgc, px_i gp (y 1) 52 fgp, px_i go (y 1) 13 fgo, px_i ga (y 1) 6 fga, px_i gv (y 1) 6 fgv, px_i gl (y 1) 6 fgl, px_o gk 3 fgk, px_i gs (y 1) 78 fgs, px_i gt (y 1) 52 fgt, px_i gq (y 1) 6 fgq, px_o tr 2 ftr, px_l trn (y 2) 6 ftrn, px_i trh (y 1) 78 ftrh, px_i trc (y 1) 6 ftrc, px_i trp (y 1) 52 ftrp, px_i tro (y 1) 13 ftro, px_i tra (y 1) 6 ftra, px_i trv (y 1) 6 ftrv, px_i trl (y 1) 6 ftrl, px_o trk 3 ftrk, px_i trs (y 1) 78 ftrs, px_i trt (y 1) 52 ftrt, px_i trq (y 1) 6 ftrq] := hD_3
  have hS := hS_3
  clear hP_3 hD_3 hS_3
  refine lv_aload_n hx hb dX2_copyFrom_24 rfl (lv_at hl 0 rfl) ?_
  refine lv_aload_n hx hb dX2_copyFrom_25 rfl (lv_at hl 1 rfl) ?_
  refine va_get (D := D) (ci := 2) (v := .int 0) (C := RX2) (T := TX2) (N := 18) hx hb hg inGX2 hown hK hP 13 rfl rfl 3 (by decide) (hg _ q_1_78) (fun _ h9 => h9) htr_3 dX2_copyFrom_26 ?_
  refine va_put (D := D) (ci := 2) (v := .int 0) (ty := .int) (C := RX2) (T := TX2) (N := 18) hx hb hg inGX2 tyX2 tyX2_ok nmX2 hown hK hP hD hS 0 rfl rfl 3 (by decide) (hg _ q_1_78) (fun _ h9 => h9) rfl (by decide +kernel) rfl rfl (px_len (px_sn (by decide) (px_sn (by decide) (px_sn (by decide) hg_3)))) dX2_copyFrom_29 (fun H_4 locs_4 hP_4 hD_4 hS_4 => ?_)
  clear hP hD hS
  have hP : va_P D vwCl [px_o g 2 ((((fg.set 0 (.int 0)).set 1 (.int 0)).set 2 (.int 0)).set 3 (.int 0)), px_l gn (y 2) 6 fgn, px_i gh (y 1) 78 fgh, px_i gc (y 1) 6 fgc, px_i gp (y 1) 52 fgp, px_i go (y 1) 13 fgo, px_i ga (y 1) 6 fga, px_i gv (y 1) 6 fgv, px_i gl (y 1) 6 fgl, px_o gk 3 fgk, px_i gs (y 1) 78 fgs, px_i gt (y 1) 52 fgt, px_i gq (y 1) 6 fgq, px_o tr 2 ftr, px_l trn (y 2) 6 ftrn, px_i trh (y 1) 78 ftrh, px_i trc (y 1) 6 ftrc, px_i trp (y 1) 52 ftrp, px_i tro (y 1) 13 ftro, px_i tra (y 1) 6 ftra, px_i trv (y 1) 6 ftrv, px_i trl (y 1) 6 ftrl, px_o trk 3 ftrk, px_i trs (y 1) 78 ftrs, px_i trt (y 1) 52 ftrt, px_i trq (y 1) 6 ftrq] H_4 := hP_4
  have hD : va_D A [px_o g 2 ((((fg.set 0 (.int 0)).set 1 (.int 0)).set 2 (.int 0)).set 3 (.int 0)), px_l gn (y 2) 6 fgn, px_i gh (y 1) 78 fgh, px_i gc (y 1) 6 fgc, px_i gp (y 1) 52 fgp, px_i go (y 1) 13 fgo, px_i ga (y 1) 6 fga, px_i gv (y 1) 6 fgv, px_i gl (y 1) 6 fgl, px_o gk 3 fgk, px_i gs (y 1) 78 fgs, px_i gt (y 1) 52 fgt, px_i gq (y 1) 6 fgq, px_o tr 2 ftr, px_l trn (y 2) 6 ftrn, px_i trh (y 1) 78 ftrh, px_i trc (y 1) 6 ftrc, px_i trp (y 1) 52 ftrp, px_i tro (y 1) 13 ftro, px_i tra (y 1) 6 ftra, px_i trv (y 1) 6 ftrv, px_i trl (y 1) 6 ftrl, px_o trk 3 ftrk, px_i trs (y 1) 78 ftrs, px_i trt (y 1) 52 ftrt, px_i trq (y 1) 6 ftrq] := hD_4
  have hS := hS_4
  clear hP_4 hD_4 hS_4
  refine lv_aload_n hx hb dX2_copyFrom_32 rfl (lv_at hl 1 rfl) ?_
  refine va_get (D := D) (ci := 2) (v := .ref trn) (C := RX2) (T := TX2) (N := 18) hx hb hg inGX2 hown hK hP 13 rfl rfl 4 (by decide) (hg _ q_1_82) (fun _ h9 => h9) htr_4 dX2_copyFrom_33 ?_
  refine lv_iconst (v := 0) hx hb dX2_copyFrom_36 (by decide) ?_
  refine lv_aload_n hx hb dX2_copyFrom_37 rfl (lv_at hl 0 rfl) ?_
  refine va_get (D := D) (ci := 2) (v := .ref gn) (C := RX2) (T := TX2) (N := 18) hx hb hg inGX2 hown hK hP 0 rfl rfl 4 (by decide) (hg _ q_1_82) (fun _ h9 => h9) (px_sn (by decide) (px_sn (by decide) (px_sn (by decide) (px_sn (by decide) hg_4)))) dX2_copyFrom_38 ?_
  refine lv_iconst (v := 0) hx hb dX2_copyFrom_41 (by decide) ?_
  refine lv_aload_n hx hb dX2_copyFrom_42 rfl (lv_at hl 0 rfl) ?_
  refine va_get (D := D) (ci := 2) (v := .ref gn) (C := RX2) (T := TX2) (N := 18) hx hb hg inGX2 hown hK hP 0 rfl rfl 4 (by decide) (hg _ q_1_82) (fun _ h9 => h9) (px_sn (by decide) (px_sn (by decide) (px_sn (by decide) (px_sn (by decide) hg_4)))) dX2_copyFrom_43 ?_
  refine va_alen (v := 6) hx hb hK hP 1 2 rfl rfl rfl dX2_copyFrom_46 ?_
  refine va_copyl hx hb (hml.trans hl.1.symm) hown (hg _ q_3_91) (hg _ q_3_93) (hg _ q_3_92) (hg _ q_1_17) hK hP hD hS 14 1 2 2 rfl rfl rfl rfl (ty := .long) rfl (sp := 0) (dp := 0) (n := 6) (by decide) (by decide) (by decide) (by decide) (by decide) (fun _ _ => rfl) (Nat.le_of_ble_eq_true rfl) (Nat.le_of_ble_eq_true rfl) dX2_copyFrom_47 (fun H_5 locs_5 hP_5 hD_5 hS_5 => ?_)
  clear hP hD hS
  have hP : va_P D vwCl [px_o g 2 ((((fg.set 0 (.int 0)).set 1 (.int 0)).set 2 (.int 0)).set 3 (.int 0)), px_l gn (y 2) 6 (va_cpy ftrn fgn 0 0 6), px_i gh (y 1) 78 fgh, px_i gc (y 1) 6 fgc, px_i gp (y 1) 52 fgp, px_i go (y 1) 13 fgo, px_i ga (y 1) 6 fga, px_i gv (y 1) 6 fgv, px_i gl (y 1) 6 fgl, px_o gk 3 fgk, px_i gs (y 1) 78 fgs, px_i gt (y 1) 52 fgt, px_i gq (y 1) 6 fgq, px_o tr 2 ftr, px_l trn (y 2) 6 ftrn, px_i trh (y 1) 78 ftrh, px_i trc (y 1) 6 ftrc, px_i trp (y 1) 52 ftrp, px_i tro (y 1) 13 ftro, px_i tra (y 1) 6 ftra, px_i trv (y 1) 6 ftrv, px_i trl (y 1) 6 ftrl, px_o trk 3 ftrk, px_i trs (y 1) 78 ftrs, px_i trt (y 1) 52 ftrt, px_i trq (y 1) 6 ftrq] H_5 := hP_5
  have hD : va_D A [px_o g 2 ((((fg.set 0 (.int 0)).set 1 (.int 0)).set 2 (.int 0)).set 3 (.int 0)), px_l gn (y 2) 6 (va_cpy ftrn fgn 0 0 6), px_i gh (y 1) 78 fgh, px_i gc (y 1) 6 fgc, px_i gp (y 1) 52 fgp, px_i go (y 1) 13 fgo, px_i ga (y 1) 6 fga, px_i gv (y 1) 6 fgv, px_i gl (y 1) 6 fgl, px_o gk 3 fgk, px_i gs (y 1) 78 fgs, px_i gt (y 1) 52 fgt, px_i gq (y 1) 6 fgq, px_o tr 2 ftr, px_l trn (y 2) 6 ftrn, px_i trh (y 1) 78 ftrh, px_i trc (y 1) 6 ftrc, px_i trp (y 1) 52 ftrp, px_i tro (y 1) 13 ftro, px_i tra (y 1) 6 ftra, px_i trv (y 1) 6 ftrv, px_i trl (y 1) 6 ftrl, px_o trk 3 ftrk, px_i trs (y 1) 78 ftrs, px_i trt (y 1) 52 ftrt, px_i trq (y 1) 6 ftrq] := hD_5
  have hS := hS_5
  clear hP_5 hD_5 hS_5
  refine lv_aload_n hx hb dX2_copyFrom_50 rfl (lv_at hl 1 rfl) ?_
  refine va_get (D := D) (ci := 2) (v := .ref trh) (C := RX2) (T := TX2) (N := 18) hx hb hg inGX2 hown hK hP 13 rfl rfl 5 (by decide) (hg _ q_1_83) (fun _ h9 => h9) htr_5 dX2_copyFrom_51 ?_
  refine lv_iconst (v := 0) hx hb dX2_copyFrom_54 (by decide) ?_
  refine lv_aload_n hx hb dX2_copyFrom_55 rfl (lv_at hl 0 rfl) ?_
  refine va_get (D := D) (ci := 2) (v := .ref gh) (C := RX2) (T := TX2) (N := 18) hx hb hg inGX2 hown hK hP 0 rfl rfl 5 (by decide) (hg _ q_1_83) (fun _ h9 => h9) (px_sn (by decide) (px_sn (by decide) (px_sn (by decide) (px_sn (by decide) hg_5)))) dX2_copyFrom_56 ?_
  refine lv_iconst (v := 0) hx hb dX2_copyFrom_59 (by decide) ?_
  refine lv_aload_n hx hb dX2_copyFrom_60 rfl (lv_at hl 0 rfl) ?_
  refine va_get (D := D) (ci := 2) (v := .ref gh) (C := RX2) (T := TX2) (N := 18) hx hb hg inGX2 hown hK hP 0 rfl rfl 5 (by decide) (hg _ q_1_83) (fun _ h9 => h9) (px_sn (by decide) (px_sn (by decide) (px_sn (by decide) (px_sn (by decide) hg_5)))) dX2_copyFrom_61 ?_
  refine va_alen (v := 78) hx hb hK hP 2 1 rfl rfl rfl dX2_copyFrom_64 ?_
  refine va_copyi hx hb (hml.trans hl.1.symm) hown (hg _ q_3_91) (hg _ q_3_93) (hg _ q_3_92) (hg _ q_1_17) hK hP hD hS 15 2 1 1 rfl rfl rfl rfl (ty := .int) rfl (sp := 0) (dp := 0) (n := 78) (by decide) (by decide) (by decide) (by decide) (by decide) (fun _ _ => rfl) (Nat.le_of_ble_eq_true rfl) (Nat.le_of_ble_eq_true rfl) dX2_copyFrom_65 (fun H_6 locs_6 hP_6 hD_6 hS_6 => ?_)
  clear hP hD hS
  have hP : va_P D vwCl [px_o g 2 ((((fg.set 0 (.int 0)).set 1 (.int 0)).set 2 (.int 0)).set 3 (.int 0)), px_l gn (y 2) 6 (va_cpy ftrn fgn 0 0 6), px_i gh (y 1) 78 (va_cpy ftrh fgh 0 0 78), px_i gc (y 1) 6 fgc, px_i gp (y 1) 52 fgp, px_i go (y 1) 13 fgo, px_i ga (y 1) 6 fga, px_i gv (y 1) 6 fgv, px_i gl (y 1) 6 fgl, px_o gk 3 fgk, px_i gs (y 1) 78 fgs, px_i gt (y 1) 52 fgt, px_i gq (y 1) 6 fgq, px_o tr 2 ftr, px_l trn (y 2) 6 ftrn, px_i trh (y 1) 78 ftrh, px_i trc (y 1) 6 ftrc, px_i trp (y 1) 52 ftrp, px_i tro (y 1) 13 ftro, px_i tra (y 1) 6 ftra, px_i trv (y 1) 6 ftrv, px_i trl (y 1) 6 ftrl, px_o trk 3 ftrk, px_i trs (y 1) 78 ftrs, px_i trt (y 1) 52 ftrt, px_i trq (y 1) 6 ftrq] H_6 := hP_6
  have hD : va_D A [px_o g 2 ((((fg.set 0 (.int 0)).set 1 (.int 0)).set 2 (.int 0)).set 3 (.int 0)), px_l gn (y 2) 6 (va_cpy ftrn fgn 0 0 6), px_i gh (y 1) 78 (va_cpy ftrh fgh 0 0 78), px_i gc (y 1) 6 fgc, px_i gp (y 1) 52 fgp, px_i go (y 1) 13 fgo, px_i ga (y 1) 6 fga, px_i gv (y 1) 6 fgv, px_i gl (y 1) 6 fgl, px_o gk 3 fgk, px_i gs (y 1) 78 fgs, px_i gt (y 1) 52 fgt, px_i gq (y 1) 6 fgq, px_o tr 2 ftr, px_l trn (y 2) 6 ftrn, px_i trh (y 1) 78 ftrh, px_i trc (y 1) 6 ftrc, px_i trp (y 1) 52 ftrp, px_i tro (y 1) 13 ftro, px_i tra (y 1) 6 ftra, px_i trv (y 1) 6 ftrv, px_i trl (y 1) 6 ftrl, px_o trk 3 ftrk, px_i trs (y 1) 78 ftrs, px_i trt (y 1) 52 ftrt, px_i trq (y 1) 6 ftrq] := hD_6
  have hS := hS_6
  clear hP_6 hD_6 hS_6
  refine lv_aload_n hx hb dX2_copyFrom_68 rfl (lv_at hl 1 rfl) ?_
  refine va_get (D := D) (ci := 2) (v := .ref trc) (C := RX2) (T := TX2) (N := 18) hx hb hg inGX2 hown hK hP 13 rfl rfl 6 (by decide) (hg _ q_1_84) (fun _ h9 => h9) htr_6 dX2_copyFrom_69 ?_
  refine lv_iconst (v := 0) hx hb dX2_copyFrom_72 (by decide) ?_
  refine lv_aload_n hx hb dX2_copyFrom_73 rfl (lv_at hl 0 rfl) ?_
  refine va_get (D := D) (ci := 2) (v := .ref gc) (C := RX2) (T := TX2) (N := 18) hx hb hg inGX2 hown hK hP 0 rfl rfl 6 (by decide) (hg _ q_1_84) (fun _ h9 => h9) (px_sn (by decide) (px_sn (by decide) (px_sn (by decide) (px_sn (by decide) hg_6)))) dX2_copyFrom_74 ?_
  refine lv_iconst (v := 0) hx hb dX2_copyFrom_77 (by decide) ?_
  refine lv_aload_n hx hb dX2_copyFrom_78 rfl (lv_at hl 0 rfl) ?_
  refine va_get (D := D) (ci := 2) (v := .ref gc) (C := RX2) (T := TX2) (N := 18) hx hb hg inGX2 hown hK hP 0 rfl rfl 6 (by decide) (hg _ q_1_84) (fun _ h9 => h9) (px_sn (by decide) (px_sn (by decide) (px_sn (by decide) (px_sn (by decide) hg_6)))) dX2_copyFrom_79 ?_
  refine va_alen (v := 6) hx hb hK hP 3 1 rfl rfl rfl dX2_copyFrom_82 ?_
  refine va_copyi hx hb (hml.trans hl.1.symm) hown (hg _ q_3_91) (hg _ q_3_93) (hg _ q_3_92) (hg _ q_1_17) hK hP hD hS 16 3 1 1 rfl rfl rfl rfl (ty := .int) rfl (sp := 0) (dp := 0) (n := 6) (by decide) (by decide) (by decide) (by decide) (by decide) (fun _ _ => rfl) (Nat.le_of_ble_eq_true rfl) (Nat.le_of_ble_eq_true rfl) dX2_copyFrom_83 (fun H_7 locs_7 hP_7 hD_7 hS_7 => ?_)
  clear hP hD hS
  have hP : va_P D vwCl [px_o g 2 ((((fg.set 0 (.int 0)).set 1 (.int 0)).set 2 (.int 0)).set 3 (.int 0)), px_l gn (y 2) 6 (va_cpy ftrn fgn 0 0 6), px_i gh (y 1) 78 (va_cpy ftrh fgh 0 0 78), px_i gc (y 1) 6 (va_cpy ftrc fgc 0 0 6), px_i gp (y 1) 52 fgp, px_i go (y 1) 13 fgo, px_i ga (y 1) 6 fga, px_i gv (y 1) 6 fgv, px_i gl (y 1) 6 fgl, px_o gk 3 fgk, px_i gs (y 1) 78 fgs, px_i gt (y 1) 52 fgt, px_i gq (y 1) 6 fgq, px_o tr 2 ftr, px_l trn (y 2) 6 ftrn, px_i trh (y 1) 78 ftrh, px_i trc (y 1) 6 ftrc, px_i trp (y 1) 52 ftrp, px_i tro (y 1) 13 ftro, px_i tra (y 1) 6 ftra, px_i trv (y 1) 6 ftrv, px_i trl (y 1) 6 ftrl, px_o trk 3 ftrk, px_i trs (y 1) 78 ftrs, px_i trt (y 1) 52 ftrt, px_i trq (y 1) 6 ftrq] H_7 := hP_7
  have hD : va_D A [px_o g 2 ((((fg.set 0 (.int 0)).set 1 (.int 0)).set 2 (.int 0)).set 3 (.int 0)), px_l gn (y 2) 6 (va_cpy ftrn fgn 0 0 6), px_i gh (y 1) 78 (va_cpy ftrh fgh 0 0 78), px_i gc (y 1) 6 (va_cpy ftrc fgc 0 0 6), px_i gp (y 1) 52 fgp, px_i go (y 1) 13 fgo, px_i ga (y 1) 6 fga, px_i gv (y 1) 6 fgv, px_i gl (y 1) 6 fgl, px_o gk 3 fgk, px_i gs (y 1) 78 fgs, px_i gt (y 1) 52 fgt, px_i gq (y 1) 6 fgq, px_o tr 2 ftr, px_l trn (y 2) 6 ftrn, px_i trh (y 1) 78 ftrh, px_i trc (y 1) 6 ftrc, px_i trp (y 1) 52 ftrp, px_i tro (y 1) 13 ftro, px_i tra (y 1) 6 ftra, px_i trv (y 1) 6 ftrv, px_i trl (y 1) 6 ftrl, px_o trk 3 ftrk, px_i trs (y 1) 78 ftrs, px_i trt (y 1) 52 ftrt, px_i trq (y 1) 6 ftrq] := hD_7
  have hS := hS_7
  clear hP_7 hD_7 hS_7
  refine lv_aload_n hx hb dX2_copyFrom_86 rfl (lv_at hl 1 rfl) ?_
  refine va_get (D := D) (ci := 2) (v := .ref trp) (C := RX2) (T := TX2) (N := 18) hx hb hg inGX2 hown hK hP 13 rfl rfl 7 (by decide) (hg _ q_1_86) (fun _ h9 => h9) htr_7 dX2_copyFrom_87 ?_
  refine lv_iconst (v := 0) hx hb dX2_copyFrom_90 (by decide) ?_
  refine lv_aload_n hx hb dX2_copyFrom_91 rfl (lv_at hl 0 rfl) ?_
  refine va_get (D := D) (ci := 2) (v := .ref gp) (C := RX2) (T := TX2) (N := 18) hx hb hg inGX2 hown hK hP 0 rfl rfl 7 (by decide) (hg _ q_1_86) (fun _ h9 => h9) (px_sn (by decide) (px_sn (by decide) (px_sn (by decide) (px_sn (by decide) hg_7)))) dX2_copyFrom_92 ?_
  refine lv_iconst (v := 0) hx hb dX2_copyFrom_95 (by decide) ?_
  refine lv_aload_n hx hb dX2_copyFrom_96 rfl (lv_at hl 0 rfl) ?_
  refine va_get (D := D) (ci := 2) (v := .ref gp) (C := RX2) (T := TX2) (N := 18) hx hb hg inGX2 hown hK hP 0 rfl rfl 7 (by decide) (hg _ q_1_86) (fun _ h9 => h9) (px_sn (by decide) (px_sn (by decide) (px_sn (by decide) (px_sn (by decide) hg_7)))) dX2_copyFrom_97 ?_
  refine va_alen (v := 52) hx hb hK hP 4 1 rfl rfl rfl dX2_copyFrom_100 ?_
  refine va_copyi hx hb (hml.trans hl.1.symm) hown (hg _ q_3_91) (hg _ q_3_93) (hg _ q_3_92) (hg _ q_1_17) hK hP hD hS 17 4 1 1 rfl rfl rfl rfl (ty := .int) rfl (sp := 0) (dp := 0) (n := 52) (by decide) (by decide) (by decide) (by decide) (by decide) (fun _ _ => rfl) (Nat.le_of_ble_eq_true rfl) (Nat.le_of_ble_eq_true rfl) dX2_copyFrom_101 (fun H_8 locs_8 hP_8 hD_8 hS_8 => ?_)
  clear hP hD hS
  have hP : va_P D vwCl [px_o g 2 ((((fg.set 0 (.int 0)).set 1 (.int 0)).set 2 (.int 0)).set 3 (.int 0)), px_l gn (y 2) 6 (va_cpy ftrn fgn 0 0 6), px_i gh (y 1) 78 (va_cpy ftrh fgh 0 0 78), px_i gc (y 1) 6 (va_cpy ftrc fgc 0 0 6), px_i gp (y 1) 52 (va_cpy ftrp fgp 0 0 52), px_i go (y 1) 13 fgo, px_i ga (y 1) 6 fga, px_i gv (y 1) 6 fgv, px_i gl (y 1) 6 fgl, px_o gk 3 fgk, px_i gs (y 1) 78 fgs, px_i gt (y 1) 52 fgt, px_i gq (y 1) 6 fgq, px_o tr 2 ftr, px_l trn (y 2) 6 ftrn, px_i trh (y 1) 78 ftrh, px_i trc (y 1) 6 ftrc, px_i trp (y 1) 52 ftrp, px_i tro (y 1) 13 ftro, px_i tra (y 1) 6 ftra, px_i trv (y 1) 6 ftrv, px_i trl (y 1) 6 ftrl, px_o trk 3 ftrk, px_i trs (y 1) 78 ftrs, px_i trt (y 1) 52 ftrt, px_i trq (y 1) 6 ftrq] H_8 := hP_8
  have hD : va_D A [px_o g 2 ((((fg.set 0 (.int 0)).set 1 (.int 0)).set 2 (.int 0)).set 3 (.int 0)), px_l gn (y 2) 6 (va_cpy ftrn fgn 0 0 6), px_i gh (y 1) 78 (va_cpy ftrh fgh 0 0 78), px_i gc (y 1) 6 (va_cpy ftrc fgc 0 0 6), px_i gp (y 1) 52 (va_cpy ftrp fgp 0 0 52), px_i go (y 1) 13 fgo, px_i ga (y 1) 6 fga, px_i gv (y 1) 6 fgv, px_i gl (y 1) 6 fgl, px_o gk 3 fgk, px_i gs (y 1) 78 fgs, px_i gt (y 1) 52 fgt, px_i gq (y 1) 6 fgq, px_o tr 2 ftr, px_l trn (y 2) 6 ftrn, px_i trh (y 1) 78 ftrh, px_i trc (y 1) 6 ftrc, px_i trp (y 1) 52 ftrp, px_i tro (y 1) 13 ftro, px_i tra (y 1) 6 ftra, px_i trv (y 1) 6 ftrv, px_i trl (y 1) 6 ftrl, px_o trk 3 ftrk, px_i trs (y 1) 78 ftrs, px_i trt (y 1) 52 ftrt, px_i trq (y 1) 6 ftrq] := hD_8
  have hS := hS_8
  clear hP_8 hD_8 hS_8
  refine lv_aload_n hx hb dX2_copyFrom_104 rfl (lv_at hl 0 rfl) ?_
  refine lv_aload_n hx hb dX2_copyFrom_105 rfl (lv_at hl 1 rfl) ?_
  refine va_get (D := D) (ci := 2) (v := .int 0) (C := RX2) (T := TX2) (N := 18) hx hb hg inGX2 hown hK hP 13 rfl rfl 8 (by decide) (hg _ q_1_89) (fun _ h9 => h9) htr_8 dX2_copyFrom_106 ?_
  refine va_put (D := D) (ci := 2) (v := .int 0) (ty := .int) (C := RX2) (T := TX2) (N := 18) hx hb hg inGX2 tyX2 tyX2_ok nmX2 hown hK hP hD hS 0 rfl rfl 8 (by decide) (hg _ q_1_89) (fun _ h9 => h9) rfl (by decide +kernel) rfl rfl (px_len (px_sn (by decide) (px_sn (by decide) (px_sn (by decide) (px_sn (by decide) hg_8))))) dX2_copyFrom_109 (fun H_9 locs_9 hP_9 hD_9 hS_9 => ?_)
  clear hP hD hS
  have hP : va_P D vwCl [px_o g 2 (((((fg.set 0 (.int 0)).set 1 (.int 0)).set 2 (.int 0)).set 3 (.int 0)).set 8 (.int 0)), px_l gn (y 2) 6 (va_cpy ftrn fgn 0 0 6), px_i gh (y 1) 78 (va_cpy ftrh fgh 0 0 78), px_i gc (y 1) 6 (va_cpy ftrc fgc 0 0 6), px_i gp (y 1) 52 (va_cpy ftrp fgp 0 0 52), px_i go (y 1) 13 fgo, px_i ga (y 1) 6 fga, px_i gv (y 1) 6 fgv, px_i gl (y 1) 6 fgl, px_o gk 3 fgk, px_i gs (y 1) 78 fgs, px_i gt (y 1) 52 fgt, px_i gq (y 1) 6 fgq, px_o tr 2 ftr, px_l trn (y 2) 6 ftrn, px_i trh (y 1) 78 ftrh, px_i trc (y 1) 6 ftrc, px_i trp (y 1) 52 ftrp, px_i tro (y 1) 13 ftro, px_i tra (y 1) 6 ftra, px_i trv (y 1) 6 ftrv, px_i trl (y 1) 6 ftrl, px_o trk 3 ftrk, px_i trs (y 1) 78 ftrs, px_i trt (y 1) 52 ftrt, px_i trq (y 1) 6 ftrq] H_9 := hP_9
  have hD : va_D A [px_o g 2 (((((fg.set 0 (.int 0)).set 1 (.int 0)).set 2 (.int 0)).set 3 (.int 0)).set 8 (.int 0)), px_l gn (y 2) 6 (va_cpy ftrn fgn 0 0 6), px_i gh (y 1) 78 (va_cpy ftrh fgh 0 0 78), px_i gc (y 1) 6 (va_cpy ftrc fgc 0 0 6), px_i gp (y 1) 52 (va_cpy ftrp fgp 0 0 52), px_i go (y 1) 13 fgo, px_i ga (y 1) 6 fga, px_i gv (y 1) 6 fgv, px_i gl (y 1) 6 fgl, px_o gk 3 fgk, px_i gs (y 1) 78 fgs, px_i gt (y 1) 52 fgt, px_i gq (y 1) 6 fgq, px_o tr 2 ftr, px_l trn (y 2) 6 ftrn, px_i trh (y 1) 78 ftrh, px_i trc (y 1) 6 ftrc, px_i trp (y 1) 52 ftrp, px_i tro (y 1) 13 ftro, px_i tra (y 1) 6 ftra, px_i trv (y 1) 6 ftrv, px_i trl (y 1) 6 ftrl, px_o trk 3 ftrk, px_i trs (y 1) 78 ftrs, px_i trt (y 1) 52 ftrt, px_i trq (y 1) 6 ftrq] := hD_9
  have hS := hS_9
  clear hP_9 hD_9 hS_9
  refine lv_aload_n hx hb dX2_copyFrom_112 rfl (lv_at hl 0 rfl) ?_
  refine lv_aload_n hx hb dX2_copyFrom_113 rfl (lv_at hl 1 rfl) ?_
  refine va_get (D := D) (ci := 2) (v := .int 0) (C := RX2) (T := TX2) (N := 18) hx hb hg inGX2 hown hK hP 13 rfl rfl 9 (by decide) (hg _ q_1_92) (fun _ h9 => h9) htr_9 dX2_copyFrom_114 ?_
  refine va_put (D := D) (ci := 2) (v := .int 0) (ty := .int) (C := RX2) (T := TX2) (N := 18) hx hb hg inGX2 tyX2 tyX2_ok nmX2 hown hK hP hD hS 0 rfl rfl 9 (by decide) (hg _ q_1_92) (fun _ h9 => h9) rfl (by decide +kernel) rfl rfl (px_len (px_sn (by decide) (px_sn (by decide) (px_sn (by decide) (px_sn (by decide) (px_sn (by decide) hg_9)))))) dX2_copyFrom_117 (fun H_10 locs_10 hP_10 hD_10 hS_10 => ?_)
  clear hP hD hS
  have hP : va_P D vwCl [px_o g 2 ((((((fg.set 0 (.int 0)).set 1 (.int 0)).set 2 (.int 0)).set 3 (.int 0)).set 8 (.int 0)).set 9 (.int 0)), px_l gn (y 2) 6 (va_cpy ftrn fgn 0 0 6), px_i gh (y 1) 78 (va_cpy ftrh fgh 0 0 78), px_i gc (y 1) 6 (va_cpy ftrc fgc 0 0 6), px_i gp (y 1) 52 (va_cpy ftrp fgp 0 0 52), px_i go (y 1) 13 fgo, px_i ga (y 1) 6 fga, px_i gv (y 1) 6 fgv, px_i gl (y 1) 6 fgl, px_o gk 3 fgk, px_i gs (y 1) 78 fgs, px_i gt (y 1) 52 fgt, px_i gq (y 1) 6 fgq, px_o tr 2 ftr, px_l trn (y 2) 6 ftrn, px_i trh (y 1) 78 ftrh, px_i trc (y 1) 6 ftrc, px_i trp (y 1) 52 ftrp, px_i tro (y 1) 13 ftro, px_i tra (y 1) 6 ftra, px_i trv (y 1) 6 ftrv, px_i trl (y 1) 6 ftrl, px_o trk 3 ftrk, px_i trs (y 1) 78 ftrs, px_i trt (y 1) 52 ftrt, px_i trq (y 1) 6 ftrq] H_10 := hP_10
  have hD : va_D A [px_o g 2 ((((((fg.set 0 (.int 0)).set 1 (.int 0)).set 2 (.int 0)).set 3 (.int 0)).set 8 (.int 0)).set 9 (.int 0)), px_l gn (y 2) 6 (va_cpy ftrn fgn 0 0 6), px_i gh (y 1) 78 (va_cpy ftrh fgh 0 0 78), px_i gc (y 1) 6 (va_cpy ftrc fgc 0 0 6), px_i gp (y 1) 52 (va_cpy ftrp fgp 0 0 52), px_i go (y 1) 13 fgo, px_i ga (y 1) 6 fga, px_i gv (y 1) 6 fgv, px_i gl (y 1) 6 fgl, px_o gk 3 fgk, px_i gs (y 1) 78 fgs, px_i gt (y 1) 52 fgt, px_i gq (y 1) 6 fgq, px_o tr 2 ftr, px_l trn (y 2) 6 ftrn, px_i trh (y 1) 78 ftrh, px_i trc (y 1) 6 ftrc, px_i trp (y 1) 52 ftrp, px_i tro (y 1) 13 ftro, px_i tra (y 1) 6 ftra, px_i trv (y 1) 6 ftrv, px_i trl (y 1) 6 ftrl, px_o trk 3 ftrk, px_i trs (y 1) 78 ftrs, px_i trt (y 1) 52 ftrt, px_i trq (y 1) 6 ftrq] := hD_10
  have hS := hS_10
  clear hP_10 hD_10 hS_10
  refine lv_aload_n hx hb dX2_copyFrom_120 rfl (lv_at hl 1 rfl) ?_
  refine va_get (D := D) (ci := 2) (v := .ref tro) (C := RX2) (T := TX2) (N := 18) hx hb hg inGX2 hown hK hP 13 rfl rfl 10 (by decide) (hg _ q_1_93) (fun _ h9 => h9) htr_10 dX2_copyFrom_121 ?_
  refine lv_iconst (v := 0) hx hb dX2_copyFrom_124 (by decide) ?_
  refine lv_aload_n hx hb dX2_copyFrom_125 rfl (lv_at hl 0 rfl) ?_
  refine va_get (D := D) (ci := 2) (v := .ref go) (C := RX2) (T := TX2) (N := 18) hx hb hg inGX2 hown hK hP 0 rfl rfl 10 (by decide) (hg _ q_1_93) (fun _ h9 => h9) (px_sn (by decide) (px_sn (by decide) (px_sn (by decide) (px_sn (by decide) (px_sn (by decide) (px_sn (by decide) hg_10)))))) dX2_copyFrom_126 ?_
  refine lv_iconst (v := 0) hx hb dX2_copyFrom_129 (by decide) ?_
  refine lv_aload_n hx hb dX2_copyFrom_130 rfl (lv_at hl 0 rfl) ?_
  refine va_get (D := D) (ci := 2) (v := .ref go) (C := RX2) (T := TX2) (N := 18) hx hb hg inGX2 hown hK hP 0 rfl rfl 10 (by decide) (hg _ q_1_93) (fun _ h9 => h9) (px_sn (by decide) (px_sn (by decide) (px_sn (by decide) (px_sn (by decide) (px_sn (by decide) (px_sn (by decide) hg_10)))))) dX2_copyFrom_131 ?_
  refine va_alen (v := 13) hx hb hK hP 5 1 rfl rfl rfl dX2_copyFrom_134 ?_
  refine va_copyi hx hb (hml.trans hl.1.symm) hown (hg _ q_3_91) (hg _ q_3_93) (hg _ q_3_92) (hg _ q_1_17) hK hP hD hS 18 5 1 1 rfl rfl rfl rfl (ty := .int) rfl (sp := 0) (dp := 0) (n := 13) (by decide) (by decide) (by decide) (by decide) (by decide) (fun _ _ => rfl) (Nat.le_of_ble_eq_true rfl) (Nat.le_of_ble_eq_true rfl) dX2_copyFrom_135 (fun H_11 locs_11 hP_11 hD_11 hS_11 => ?_)
  clear hP hD hS
  have hP : va_P D vwCl [px_o g 2 ((((((fg.set 0 (.int 0)).set 1 (.int 0)).set 2 (.int 0)).set 3 (.int 0)).set 8 (.int 0)).set 9 (.int 0)), px_l gn (y 2) 6 (va_cpy ftrn fgn 0 0 6), px_i gh (y 1) 78 (va_cpy ftrh fgh 0 0 78), px_i gc (y 1) 6 (va_cpy ftrc fgc 0 0 6), px_i gp (y 1) 52 (va_cpy ftrp fgp 0 0 52), px_i go (y 1) 13 (va_cpy ftro fgo 0 0 13), px_i ga (y 1) 6 fga, px_i gv (y 1) 6 fgv, px_i gl (y 1) 6 fgl, px_o gk 3 fgk, px_i gs (y 1) 78 fgs, px_i gt (y 1) 52 fgt, px_i gq (y 1) 6 fgq, px_o tr 2 ftr, px_l trn (y 2) 6 ftrn, px_i trh (y 1) 78 ftrh, px_i trc (y 1) 6 ftrc, px_i trp (y 1) 52 ftrp, px_i tro (y 1) 13 ftro, px_i tra (y 1) 6 ftra, px_i trv (y 1) 6 ftrv, px_i trl (y 1) 6 ftrl, px_o trk 3 ftrk, px_i trs (y 1) 78 ftrs, px_i trt (y 1) 52 ftrt, px_i trq (y 1) 6 ftrq] H_11 := hP_11
  have hD : va_D A [px_o g 2 ((((((fg.set 0 (.int 0)).set 1 (.int 0)).set 2 (.int 0)).set 3 (.int 0)).set 8 (.int 0)).set 9 (.int 0)), px_l gn (y 2) 6 (va_cpy ftrn fgn 0 0 6), px_i gh (y 1) 78 (va_cpy ftrh fgh 0 0 78), px_i gc (y 1) 6 (va_cpy ftrc fgc 0 0 6), px_i gp (y 1) 52 (va_cpy ftrp fgp 0 0 52), px_i go (y 1) 13 (va_cpy ftro fgo 0 0 13), px_i ga (y 1) 6 fga, px_i gv (y 1) 6 fgv, px_i gl (y 1) 6 fgl, px_o gk 3 fgk, px_i gs (y 1) 78 fgs, px_i gt (y 1) 52 fgt, px_i gq (y 1) 6 fgq, px_o tr 2 ftr, px_l trn (y 2) 6 ftrn, px_i trh (y 1) 78 ftrh, px_i trc (y 1) 6 ftrc, px_i trp (y 1) 52 ftrp, px_i tro (y 1) 13 ftro, px_i tra (y 1) 6 ftra, px_i trv (y 1) 6 ftrv, px_i trl (y 1) 6 ftrl, px_o trk 3 ftrk, px_i trs (y 1) 78 ftrs, px_i trt (y 1) 52 ftrt, px_i trq (y 1) 6 ftrq] := hD_11
  have hS := hS_11
  clear hP_11 hD_11 hS_11
  refine lv_aload_n hx hb dX2_copyFrom_138 rfl (lv_at hl 1 rfl) ?_
  refine va_get (D := D) (ci := 2) (v := .ref tra) (C := RX2) (T := TX2) (N := 18) hx hb hg inGX2 hown hK hP 13 rfl rfl 11 (by decide) (hg _ q_1_96) (fun _ h9 => h9) htr_11 dX2_copyFrom_139 ?_
  refine lv_iconst (v := 0) hx hb dX2_copyFrom_142 (by decide) ?_
  refine lv_aload_n hx hb dX2_copyFrom_143 rfl (lv_at hl 0 rfl) ?_
  refine va_get (D := D) (ci := 2) (v := .ref ga) (C := RX2) (T := TX2) (N := 18) hx hb hg inGX2 hown hK hP 0 rfl rfl 11 (by decide) (hg _ q_1_96) (fun _ h9 => h9) (px_sn (by decide) (px_sn (by decide) (px_sn (by decide) (px_sn (by decide) (px_sn (by decide) (px_sn (by decide) hg_11)))))) dX2_copyFrom_144 ?_
  refine lv_iconst (v := 0) hx hb dX2_copyFrom_147 (by decide) ?_
  refine lv_aload_n hx hb dX2_copyFrom_148 rfl (lv_at hl 0 rfl) ?_
  refine va_get (D := D) (ci := 2) (v := .ref ga) (C := RX2) (T := TX2) (N := 18) hx hb hg inGX2 hown hK hP 0 rfl rfl 11 (by decide) (hg _ q_1_96) (fun _ h9 => h9) (px_sn (by decide) (px_sn (by decide) (px_sn (by decide) (px_sn (by decide) (px_sn (by decide) (px_sn (by decide) hg_11)))))) dX2_copyFrom_149 ?_
  refine va_alen (v := 6) hx hb hK hP 6 1 rfl rfl rfl dX2_copyFrom_152 ?_
  refine va_copyi hx hb (hml.trans hl.1.symm) hown (hg _ q_3_91) (hg _ q_3_93) (hg _ q_3_92) (hg _ q_1_17) hK hP hD hS 19 6 1 1 rfl rfl rfl rfl (ty := .int) rfl (sp := 0) (dp := 0) (n := 6) (by decide) (by decide) (by decide) (by decide) (by decide) (fun _ _ => rfl) (Nat.le_of_ble_eq_true rfl) (Nat.le_of_ble_eq_true rfl) dX2_copyFrom_153 (fun H_12 locs_12 hP_12 hD_12 hS_12 => ?_)
  clear hP hD hS
  have hP : va_P D vwCl [px_o g 2 ((((((fg.set 0 (.int 0)).set 1 (.int 0)).set 2 (.int 0)).set 3 (.int 0)).set 8 (.int 0)).set 9 (.int 0)), px_l gn (y 2) 6 (va_cpy ftrn fgn 0 0 6), px_i gh (y 1) 78 (va_cpy ftrh fgh 0 0 78), px_i gc (y 1) 6 (va_cpy ftrc fgc 0 0 6), px_i gp (y 1) 52 (va_cpy ftrp fgp 0 0 52), px_i go (y 1) 13 (va_cpy ftro fgo 0 0 13), px_i ga (y 1) 6 (va_cpy ftra fga 0 0 6), px_i gv (y 1) 6 fgv, px_i gl (y 1) 6 fgl, px_o gk 3 fgk, px_i gs (y 1) 78 fgs, px_i gt (y 1) 52 fgt, px_i gq (y 1) 6 fgq, px_o tr 2 ftr, px_l trn (y 2) 6 ftrn, px_i trh (y 1) 78 ftrh, px_i trc (y 1) 6 ftrc, px_i trp (y 1) 52 ftrp, px_i tro (y 1) 13 ftro, px_i tra (y 1) 6 ftra, px_i trv (y 1) 6 ftrv, px_i trl (y 1) 6 ftrl, px_o trk 3 ftrk, px_i trs (y 1) 78 ftrs, px_i trt (y 1) 52 ftrt, px_i trq (y 1) 6 ftrq] H_12 := hP_12
  have hD : va_D A [px_o g 2 ((((((fg.set 0 (.int 0)).set 1 (.int 0)).set 2 (.int 0)).set 3 (.int 0)).set 8 (.int 0)).set 9 (.int 0)), px_l gn (y 2) 6 (va_cpy ftrn fgn 0 0 6), px_i gh (y 1) 78 (va_cpy ftrh fgh 0 0 78), px_i gc (y 1) 6 (va_cpy ftrc fgc 0 0 6), px_i gp (y 1) 52 (va_cpy ftrp fgp 0 0 52), px_i go (y 1) 13 (va_cpy ftro fgo 0 0 13), px_i ga (y 1) 6 (va_cpy ftra fga 0 0 6), px_i gv (y 1) 6 fgv, px_i gl (y 1) 6 fgl, px_o gk 3 fgk, px_i gs (y 1) 78 fgs, px_i gt (y 1) 52 fgt, px_i gq (y 1) 6 fgq, px_o tr 2 ftr, px_l trn (y 2) 6 ftrn, px_i trh (y 1) 78 ftrh, px_i trc (y 1) 6 ftrc, px_i trp (y 1) 52 ftrp, px_i tro (y 1) 13 ftro, px_i tra (y 1) 6 ftra, px_i trv (y 1) 6 ftrv, px_i trl (y 1) 6 ftrl, px_o trk 3 ftrk, px_i trs (y 1) 78 ftrs, px_i trt (y 1) 52 ftrt, px_i trq (y 1) 6 ftrq] := hD_12
  have hS := hS_12
  clear hP_12 hD_12 hS_12
  refine lv_aload_n hx hb dX2_copyFrom_156 rfl (lv_at hl 1 rfl) ?_
  refine va_get (D := D) (ci := 2) (v := .ref trv) (C := RX2) (T := TX2) (N := 18) hx hb hg inGX2 hown hK hP 13 rfl rfl 12 (by decide) (hg _ q_1_98) (fun _ h9 => h9) htr_12 dX2_copyFrom_157 ?_
  refine lv_iconst (v := 0) hx hb dX2_copyFrom_160 (by decide) ?_
  refine lv_aload_n hx hb dX2_copyFrom_161 rfl (lv_at hl 0 rfl) ?_
  refine va_get (D := D) (ci := 2) (v := .ref gv) (C := RX2) (T := TX2) (N := 18) hx hb hg inGX2 hown hK hP 0 rfl rfl 12 (by decide) (hg _ q_1_98) (fun _ h9 => h9) (px_sn (by decide) (px_sn (by decide) (px_sn (by decide) (px_sn (by decide) (px_sn (by decide) (px_sn (by decide) hg_12)))))) dX2_copyFrom_162 ?_
  refine lv_iconst (v := 0) hx hb dX2_copyFrom_165 (by decide) ?_
  refine lv_aload_n hx hb dX2_copyFrom_166 rfl (lv_at hl 0 rfl) ?_
  refine va_get (D := D) (ci := 2) (v := .ref gv) (C := RX2) (T := TX2) (N := 18) hx hb hg inGX2 hown hK hP 0 rfl rfl 12 (by decide) (hg _ q_1_98) (fun _ h9 => h9) (px_sn (by decide) (px_sn (by decide) (px_sn (by decide) (px_sn (by decide) (px_sn (by decide) (px_sn (by decide) hg_12)))))) dX2_copyFrom_167 ?_
  refine va_alen (v := 6) hx hb hK hP 7 1 rfl rfl rfl dX2_copyFrom_170 ?_
  refine va_copyi hx hb (hml.trans hl.1.symm) hown (hg _ q_3_91) (hg _ q_3_93) (hg _ q_3_92) (hg _ q_1_17) hK hP hD hS 20 7 1 1 rfl rfl rfl rfl (ty := .int) rfl (sp := 0) (dp := 0) (n := 6) (by decide) (by decide) (by decide) (by decide) (by decide) (fun _ _ => rfl) (Nat.le_of_ble_eq_true rfl) (Nat.le_of_ble_eq_true rfl) dX2_copyFrom_171 (fun H_13 locs_13 hP_13 hD_13 hS_13 => ?_)
  clear hP hD hS
  have hP : va_P D vwCl [px_o g 2 ((((((fg.set 0 (.int 0)).set 1 (.int 0)).set 2 (.int 0)).set 3 (.int 0)).set 8 (.int 0)).set 9 (.int 0)), px_l gn (y 2) 6 (va_cpy ftrn fgn 0 0 6), px_i gh (y 1) 78 (va_cpy ftrh fgh 0 0 78), px_i gc (y 1) 6 (va_cpy ftrc fgc 0 0 6), px_i gp (y 1) 52 (va_cpy ftrp fgp 0 0 52), px_i go (y 1) 13 (va_cpy ftro fgo 0 0 13), px_i ga (y 1) 6 (va_cpy ftra fga 0 0 6), px_i gv (y 1) 6 (va_cpy ftrv fgv 0 0 6), px_i gl (y 1) 6 fgl, px_o gk 3 fgk, px_i gs (y 1) 78 fgs, px_i gt (y 1) 52 fgt, px_i gq (y 1) 6 fgq, px_o tr 2 ftr, px_l trn (y 2) 6 ftrn, px_i trh (y 1) 78 ftrh, px_i trc (y 1) 6 ftrc, px_i trp (y 1) 52 ftrp, px_i tro (y 1) 13 ftro, px_i tra (y 1) 6 ftra, px_i trv (y 1) 6 ftrv, px_i trl (y 1) 6 ftrl, px_o trk 3 ftrk, px_i trs (y 1) 78 ftrs, px_i trt (y 1) 52 ftrt, px_i trq (y 1) 6 ftrq] H_13 := hP_13
  have hD : va_D A [px_o g 2 ((((((fg.set 0 (.int 0)).set 1 (.int 0)).set 2 (.int 0)).set 3 (.int 0)).set 8 (.int 0)).set 9 (.int 0)), px_l gn (y 2) 6 (va_cpy ftrn fgn 0 0 6), px_i gh (y 1) 78 (va_cpy ftrh fgh 0 0 78), px_i gc (y 1) 6 (va_cpy ftrc fgc 0 0 6), px_i gp (y 1) 52 (va_cpy ftrp fgp 0 0 52), px_i go (y 1) 13 (va_cpy ftro fgo 0 0 13), px_i ga (y 1) 6 (va_cpy ftra fga 0 0 6), px_i gv (y 1) 6 (va_cpy ftrv fgv 0 0 6), px_i gl (y 1) 6 fgl, px_o gk 3 fgk, px_i gs (y 1) 78 fgs, px_i gt (y 1) 52 fgt, px_i gq (y 1) 6 fgq, px_o tr 2 ftr, px_l trn (y 2) 6 ftrn, px_i trh (y 1) 78 ftrh, px_i trc (y 1) 6 ftrc, px_i trp (y 1) 52 ftrp, px_i tro (y 1) 13 ftro, px_i tra (y 1) 6 ftra, px_i trv (y 1) 6 ftrv, px_i trl (y 1) 6 ftrl, px_o trk 3 ftrk, px_i trs (y 1) 78 ftrs, px_i trt (y 1) 52 ftrt, px_i trq (y 1) 6 ftrq] := hD_13
  have hS := hS_13
  clear hP_13 hD_13 hS_13
  refine lv_aload_n hx hb dX2_copyFrom_174 rfl (lv_at hl 1 rfl) ?_
  refine va_get (D := D) (ci := 2) (v := .ref trl) (C := RX2) (T := TX2) (N := 18) hx hb hg inGX2 hown hK hP 13 rfl rfl 13 (by decide) (hg _ q_1_100) (fun _ h9 => h9) htr_13 dX2_copyFrom_175 ?_
  refine lv_iconst (v := 0) hx hb dX2_copyFrom_178 (by decide) ?_
  refine lv_aload_n hx hb dX2_copyFrom_179 rfl (lv_at hl 0 rfl) ?_
  refine va_get (D := D) (ci := 2) (v := .ref gl) (C := RX2) (T := TX2) (N := 18) hx hb hg inGX2 hown hK hP 0 rfl rfl 13 (by decide) (hg _ q_1_100) (fun _ h9 => h9) (px_sn (by decide) (px_sn (by decide) (px_sn (by decide) (px_sn (by decide) (px_sn (by decide) (px_sn (by decide) hg_13)))))) dX2_copyFrom_180 ?_
  refine lv_iconst (v := 0) hx hb dX2_copyFrom_183 (by decide) ?_
  refine lv_aload_n hx hb dX2_copyFrom_184 rfl (lv_at hl 0 rfl) ?_
  refine va_get (D := D) (ci := 2) (v := .ref gl) (C := RX2) (T := TX2) (N := 18) hx hb hg inGX2 hown hK hP 0 rfl rfl 13 (by decide) (hg _ q_1_100) (fun _ h9 => h9) (px_sn (by decide) (px_sn (by decide) (px_sn (by decide) (px_sn (by decide) (px_sn (by decide) (px_sn (by decide) hg_13)))))) dX2_copyFrom_185 ?_
  refine va_alen (v := 6) hx hb hK hP 8 1 rfl rfl rfl dX2_copyFrom_188 ?_
  refine va_copyi hx hb (hml.trans hl.1.symm) hown (hg _ q_3_91) (hg _ q_3_93) (hg _ q_3_92) (hg _ q_1_17) hK hP hD hS 21 8 1 1 rfl rfl rfl rfl (ty := .int) rfl (sp := 0) (dp := 0) (n := 6) (by decide) (by decide) (by decide) (by decide) (by decide) (fun _ _ => rfl) (Nat.le_of_ble_eq_true rfl) (Nat.le_of_ble_eq_true rfl) dX2_copyFrom_189 (fun H_14 locs_14 hP_14 hD_14 hS_14 => ?_)
  clear hP hD hS
  have hP : va_P D vwCl [px_o g 2 ((((((fg.set 0 (.int 0)).set 1 (.int 0)).set 2 (.int 0)).set 3 (.int 0)).set 8 (.int 0)).set 9 (.int 0)), px_l gn (y 2) 6 (va_cpy ftrn fgn 0 0 6), px_i gh (y 1) 78 (va_cpy ftrh fgh 0 0 78), px_i gc (y 1) 6 (va_cpy ftrc fgc 0 0 6), px_i gp (y 1) 52 (va_cpy ftrp fgp 0 0 52), px_i go (y 1) 13 (va_cpy ftro fgo 0 0 13), px_i ga (y 1) 6 (va_cpy ftra fga 0 0 6), px_i gv (y 1) 6 (va_cpy ftrv fgv 0 0 6), px_i gl (y 1) 6 (va_cpy ftrl fgl 0 0 6), px_o gk 3 fgk, px_i gs (y 1) 78 fgs, px_i gt (y 1) 52 fgt, px_i gq (y 1) 6 fgq, px_o tr 2 ftr, px_l trn (y 2) 6 ftrn, px_i trh (y 1) 78 ftrh, px_i trc (y 1) 6 ftrc, px_i trp (y 1) 52 ftrp, px_i tro (y 1) 13 ftro, px_i tra (y 1) 6 ftra, px_i trv (y 1) 6 ftrv, px_i trl (y 1) 6 ftrl, px_o trk 3 ftrk, px_i trs (y 1) 78 ftrs, px_i trt (y 1) 52 ftrt, px_i trq (y 1) 6 ftrq] H_14 := hP_14
  have hD : va_D A [px_o g 2 ((((((fg.set 0 (.int 0)).set 1 (.int 0)).set 2 (.int 0)).set 3 (.int 0)).set 8 (.int 0)).set 9 (.int 0)), px_l gn (y 2) 6 (va_cpy ftrn fgn 0 0 6), px_i gh (y 1) 78 (va_cpy ftrh fgh 0 0 78), px_i gc (y 1) 6 (va_cpy ftrc fgc 0 0 6), px_i gp (y 1) 52 (va_cpy ftrp fgp 0 0 52), px_i go (y 1) 13 (va_cpy ftro fgo 0 0 13), px_i ga (y 1) 6 (va_cpy ftra fga 0 0 6), px_i gv (y 1) 6 (va_cpy ftrv fgv 0 0 6), px_i gl (y 1) 6 (va_cpy ftrl fgl 0 0 6), px_o gk 3 fgk, px_i gs (y 1) 78 fgs, px_i gt (y 1) 52 fgt, px_i gq (y 1) 6 fgq, px_o tr 2 ftr, px_l trn (y 2) 6 ftrn, px_i trh (y 1) 78 ftrh, px_i trc (y 1) 6 ftrc, px_i trp (y 1) 52 ftrp, px_i tro (y 1) 13 ftro, px_i tra (y 1) 6 ftra, px_i trv (y 1) 6 ftrv, px_i trl (y 1) 6 ftrl, px_o trk 3 ftrk, px_i trs (y 1) 78 ftrs, px_i trt (y 1) 52 ftrt, px_i trq (y 1) 6 ftrq] := hD_14
  have hS := hS_14
  clear hP_14 hD_14 hS_14
  refine lv_aload_n hx hb dX2_copyFrom_192 rfl (lv_at hl 0 rfl) ?_
  refine lv_aload_n hx hb dX2_copyFrom_193 rfl (lv_at hl 1 rfl) ?_
  refine va_get (D := D) (ci := 2) (v := .int (-1)) (C := RX2) (T := TX2) (N := 18) hx hb hg inGX2 hown hK hP 13 rfl rfl 14 (by decide) (hg _ q_1_102) (fun _ h9 => h9) htr_14 dX2_copyFrom_194 ?_
  refine va_put (D := D) (ci := 2) (v := .int (-1)) (ty := .int) (C := RX2) (T := TX2) (N := 18) hx hb hg inGX2 tyX2 tyX2_ok nmX2 hown hK hP hD hS 0 rfl rfl 14 (by decide) (hg _ q_1_102) (fun _ h9 => h9) rfl (by decide +kernel) rfl rfl (px_len (px_sn (by decide) (px_sn (by decide) (px_sn (by decide) (px_sn (by decide) (px_sn (by decide) (px_sn (by decide) hg_14))))))) dX2_copyFrom_197 (fun H_15 locs_15 hP_15 hD_15 hS_15 => ?_)
  clear hP hD hS
  have hP : va_P D vwCl [px_o g 2 (((((((fg.set 0 (.int 0)).set 1 (.int 0)).set 2 (.int 0)).set 3 (.int 0)).set 8 (.int 0)).set 9 (.int 0)).set 14 (.int (-1))), px_l gn (y 2) 6 (va_cpy ftrn fgn 0 0 6), px_i gh (y 1) 78 (va_cpy ftrh fgh 0 0 78), px_i gc (y 1) 6 (va_cpy ftrc fgc 0 0 6), px_i gp (y 1) 52 (va_cpy ftrp fgp 0 0 52), px_i go (y 1) 13 (va_cpy ftro fgo 0 0 13), px_i ga (y 1) 6 (va_cpy ftra fga 0 0 6), px_i gv (y 1) 6 (va_cpy ftrv fgv 0 0 6), px_i gl (y 1) 6 (va_cpy ftrl fgl 0 0 6), px_o gk 3 fgk, px_i gs (y 1) 78 fgs, px_i gt (y 1) 52 fgt, px_i gq (y 1) 6 fgq, px_o tr 2 ftr, px_l trn (y 2) 6 ftrn, px_i trh (y 1) 78 ftrh, px_i trc (y 1) 6 ftrc, px_i trp (y 1) 52 ftrp, px_i tro (y 1) 13 ftro, px_i tra (y 1) 6 ftra, px_i trv (y 1) 6 ftrv, px_i trl (y 1) 6 ftrl, px_o trk 3 ftrk, px_i trs (y 1) 78 ftrs, px_i trt (y 1) 52 ftrt, px_i trq (y 1) 6 ftrq] H_15 := hP_15
  have hD : va_D A [px_o g 2 (((((((fg.set 0 (.int 0)).set 1 (.int 0)).set 2 (.int 0)).set 3 (.int 0)).set 8 (.int 0)).set 9 (.int 0)).set 14 (.int (-1))), px_l gn (y 2) 6 (va_cpy ftrn fgn 0 0 6), px_i gh (y 1) 78 (va_cpy ftrh fgh 0 0 78), px_i gc (y 1) 6 (va_cpy ftrc fgc 0 0 6), px_i gp (y 1) 52 (va_cpy ftrp fgp 0 0 52), px_i go (y 1) 13 (va_cpy ftro fgo 0 0 13), px_i ga (y 1) 6 (va_cpy ftra fga 0 0 6), px_i gv (y 1) 6 (va_cpy ftrv fgv 0 0 6), px_i gl (y 1) 6 (va_cpy ftrl fgl 0 0 6), px_o gk 3 fgk, px_i gs (y 1) 78 fgs, px_i gt (y 1) 52 fgt, px_i gq (y 1) 6 fgq, px_o tr 2 ftr, px_l trn (y 2) 6 ftrn, px_i trh (y 1) 78 ftrh, px_i trc (y 1) 6 ftrc, px_i trp (y 1) 52 ftrp, px_i tro (y 1) 13 ftro, px_i tra (y 1) 6 ftra, px_i trv (y 1) 6 ftrv, px_i trl (y 1) 6 ftrl, px_o trk 3 ftrk, px_i trs (y 1) 78 ftrs, px_i trt (y 1) 52 ftrt, px_i trq (y 1) 6 ftrq] := hD_15
  have hS := hS_15
  clear hP_15 hD_15 hS_15
  refine lv_aload_n hx hb dX2_copyFrom_200 rfl (lv_at hl 0 rfl) ?_
  refine lv_aload_n hx hb dX2_copyFrom_201 rfl (lv_at hl 1 rfl) ?_
  refine va_get (D := D) (ci := 2) (v := .int 0) (C := RX2) (T := TX2) (N := 18) hx hb hg inGX2 hown hK hP 13 rfl rfl 15 (by decide) (hg _ q_1_105) (fun _ h9 => h9) htr_15 dX2_copyFrom_202 ?_
  refine va_put (D := D) (ci := 2) (v := .int 0) (ty := .int) (C := RX2) (T := TX2) (N := 18) hx hb hg inGX2 tyX2 tyX2_ok nmX2 hown hK hP hD hS 0 rfl rfl 15 (by decide) (hg _ q_1_105) (fun _ h9 => h9) rfl (by decide +kernel) rfl rfl (px_len (px_sn (by decide) (px_sn (by decide) (px_sn (by decide) (px_sn (by decide) (px_sn (by decide) (px_sn (by decide) (px_sn (by decide) hg_15)))))))) dX2_copyFrom_205 (fun H_16 locs_16 hP_16 hD_16 hS_16 => ?_)
  clear hP hD hS
  have hP : va_P D vwCl [px_o g 2 ((((((((fg.set 0 (.int 0)).set 1 (.int 0)).set 2 (.int 0)).set 3 (.int 0)).set 8 (.int 0)).set 9 (.int 0)).set 14 (.int (-1))).set 15 (.int 0)), px_l gn (y 2) 6 (va_cpy ftrn fgn 0 0 6), px_i gh (y 1) 78 (va_cpy ftrh fgh 0 0 78), px_i gc (y 1) 6 (va_cpy ftrc fgc 0 0 6), px_i gp (y 1) 52 (va_cpy ftrp fgp 0 0 52), px_i go (y 1) 13 (va_cpy ftro fgo 0 0 13), px_i ga (y 1) 6 (va_cpy ftra fga 0 0 6), px_i gv (y 1) 6 (va_cpy ftrv fgv 0 0 6), px_i gl (y 1) 6 (va_cpy ftrl fgl 0 0 6), px_o gk 3 fgk, px_i gs (y 1) 78 fgs, px_i gt (y 1) 52 fgt, px_i gq (y 1) 6 fgq, px_o tr 2 ftr, px_l trn (y 2) 6 ftrn, px_i trh (y 1) 78 ftrh, px_i trc (y 1) 6 ftrc, px_i trp (y 1) 52 ftrp, px_i tro (y 1) 13 ftro, px_i tra (y 1) 6 ftra, px_i trv (y 1) 6 ftrv, px_i trl (y 1) 6 ftrl, px_o trk 3 ftrk, px_i trs (y 1) 78 ftrs, px_i trt (y 1) 52 ftrt, px_i trq (y 1) 6 ftrq] H_16 := hP_16
  have hD : va_D A [px_o g 2 ((((((((fg.set 0 (.int 0)).set 1 (.int 0)).set 2 (.int 0)).set 3 (.int 0)).set 8 (.int 0)).set 9 (.int 0)).set 14 (.int (-1))).set 15 (.int 0)), px_l gn (y 2) 6 (va_cpy ftrn fgn 0 0 6), px_i gh (y 1) 78 (va_cpy ftrh fgh 0 0 78), px_i gc (y 1) 6 (va_cpy ftrc fgc 0 0 6), px_i gp (y 1) 52 (va_cpy ftrp fgp 0 0 52), px_i go (y 1) 13 (va_cpy ftro fgo 0 0 13), px_i ga (y 1) 6 (va_cpy ftra fga 0 0 6), px_i gv (y 1) 6 (va_cpy ftrv fgv 0 0 6), px_i gl (y 1) 6 (va_cpy ftrl fgl 0 0 6), px_o gk 3 fgk, px_i gs (y 1) 78 fgs, px_i gt (y 1) 52 fgt, px_i gq (y 1) 6 fgq, px_o tr 2 ftr, px_l trn (y 2) 6 ftrn, px_i trh (y 1) 78 ftrh, px_i trc (y 1) 6 ftrc, px_i trp (y 1) 52 ftrp, px_i tro (y 1) 13 ftro, px_i tra (y 1) 6 ftra, px_i trv (y 1) 6 ftrv, px_i trl (y 1) 6 ftrl, px_o trk 3 ftrk, px_i trs (y 1) 78 ftrs, px_i trt (y 1) 52 ftrt, px_i trq (y 1) 6 ftrq] := hD_16
  have hS := hS_16
  clear hP_16 hD_16 hS_16
  refine lv_aload_n hx hb dX2_copyFrom_208 rfl (lv_at hl 0 rfl) ?_
  refine lv_aload_n hx hb dX2_copyFrom_209 rfl (lv_at hl 1 rfl) ?_
  refine va_get (D := D) (ci := 2) (v := .int 0) (C := RX2) (T := TX2) (N := 18) hx hb hg inGX2 hown hK hP 13 rfl rfl 16 (by decide) (hg _ q_1_107) (fun _ h9 => h9) htr_16 dX2_copyFrom_210 ?_
  refine va_put (D := D) (ci := 2) (v := .int 0) (ty := .int) (C := RX2) (T := TX2) (N := 18) hx hb hg inGX2 tyX2 tyX2_ok nmX2 hown hK hP hD hS 0 rfl rfl 16 (by decide) (hg _ q_1_107) (fun _ h9 => h9) rfl (by decide +kernel) rfl rfl (px_len (px_sn (by decide) (px_sn (by decide) (px_sn (by decide) (px_sn (by decide) (px_sn (by decide) (px_sn (by decide) (px_sn (by decide) (px_sn (by decide) hg_16))))))))) dX2_copyFrom_213 (fun H_17 locs_17 hP_17 hD_17 hS_17 => ?_)
  clear hP hD hS
  have hP : va_P D vwCl [px_o g 2 (((((((((fg.set 0 (.int 0)).set 1 (.int 0)).set 2 (.int 0)).set 3 (.int 0)).set 8 (.int 0)).set 9 (.int 0)).set 14 (.int (-1))).set 15 (.int 0)).set 16 (.int 0)), px_l gn (y 2) 6 (va_cpy ftrn fgn 0 0 6), px_i gh (y 1) 78 (va_cpy ftrh fgh 0 0 78), px_i gc (y 1) 6 (va_cpy ftrc fgc 0 0 6), px_i gp (y 1) 52 (va_cpy ftrp fgp 0 0 52), px_i go (y 1) 13 (va_cpy ftro fgo 0 0 13), px_i ga (y 1) 6 (va_cpy ftra fga 0 0 6), px_i gv (y 1) 6 (va_cpy ftrv fgv 0 0 6), px_i gl (y 1) 6 (va_cpy ftrl fgl 0 0 6), px_o gk 3 fgk, px_i gs (y 1) 78 fgs, px_i gt (y 1) 52 fgt, px_i gq (y 1) 6 fgq, px_o tr 2 ftr, px_l trn (y 2) 6 ftrn, px_i trh (y 1) 78 ftrh, px_i trc (y 1) 6 ftrc, px_i trp (y 1) 52 ftrp, px_i tro (y 1) 13 ftro, px_i tra (y 1) 6 ftra, px_i trv (y 1) 6 ftrv, px_i trl (y 1) 6 ftrl, px_o trk 3 ftrk, px_i trs (y 1) 78 ftrs, px_i trt (y 1) 52 ftrt, px_i trq (y 1) 6 ftrq] H_17 := hP_17
  have hD : va_D A [px_o g 2 (((((((((fg.set 0 (.int 0)).set 1 (.int 0)).set 2 (.int 0)).set 3 (.int 0)).set 8 (.int 0)).set 9 (.int 0)).set 14 (.int (-1))).set 15 (.int 0)).set 16 (.int 0)), px_l gn (y 2) 6 (va_cpy ftrn fgn 0 0 6), px_i gh (y 1) 78 (va_cpy ftrh fgh 0 0 78), px_i gc (y 1) 6 (va_cpy ftrc fgc 0 0 6), px_i gp (y 1) 52 (va_cpy ftrp fgp 0 0 52), px_i go (y 1) 13 (va_cpy ftro fgo 0 0 13), px_i ga (y 1) 6 (va_cpy ftra fga 0 0 6), px_i gv (y 1) 6 (va_cpy ftrv fgv 0 0 6), px_i gl (y 1) 6 (va_cpy ftrl fgl 0 0 6), px_o gk 3 fgk, px_i gs (y 1) 78 fgs, px_i gt (y 1) 52 fgt, px_i gq (y 1) 6 fgq, px_o tr 2 ftr, px_l trn (y 2) 6 ftrn, px_i trh (y 1) 78 ftrh, px_i trc (y 1) 6 ftrc, px_i trp (y 1) 52 ftrp, px_i tro (y 1) 13 ftro, px_i tra (y 1) 6 ftra, px_i trv (y 1) 6 ftrv, px_i trl (y 1) 6 ftrl, px_o trk 3 ftrk, px_i trs (y 1) 78 ftrs, px_i trt (y 1) 52 ftrt, px_i trq (y 1) 6 ftrq] := hD_17
  have hS := hS_17
  clear hP_17 hD_17 hS_17
  refine lv_aload_n hx hb dX2_copyFrom_216 rfl (lv_at hl 0 rfl) ?_
  refine va_get (D := D) (ci := 2) (v := .ref gk) (C := RX2) (T := TX2) (N := 18) hx hb hg inGX2 hown hK hP 0 rfl rfl 17 (by decide) (hg _ q_1_110) (fun _ h9 => h9) (px_sn (by decide) (px_sn (by decide) (px_sn (by decide) (px_sn (by decide) (px_sn (by decide) (px_sn (by decide) (px_sn (by decide) (px_sn (by decide) (px_sn (by decide) hg_17))))))))) dX2_copyFrom_217 ?_
  refine lv_aload_n hx hb dX2_copyFrom_220 rfl (lv_at hl 1 rfl) ?_
  refine va_get (D := D) (ci := 2) (v := .ref trk) (C := RX2) (T := TX2) (N := 18) hx hb hg inGX2 hown hK hP 13 rfl rfl 17 (by decide) (hg _ q_1_110) (fun _ h9 => h9) htr_17 dX2_copyFrom_221 ?_
  have hPc_18 := hP.sub (ws' := [px_o gk 3 fgk, px_i gs (y 1) 78 fgs, px_i gt (y 1) 52 fgt, px_i gq (y 1) 6 fgq, px_o trk 3 ftrk, px_i trs (y 1) 78 ftrs, px_i trt (y 1) 52 ftrt, px_i trq (y 1) 6 ftrq]) [9, 10, 11, 12, 22, 23, 24, 25] rfl
  have hDc_18 := hD.sub (ws' := [px_o gk 3 fgk, px_i gs (y 1) 78 fgs, px_i gt (y 1) 52 fgt, px_i gq (y 1) 6 fgq, px_o trk 3 ftrk, px_i trs (y 1) 78 ftrs, px_i trt (y 1) 52 ftrt, px_i trq (y 1) 6 ftrq]) [9, 10, 11, 12, 22, 23, 24, 25] (by decide +kernel) rfl
  have hFc_18 := va_free (wc := [px_o gk 3 fgk, px_i gs (y 1) 78 fgs, px_i gt (y 1) 52 fgt, px_i gq (y 1) 6 fgq, px_o trk 3 ftrk, px_i trs (y 1) 78 ftrs, px_i trt (y 1) 52 ftrt, px_i trq (y 1) 6 ftrq]) hD hS hA [9, 10, 11, 12, 22, 23, 24, 25] rfl
  refine va_callv (va_runV (As := [.ref trk]) (rest := []) ⟨hx, hb, hml, hown, hg⟩ (c_X3_copyFrom l D y H_17.size gk trk fgk gs gt gq fgs fgt fgq ftrk trs trt trq ftrs ftrt ftrq hgk_0 hgk_1 hgk_2 hgk_3 htrk_0 htrk_1 htrk_2 htrk_3) (cwV 1 hg (px_gV q_3_94 q_3_95 q_3_96 q_1_3 q_3_97) rfl rfl rfl (by decide +kernel) ⟨Nat.le_of_ble_eq_true rfl, Nat.le_of_ble_eq_true rfl⟩) (px_preV hK hPc_18 hDc_18 (ci := 3) (q0 := 0) rfl rfl) rfl rfl hl.1 rfl (lv_room (Nat.le_of_ble_eq_true rfl)) dX2_copyFrom_224 ⟨Nat.le_of_ble_eq_true rfl, Nat.le_of_ble_eq_true rfl⟩) hS (fun q _ h => hFc_18 q h) hFc_18 (fun u_18 t_18 H_18 locs_18 ht_18 hvm_18 hw_18 hB_18 hz_18 hk_18 hS_18 => ?_)
  refine W.cs (cells' := 0) (slots' := 0) rfl rfl ?_
  obtain ⟨hP1_18, hD1_18⟩ := hB_18
  rw [ht_18] at hP1_18
  obtain ⟨hP_18, hD_18⟩ := va_join (wr := [px_o g 2 (((((((((fg.set 0 (.int 0)).set 1 (.int 0)).set 2 (.int 0)).set 3 (.int 0)).set 8 (.int 0)).set 9 (.int 0)).set 14 (.int (-1))).set 15 (.int 0)).set 16 (.int 0)), px_l gn (y 2) 6 (va_cpy ftrn fgn 0 0 6), px_i gh (y 1) 78 (va_cpy ftrh fgh 0 0 78), px_i gc (y 1) 6 (va_cpy ftrc fgc 0 0 6), px_i gp (y 1) 52 (va_cpy ftrp fgp 0 0 52), px_i go (y 1) 13 (va_cpy ftro fgo 0 0 13), px_i ga (y 1) 6 (va_cpy ftra fga 0 0 6), px_i gv (y 1) 6 (va_cpy ftrv fgv 0 0 6), px_i gl (y 1) 6 (va_cpy ftrl fgl 0 0 6), px_o tr 2 ftr, px_l trn (y 2) 6 ftrn, px_i trh (y 1) 78 ftrh, px_i trc (y 1) 6 ftrc, px_i trp (y 1) 52 ftrp, px_i tro (y 1) 13 ftro, px_i tra (y 1) 6 ftra, px_i trv (y 1) 6 ftrv, px_i trl (y 1) 6 ftrl]) (w1 := [px_o gk 3 (fgk.set 2 (.int 0)), px_i gs (y 1) 78 (u_18.2.1 0), px_i gt (y 1) 52 (u_18.2.1 1), px_i gq (y 1) 6 (u_18.2.1 2), px_o trk 3 ftrk, px_i trs (y 1) 78 ftrs, px_i trt (y 1) 52 ftrt, px_i trq (y 1) 6 ftrq]) hP hD [9, 10, 11, 12, 22, 23, 24, 25] [0, 1, 2, 3, 4, 5, 6, 7, 8, 13, 14, 15, 16, 17, 18, 19, 20, 21] rfl rfl (by decide +kernel) (by decide +kernel) hk_18 hFc_18 hP1_18 hD1_18
  clear hP hD hS hPc_18 hDc_18 hFc_18 hz_18 hk_18 hvm_18 ht_18 hP1_18 hD1_18
  have hP : va_P D vwCl [px_o g 2 (((((((((fg.set 0 (.int 0)).set 1 (.int 0)).set 2 (.int 0)).set 3 (.int 0)).set 8 (.int 0)).set 9 (.int 0)).set 14 (.int (-1))).set 15 (.int 0)).set 16 (.int 0)), px_l gn (y 2) 6 (va_cpy ftrn fgn 0 0 6), px_i gh (y 1) 78 (va_cpy ftrh fgh 0 0 78), px_i gc (y 1) 6 (va_cpy ftrc fgc 0 0 6), px_i gp (y 1) 52 (va_cpy ftrp fgp 0 0 52), px_i go (y 1) 13 (va_cpy ftro fgo 0 0 13), px_i ga (y 1) 6 (va_cpy ftra fga 0 0 6), px_i gv (y 1) 6 (va_cpy ftrv fgv 0 0 6), px_i gl (y 1) 6 (va_cpy ftrl fgl 0 0 6), px_o tr 2 ftr, px_l trn (y 2) 6 ftrn, px_i trh (y 1) 78 ftrh, px_i trc (y 1) 6 ftrc, px_i trp (y 1) 52 ftrp, px_i tro (y 1) 13 ftro, px_i tra (y 1) 6 ftra, px_i trv (y 1) 6 ftrv, px_i trl (y 1) 6 ftrl, px_o gk 3 (fgk.set 2 (.int 0)), px_i gs (y 1) 78 (u_18.2.1 0), px_i gt (y 1) 52 (u_18.2.1 1), px_i gq (y 1) 6 (u_18.2.1 2), px_o trk 3 ftrk, px_i trs (y 1) 78 ftrs, px_i trt (y 1) 52 ftrt, px_i trq (y 1) 6 ftrq] H_18 := hP_18
  have hD : va_D A [px_o g 2 (((((((((fg.set 0 (.int 0)).set 1 (.int 0)).set 2 (.int 0)).set 3 (.int 0)).set 8 (.int 0)).set 9 (.int 0)).set 14 (.int (-1))).set 15 (.int 0)).set 16 (.int 0)), px_l gn (y 2) 6 (va_cpy ftrn fgn 0 0 6), px_i gh (y 1) 78 (va_cpy ftrh fgh 0 0 78), px_i gc (y 1) 6 (va_cpy ftrc fgc 0 0 6), px_i gp (y 1) 52 (va_cpy ftrp fgp 0 0 52), px_i go (y 1) 13 (va_cpy ftro fgo 0 0 13), px_i ga (y 1) 6 (va_cpy ftra fga 0 0 6), px_i gv (y 1) 6 (va_cpy ftrv fgv 0 0 6), px_i gl (y 1) 6 (va_cpy ftrl fgl 0 0 6), px_o tr 2 ftr, px_l trn (y 2) 6 ftrn, px_i trh (y 1) 78 ftrh, px_i trc (y 1) 6 ftrc, px_i trp (y 1) 52 ftrp, px_i tro (y 1) 13 ftro, px_i tra (y 1) 6 ftra, px_i trv (y 1) 6 ftrv, px_i trl (y 1) 6 ftrl, px_o gk 3 (fgk.set 2 (.int 0)), px_i gs (y 1) 78 (u_18.2.1 0), px_i gt (y 1) 52 (u_18.2.1 1), px_i gq (y 1) 6 (u_18.2.1 2), px_o trk 3 ftrk, px_i trs (y 1) 78 ftrs, px_i trt (y 1) 52 ftrt, px_i trq (y 1) 6 ftrq] := hD_18
  have hS := hS_18
  clear hP_18 hD_18 hS_18
  have hP9 := hP.sub (ws' := [px_o g 2 (((((((((fg.set 0 (.int 0)).set 1 (.int 0)).set 2 (.int 0)).set 3 (.int 0)).set 8 (.int 0)).set 9 (.int 0)).set 14 (.int (-1))).set 15 (.int 0)).set 16 (.int 0)), px_l gn (y 2) 6 (va_cpy ftrn fgn 0 0 6), px_i gh (y 1) 78 (va_cpy ftrh fgh 0 0 78), px_i gc (y 1) 6 (va_cpy ftrc fgc 0 0 6), px_i gp (y 1) 52 (va_cpy ftrp fgp 0 0 52), px_i go (y 1) 13 (va_cpy ftro fgo 0 0 13), px_i ga (y 1) 6 (va_cpy ftra fga 0 0 6), px_i gv (y 1) 6 (va_cpy ftrv fgv 0 0 6), px_i gl (y 1) 6 (va_cpy ftrl fgl 0 0 6), px_o gk 3 (fgk.set 2 (.int 0)), px_i gs (y 1) 78 (u_18.2.1 0), px_i gt (y 1) 52 (u_18.2.1 1), px_i gq (y 1) 6 (u_18.2.1 2), px_o tr 2 ftr, px_l trn (y 2) 6 ftrn, px_i trh (y 1) 78 ftrh, px_i trc (y 1) 6 ftrc, px_i trp (y 1) 52 ftrp, px_i tro (y 1) 13 ftro, px_i tra (y 1) 6 ftra, px_i trv (y 1) 6 ftrv, px_i trl (y 1) 6 ftrl, px_o trk 3 ftrk, px_i trs (y 1) 78 ftrs, px_i trt (y 1) 52 ftrt, px_i trq (y 1) 6 ftrq]) [0, 1, 2, 3, 4, 5, 6, 7, 8, 18, 19, 20, 21, 9, 10, 11, 12, 13, 14, 15, 16, 17, 22, 23, 24, 25] rfl
  have hD9 := hD.sub (ws' := [px_o g 2 (((((((((fg.set 0 (.int 0)).set 1 (.int 0)).set 2 (.int 0)).set 3 (.int 0)).set 8 (.int 0)).set 9 (.int 0)).set 14 (.int (-1))).set 15 (.int 0)).set 16 (.int 0)), px_l gn (y 2) 6 (va_cpy ftrn fgn 0 0 6), px_i gh (y 1) 78 (va_cpy ftrh fgh 0 0 78), px_i gc (y 1) 6 (va_cpy ftrc fgc 0 0 6), px_i gp (y 1) 52 (va_cpy ftrp fgp 0 0 52), px_i go (y 1) 13 (va_cpy ftro fgo 0 0 13), px_i ga (y 1) 6 (va_cpy ftra fga 0 0 6), px_i gv (y 1) 6 (va_cpy ftrv fgv 0 0 6), px_i gl (y 1) 6 (va_cpy ftrl fgl 0 0 6), px_o gk 3 (fgk.set 2 (.int 0)), px_i gs (y 1) 78 (u_18.2.1 0), px_i gt (y 1) 52 (u_18.2.1 1), px_i gq (y 1) 6 (u_18.2.1 2), px_o tr 2 ftr, px_l trn (y 2) 6 ftrn, px_i trh (y 1) 78 ftrh, px_i trc (y 1) 6 ftrc, px_i trp (y 1) 52 ftrp, px_i tro (y 1) 13 ftro, px_i tra (y 1) 6 ftra, px_i trv (y 1) 6 ftrv, px_i trl (y 1) 6 ftrl, px_o trk 3 ftrk, px_i trs (y 1) 78 ftrs, px_i trt (y 1) 52 ftrt, px_i trq (y 1) 6 ftrq]) [0, 1, 2, 3, 4, 5, 6, 7, 8, 18, 19, 20, 21, 9, 10, 11, 12, 13, 14, 15, 16, 17, 22, 23, 24, 25] (by decide +kernel) rfl
  exact W.vret hx hb hr (fun t ht hW => ⟨⟨(px_v [], px_vi [(va_cpy ftrh fgh 0 0 78), (va_cpy ftrc fgc 0 0 6), (va_cpy ftrp fgp 0 0 52), (va_cpy ftro fgo 0 0 13), (va_cpy ftra fga 0 0 6), (va_cpy ftrv fgv 0 0 6), (va_cpy ftrl fgl 0 0 6), (u_18.2.1 0), (u_18.2.1 1), (u_18.2.1 2)], px_vl [(va_cpy ftrn fgn 0 0 6)]), rfl, trivial, by rw [ht]; exact hP9, hD9⟩, hS.F ht⟩) hS.2.2 dX2_copyFrom_227

set_option maxHeartbeats 4000000 in
set_option maxRecDepth 100000 in
theorem c_X7_clear (l : Launch) (D : va_G) (y : Nat → ClassId) (sz : Nat) (td : Nat) (ftd : List Value) (htd_1 : px_g ftd 1 (.int 0)) : Met l yX7_clear (px_w yX7_clear cX7_clear 1 none) ({ frames := 0, cells := 0, slots := 0, locals := 0 }) (va_Pc [.ref td] (px_P D y sz [px_o td 7 ftd])) (va_Qv (fun (u : Unit) => True) (fun (u : Unit) t => va_P D vwCl [px_o td 7 (ftd.set 1 (.int 0))] t.heap ∧ va_D (va_A [px_o td 7 ftd] sz) [px_o td 7 (ftd.set 1 (.int 0))]) (va_A [px_o td 7 ftd] sz)) 0 0 (va_A [px_o td 7 ftd] sz) := by
  refine Met.ofW (cc := cX7_clear) (maxL := 1) (ret := none) (by decide) rfl ?_
  intro p e s m args below meth c s₁ B hml hv
  obtain ⟨rfl, hsz, hP, hK, hD0⟩ := hv
  have hx := B.exec
  have hb := B.bytes
  have hr := B.returns
  have hts := atoms_spec (ws := px_w yX7_clear cX7_clear 1 none) B.pre
  have hg : ∀ w ∈ gw, w.before [.ref td].toArray s = true := fun w h => hts w (List.mem_cons_of_mem _ h)
  have hown : s.vm.findClass RX7 = some m.cls := findClass_of_methodNamed B.named
  have hlocks := B.notSynchronized
  subst hsz
  have hD := hD0.self (sz := s.heap.size)
  generalize hAe : va_A [px_o td 7 ftd] s.heap.size = A at hD ⊢
  have hA : ∀ q : Nat, s.heap.size ≤ q → A q := fun q h => by rw [← hAe]; exact Or.inr h
  have hS : va_S A s.heap s.heap [] := va_S.rf
  have hP : va_P D vwCl [px_o td 7 ftd] s.heap := hP
  have hl := lv_entry ([.ref td]) (n := 1) (Nat.le_of_ble_eq_true rfl)
  rw [lg_entry_eq]
  generalize (lg_sl ([.ref td]) ++ List.replicate (1 - (lg_sl ([.ref td])).length) Slot.unset).toArray = ls at hl ⊢
  have hl : lv_has ls 1 [(0, .ref td)] := hl
  refine lv_aload_n hx hb dX7_clear_0 rfl (lv_at hl 0 rfl) ?_
  refine lv_iconst (v := 0) hx hb dX7_clear_1 (by decide) ?_
  refine va_put (D := D) (ci := 7) (v := .int 0) (ty := .int) (C := RX7) (T := TX7) (N := 2) hx hb hg inGX7 tyX7 tyX7_ok nmX7 hown hK hP hD hS 0 rfl rfl 1 (by decide) (hg _ q_1_158) (fun _ h9 => h9) rfl (by decide +kernel) rfl rfl (px_len htd_1) dX7_clear_2 (fun H_1 locs_1 hP_1 hD_1 hS_1 => ?_)
  clear hP hD hS
  have hP : va_P D vwCl [px_o td 7 (ftd.set 1 (.int 0))] H_1 := hP_1
  have hD : va_D A [px_o td 7 (ftd.set 1 (.int 0))] := hD_1
  have hS := hS_1
  clear hP_1 hD_1 hS_1
  have hP9 := hP.sub (ws' := [px_o td 7 (ftd.set 1 (.int 0))]) [0] rfl
  have hD9 := hD.sub (ws' := [px_o td 7 (ftd.set 1 (.int 0))]) [0] (by decide +kernel) rfl
  exact W.vret hx hb hr (fun t ht hW => ⟨⟨(), rfl, trivial, by rw [ht]; exact hP9, hD9⟩, hS.F ht⟩) hS.2.2 dX7_clear_5

set_option maxHeartbeats 4000000 in
set_option maxRecDepth 100000 in
theorem c_X5_clear (l : Launch) (D : va_G) (y : Nat → ClassId) (sz : Nat) (pa : Nat) (fpa : List Value) (hpa_2 : px_g fpa 2 (.int 0)) : Met l yX5_clear (px_w yX5_clear cX5_clear 1 none) ({ frames := 0, cells := 0, slots := 0, locals := 0 }) (va_Pc [.ref pa] (px_P D y sz [px_o pa 5 fpa])) (va_Qv (fun (u : Unit) => True) (fun (u : Unit) t => va_P D vwCl [px_o pa 5 (fpa.set 2 (.int 0))] t.heap ∧ va_D (va_A [px_o pa 5 fpa] sz) [px_o pa 5 (fpa.set 2 (.int 0))]) (va_A [px_o pa 5 fpa] sz)) 0 0 (va_A [px_o pa 5 fpa] sz) := by
  refine Met.ofW (cc := cX5_clear) (maxL := 1) (ret := none) (by decide) rfl ?_
  intro p e s m args below meth c s₁ B hml hv
  obtain ⟨rfl, hsz, hP, hK, hD0⟩ := hv
  have hx := B.exec
  have hb := B.bytes
  have hr := B.returns
  have hts := atoms_spec (ws := px_w yX5_clear cX5_clear 1 none) B.pre
  have hg : ∀ w ∈ gw, w.before [.ref pa].toArray s = true := fun w h => hts w (List.mem_cons_of_mem _ h)
  have hown : s.vm.findClass RX5 = some m.cls := findClass_of_methodNamed B.named
  have hlocks := B.notSynchronized
  subst hsz
  have hD := hD0.self (sz := s.heap.size)
  generalize hAe : va_A [px_o pa 5 fpa] s.heap.size = A at hD ⊢
  have hA : ∀ q : Nat, s.heap.size ≤ q → A q := fun q h => by rw [← hAe]; exact Or.inr h
  have hS : va_S A s.heap s.heap [] := va_S.rf
  have hP : va_P D vwCl [px_o pa 5 fpa] s.heap := hP
  have hl := lv_entry ([.ref pa]) (n := 1) (Nat.le_of_ble_eq_true rfl)
  rw [lg_entry_eq]
  generalize (lg_sl ([.ref pa]) ++ List.replicate (1 - (lg_sl ([.ref pa])).length) Slot.unset).toArray = ls at hl ⊢
  have hl : lv_has ls 1 [(0, .ref pa)] := hl
  refine lv_aload_n hx hb dX5_clear_0 rfl (lv_at hl 0 rfl) ?_
  refine lv_iconst (v := 0) hx hb dX5_clear_1 (by decide) ?_
  refine va_put (D := D) (ci := 5) (v := .int 0) (ty := .int) (C := RX5) (T := TX5) (N := 3) hx hb hg inGX5 tyX5 tyX5_ok nmX5 hown hK hP hD hS 0 rfl rfl 2 (by decide) (hg _ q_2_92) (fun _ h9 => h9) rfl (by decide +kernel) rfl rfl (px_len hpa_2) dX5_clear_2 (fun H_1 locs_1 hP_1 hD_1 hS_1 => ?_)
  clear hP hD hS
  have hP : va_P D vwCl [px_o pa 5 (fpa.set 2 (.int 0))] H_1 := hP_1
  have hD : va_D A [px_o pa 5 (fpa.set 2 (.int 0))] := hD_1
  have hS := hS_1
  clear hP_1 hD_1 hS_1
  have hP9 := hP.sub (ws' := [px_o pa 5 (fpa.set 2 (.int 0))]) [0] rfl
  have hD9 := hD.sub (ws' := [px_o pa 5 (fpa.set 2 (.int 0))]) [0] (by decide +kernel) rfl
  exact W.vret hx hb hr (fun t ht hW => ⟨⟨(), rfl, trivial, by rw [ht]; exact hP9, hD9⟩, hS.F ht⟩) hS.2.2 dX5_clear_5
