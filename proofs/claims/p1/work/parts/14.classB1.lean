set_option maxHeartbeats 4000000 in
set_option maxRecDepth 100000 in
theorem c_X2_takeCardsAway (l : Launch) (D : va_G) (y : Nat → ClassId) (sz : Nat) (g : Nat) (fg : List Value) (gh : Nat) (gc : Nat) (fgh : Nat → Int32) (fgc : Nat → Int32) (hg_5 : fg[5]? = some (.ref gh)) (hg_6 : fg[6]? = some (.ref gc)) (hg_8 : fg[8]? = some (.int 0)) (hg_9 : fg[9]? = some (.int 0)) : Met l yX2_takeCardsAway (px_w yX2_takeCardsAway cX2_takeCardsAway 1 none) ({ frames := 1, cells := 0, slots := 0, locals := 23 }) (va_Pc [.ref g] (px_P D y sz [(g, .inr (2, fg)), (gh, .inl (y 1, 78, .inl fgh)), (gc, .inl (y 1, 6, .inl fgc))])) (va_Qv (fun (u : px_U) => True) (fun (u : px_U) t => va_P D vwCl [(g, .inr (2, ((fg.set 8 (.int 0)).set 9 (.int 0)))), (gh, .inl (y 1, 78, .inl (u.2.1 0))), (gc, .inl (y 1, 6, .inl (u.2.1 1)))] t.heap ∧ va_D (va_A [(g, .inr (2, fg)), (gh, .inl (y 1, 78, .inl fgh)), (gc, .inl (y 1, 6, .inl fgc))] sz) [(g, .inr (2, ((fg.set 8 (.int 0)).set 9 (.int 0)))), (gh, .inl (y 1, 78, .inl (u.2.1 0))), (gc, .inl (y 1, 6, .inl (u.2.1 1)))]) (va_A [(g, .inr (2, fg)), (gh, .inl (y 1, 78, .inl fgh)), (gc, .inl (y 1, 6, .inl fgc))] sz)) 0 0 (va_A [(g, .inr (2, fg)), (gh, .inl (y 1, 78, .inl fgh)), (gc, .inl (y 1, 6, .inl fgc))] sz) := by
  refine Met.ofW (cc := cX2_takeCardsAway) (maxL := 1) (ret := none) (by decide) rfl ?_
  intro p e s m args below meth c s₁ B hml hv
  obtain ⟨rfl, hsz, hP, hK, hD0⟩ := hv
  have hx := B.exec
  have hb := B.bytes
  have hr := B.returns
  have hts := atoms_spec (ws := px_w yX2_takeCardsAway cX2_takeCardsAway 1 none) B.pre
  have hg : ∀ w ∈ gw, w.before [.ref g].toArray s = true := fun w h => hts w (List.mem_cons_of_mem _ h)
  have hown : s.vm.findClass RX2 = some m.cls := findClass_of_methodNamed B.named
  have hlocks := B.notSynchronized
  subst hsz
  have hD := hD0.self (sz := s.heap.size)
  generalize hAe : va_A [(g, .inr (2, fg)), (gh, .inl (y 1, 78, .inl fgh)), (gc, .inl (y 1, 6, .inl fgc))] s.heap.size = A at hD ⊢
  have hA : ∀ q : Nat, s.heap.size ≤ q → A q := fun q h => by rw [← hAe]; exact Or.inr h
  have hS : va_S A s.heap s.heap [] := va_S.rf
  have hP : va_P D vwCl [(g, .inr (2, fg)), (gh, .inl (y 1, 78, .inl fgh)), (gc, .inl (y 1, 6, .inl fgc))] s.heap := hP
  have hl := lv_entry ([.ref g]) (n := 1) (Nat.le_of_ble_eq_true rfl)
  rw [lg_entry_eq]
  generalize (lg_sl ([.ref g]) ++ List.replicate (1 - (lg_sl ([.ref g])).length) Slot.unset).toArray = ls at hl ⊢
  have hl : lv_has ls 1 [(0, .ref g)] := hl
  refine lv_aload_n hx hb dX2_takeCardsAway_0 rfl (lv_at hl 0 rfl) ?_
  refine va_get (D := D) (ci := 2) (v := .ref gh) (C := RX2) (T := TX2) (N := 18) hx hb hg inGX2 hown hK hP 0 rfl rfl 5 (by decide) (hg _ q_1_83) (fun _ h9 => h9) hg_5 dX2_takeCardsAway_1 ?_
  refine lv_iconst (v := 0) hx hb dX2_takeCardsAway_4 (by decide) ?_
  have hPc_1 := hP.sub (ws' := [(gh, .inl (y 1, 78, .inl fgh))]) [1] rfl
  have hDc_1 := hD.sub (ws' := [(gh, .inl (y 1, 78, .inl fgh))]) [1] (by decide +kernel) rfl
  have hFc_1 := va_free (wc := [(gh, .inl (y 1, 78, .inl fgh))]) hD hS hA [1] rfl
  refine va_callv (va_runS (As := [.ref gh, .int 0]) (rest := []) ⟨hx, hb, hml, hown, hg⟩ (c_fill_78 l D y s.heap.size gh fgh 0 ) (va_cwS 2 hg (px_gS q_1_61 q_1_62 q_1_4 q_1_63) rfl rfl rfl (by decide +kernel) ⟨Nat.le_of_ble_eq_true rfl, Nat.le_of_ble_eq_true rfl⟩) (px_preS hK hPc_1 hDc_1) rfl rfl hl.1 rfl (lv_room (Nat.le_of_ble_eq_true rfl)) dX2_takeCardsAway_5 ⟨Nat.le_of_ble_eq_true rfl, Nat.le_of_ble_eq_true rfl⟩) hS (fun q _ h => hFc_1 q h) hFc_1 (fun u_1 t_1 H_1 locs_1 ht_1 hvm_1 hw_1 hB_1 hz_1 hk_1 hS_1 => ?_)
  refine W.cs (cells' := 0) (slots' := 0) rfl rfl ?_
  obtain ⟨hP1_1, hD1_1⟩ := hB_1
  rw [ht_1] at hP1_1
  obtain ⟨hP_1, hD_1⟩ := va_join (wr := [(g, .inr (2, fg)), (gc, .inl (y 1, 6, .inl fgc))]) (w1 := [(gh, .inl (y 1, 78, .inl (u_1.2.1 0)))]) hP hD [1] [0, 2] rfl rfl (by decide +kernel) (by decide +kernel) hk_1 hFc_1 hP1_1 hD1_1
  clear hP hD hS hPc_1 hDc_1 hFc_1 hz_1 hk_1 hvm_1 ht_1 hP1_1 hD1_1
  have hP : va_P D vwCl [(g, .inr (2, fg)), (gc, .inl (y 1, 6, .inl fgc)), (gh, .inl (y 1, 78, .inl (u_1.2.1 0)))] H_1 := hP_1
  have hD : va_D A [(g, .inr (2, fg)), (gc, .inl (y 1, 6, .inl fgc)), (gh, .inl (y 1, 78, .inl (u_1.2.1 0)))] := hD_1
  have hS := hS_1
  clear hP_1 hD_1 hS_1
  refine lv_aload_n hx hb dX2_takeCardsAway_8 rfl (lv_at hl 0 rfl) ?_
  refine va_get (D := D) (ci := 2) (v := .ref gc) (C := RX2) (T := TX2) (N := 18) hx hb hg inGX2 hown hK hP 0 rfl rfl 6 (by decide) (hg _ q_1_84) (fun _ h9 => h9) hg_6 dX2_takeCardsAway_9 ?_
  refine lv_iconst (v := 0) hx hb dX2_takeCardsAway_12 (by decide) ?_
  have hPc_2 := hP.sub (ws' := [(gc, .inl (y 1, 6, .inl fgc))]) [1] rfl
  have hDc_2 := hD.sub (ws' := [(gc, .inl (y 1, 6, .inl fgc))]) [1] (by decide +kernel) rfl
  have hFc_2 := va_free (wc := [(gc, .inl (y 1, 6, .inl fgc))]) hD hS hA [1] rfl
  refine va_callv (va_runS (As := [.ref gc, .int 0]) (rest := []) ⟨hx, hb, hml, hown, hg⟩ (c_fill_6 l D y H_1.size gc fgc 0 ) (va_cwS 2 hg (px_gS q_1_61 q_1_62 q_1_4 q_1_63) rfl rfl rfl (by decide +kernel) ⟨Nat.le_of_ble_eq_true rfl, Nat.le_of_ble_eq_true rfl⟩) (px_preS hK hPc_2 hDc_2) rfl rfl hl.1 rfl (lv_room (Nat.le_of_ble_eq_true rfl)) dX2_takeCardsAway_13 ⟨Nat.le_of_ble_eq_true rfl, Nat.le_of_ble_eq_true rfl⟩) hS (fun q _ h => hFc_2 q h) hFc_2 (fun u_2 t_2 H_2 locs_2 ht_2 hvm_2 hw_2 hB_2 hz_2 hk_2 hS_2 => ?_)
  refine W.cs (cells' := 0) (slots' := 0) rfl rfl ?_
  obtain ⟨hP1_2, hD1_2⟩ := hB_2
  rw [ht_2] at hP1_2
  obtain ⟨hP_2, hD_2⟩ := va_join (wr := [(g, .inr (2, fg)), (gh, .inl (y 1, 78, .inl (u_1.2.1 0)))]) (w1 := [(gc, .inl (y 1, 6, .inl (u_2.2.1 0)))]) hP hD [1] [0, 2] rfl rfl (by decide +kernel) (by decide +kernel) hk_2 hFc_2 hP1_2 hD1_2
  clear hP hD hS hPc_2 hDc_2 hFc_2 hz_2 hk_2 hvm_2 ht_2 hP1_2 hD1_2
  have hP : va_P D vwCl [(g, .inr (2, fg)), (gh, .inl (y 1, 78, .inl (u_1.2.1 0))), (gc, .inl (y 1, 6, .inl (u_2.2.1 0)))] H_2 := hP_2
  have hD : va_D A [(g, .inr (2, fg)), (gh, .inl (y 1, 78, .inl (u_1.2.1 0))), (gc, .inl (y 1, 6, .inl (u_2.2.1 0)))] := hD_2
  have hS := hS_2
  clear hP_2 hD_2 hS_2
  refine lv_aload_n hx hb dX2_takeCardsAway_16 rfl (lv_at hl 0 rfl) ?_
  refine lv_iconst (v := 0) hx hb dX2_takeCardsAway_17 (by decide) ?_
  refine va_put (D := D) (ci := 2) (v := .int 0) (ty := .int) (C := RX2) (T := TX2) (N := 18) hx hb hg inGX2 tyX2 tyX2_ok nmX2 hown hK hP hD hS 0 rfl rfl 8 (by decide) (hg _ q_1_89) (fun _ h9 => h9) rfl (by decide +kernel) rfl rfl (px_len hg_8) dX2_takeCardsAway_18 (fun H_3 locs_3 hP_3 hD_3 hS_3 => ?_)
  clear hP hD hS
  have hP : va_P D vwCl [(g, .inr (2, (fg.set 8 (.int 0)))), (gh, .inl (y 1, 78, .inl (u_1.2.1 0))), (gc, .inl (y 1, 6, .inl (u_2.2.1 0)))] H_3 := hP_3
  have hD : va_D A [(g, .inr (2, (fg.set 8 (.int 0)))), (gh, .inl (y 1, 78, .inl (u_1.2.1 0))), (gc, .inl (y 1, 6, .inl (u_2.2.1 0)))] := hD_3
  have hS := hS_3
  clear hP_3 hD_3 hS_3
  refine lv_aload_n hx hb dX2_takeCardsAway_21 rfl (lv_at hl 0 rfl) ?_
  refine lv_iconst (v := 0) hx hb dX2_takeCardsAway_22 (by decide) ?_
  refine va_put (D := D) (ci := 2) (v := .int 0) (ty := .int) (C := RX2) (T := TX2) (N := 18) hx hb hg inGX2 tyX2 tyX2_ok nmX2 hown hK hP hD hS 0 rfl rfl 9 (by decide) (hg _ q_1_92) (fun _ h9 => h9) rfl (by decide +kernel) rfl rfl (px_len (px_sn (by decide) hg_9)) dX2_takeCardsAway_23 (fun H_4 locs_4 hP_4 hD_4 hS_4 => ?_)
  clear hP hD hS
  have hP : va_P D vwCl [(g, .inr (2, ((fg.set 8 (.int 0)).set 9 (.int 0)))), (gh, .inl (y 1, 78, .inl (u_1.2.1 0))), (gc, .inl (y 1, 6, .inl (u_2.2.1 0)))] H_4 := hP_4
  have hD : va_D A [(g, .inr (2, ((fg.set 8 (.int 0)).set 9 (.int 0)))), (gh, .inl (y 1, 78, .inl (u_1.2.1 0))), (gc, .inl (y 1, 6, .inl (u_2.2.1 0)))] := hD_4
  have hS := hS_4
  clear hP_4 hD_4 hS_4
  have hP9 := hP.sub (ws' := [(g, .inr (2, ((fg.set 8 (.int 0)).set 9 (.int 0)))), (gh, .inl (y 1, 78, .inl (u_1.2.1 0))), (gc, .inl (y 1, 6, .inl (u_2.2.1 0)))]) [0, 1, 2] rfl
  have hD9 := hD.sub (ws' := [(g, .inr (2, ((fg.set 8 (.int 0)).set 9 (.int 0)))), (gh, .inl (y 1, 78, .inl (u_1.2.1 0))), (gc, .inl (y 1, 6, .inl (u_2.2.1 0)))]) [0, 1, 2] (by decide +kernel) rfl
  exact W.vret hx hb hr (fun t ht hW => ⟨⟨(px_v [], px_vi [(u_1.2.1 0), (u_2.2.1 0)], px_vl []), rfl, trivial, by rw [ht]; exact hP9, hD9⟩, hS.F ht⟩) hS.2.2 dX2_takeCardsAway_26

set_option maxHeartbeats 4000000 in
set_option maxRecDepth 100000 in
theorem c_X2_clear (l : Launch) (D : va_G) (y : Nat → ClassId) (sz : Nat) (g : Nat) (fg : List Value) (gh : Nat) (gc : Nat) (fgh : Nat → Int32) (fgc : Nat → Int32) (hg_0 : fg[0]? = some (.int 0)) (hg_1 : fg[1]? = some (.int 0)) (hg_2 : fg[2]? = some (.int 0)) (hg_3 : fg[3]? = some (.int 0)) (hg_5 : fg[5]? = some (.ref gh)) (hg_6 : fg[6]? = some (.ref gc)) (hg_8 : fg[8]? = some (.int 0)) (hg_9 : fg[9]? = some (.int 0)) : Met l yX2_clear (px_w yX2_clear cX2_clear 1 none) ({ frames := 2, cells := 0, slots := 0, locals := 43 }) (va_Pc [.ref g] (px_P D y sz [(g, .inr (2, fg)), (gh, .inl (y 1, 78, .inl fgh)), (gc, .inl (y 1, 6, .inl fgc))])) (va_Qv (fun (u : px_U) => True) (fun (u : px_U) t => va_P D vwCl [(g, .inr (2, ((((((fg.set 0 (.int 0)).set 1 (.int 0)).set 2 (.int 0)).set 3 (.int 0)).set 8 (.int 0)).set 9 (.int 0)))), (gh, .inl (y 1, 78, .inl (u.2.1 0))), (gc, .inl (y 1, 6, .inl (u.2.1 1)))] t.heap ∧ va_D (va_A [(g, .inr (2, fg)), (gh, .inl (y 1, 78, .inl fgh)), (gc, .inl (y 1, 6, .inl fgc))] sz) [(g, .inr (2, ((((((fg.set 0 (.int 0)).set 1 (.int 0)).set 2 (.int 0)).set 3 (.int 0)).set 8 (.int 0)).set 9 (.int 0)))), (gh, .inl (y 1, 78, .inl (u.2.1 0))), (gc, .inl (y 1, 6, .inl (u.2.1 1)))]) (va_A [(g, .inr (2, fg)), (gh, .inl (y 1, 78, .inl fgh)), (gc, .inl (y 1, 6, .inl fgc))] sz)) 0 0 (va_A [(g, .inr (2, fg)), (gh, .inl (y 1, 78, .inl fgh)), (gc, .inl (y 1, 6, .inl fgc))] sz) := by
  refine Met.ofW (cc := cX2_clear) (maxL := 1) (ret := none) (by decide) rfl ?_
  intro p e s m args below meth c s₁ B hml hv
  obtain ⟨rfl, hsz, hP, hK, hD0⟩ := hv
  have hx := B.exec
  have hb := B.bytes
  have hr := B.returns
  have hts := atoms_spec (ws := px_w yX2_clear cX2_clear 1 none) B.pre
  have hg : ∀ w ∈ gw, w.before [.ref g].toArray s = true := fun w h => hts w (List.mem_cons_of_mem _ h)
  have hown : s.vm.findClass RX2 = some m.cls := findClass_of_methodNamed B.named
  have hlocks := B.notSynchronized
  subst hsz
  have hD := hD0.self (sz := s.heap.size)
  generalize hAe : va_A [(g, .inr (2, fg)), (gh, .inl (y 1, 78, .inl fgh)), (gc, .inl (y 1, 6, .inl fgc))] s.heap.size = A at hD ⊢
  have hA : ∀ q : Nat, s.heap.size ≤ q → A q := fun q h => by rw [← hAe]; exact Or.inr h
  have hS : va_S A s.heap s.heap [] := va_S.rf
  have hP : va_P D vwCl [(g, .inr (2, fg)), (gh, .inl (y 1, 78, .inl fgh)), (gc, .inl (y 1, 6, .inl fgc))] s.heap := hP
  have hl := lv_entry ([.ref g]) (n := 1) (Nat.le_of_ble_eq_true rfl)
  rw [lg_entry_eq]
  generalize (lg_sl ([.ref g]) ++ List.replicate (1 - (lg_sl ([.ref g])).length) Slot.unset).toArray = ls at hl ⊢
  have hl : lv_has ls 1 [(0, .ref g)] := hl
  refine lv_aload_n hx hb dX2_clear_0 rfl (lv_at hl 0 rfl) ?_
  refine lv_iconst (v := 0) hx hb dX2_clear_1 (by decide) ?_
  refine va_put (D := D) (ci := 2) (v := .int 0) (ty := .int) (C := RX2) (T := TX2) (N := 18) hx hb hg inGX2 tyX2 tyX2_ok nmX2 hown hK hP hD hS 0 rfl rfl 0 (by decide) (hg _ q_1_64) (fun _ h9 => h9) rfl (by decide +kernel) rfl rfl (px_len hg_0) dX2_clear_2 (fun H_1 locs_1 hP_1 hD_1 hS_1 => ?_)
  clear hP hD hS
  have hP : va_P D vwCl [(g, .inr (2, (fg.set 0 (.int 0)))), (gh, .inl (y 1, 78, .inl fgh)), (gc, .inl (y 1, 6, .inl fgc))] H_1 := hP_1
  have hD : va_D A [(g, .inr (2, (fg.set 0 (.int 0)))), (gh, .inl (y 1, 78, .inl fgh)), (gc, .inl (y 1, 6, .inl fgc))] := hD_1
  have hS := hS_1
  clear hP_1 hD_1 hS_1
  refine lv_aload_n hx hb dX2_clear_5 rfl (lv_at hl 0 rfl) ?_
  refine lv_iconst (v := 0) hx hb dX2_clear_6 (by decide) ?_
  refine va_put (D := D) (ci := 2) (v := .int 0) (ty := .int) (C := RX2) (T := TX2) (N := 18) hx hb hg inGX2 tyX2 tyX2_ok nmX2 hown hK hP hD hS 0 rfl rfl 1 (by decide) (hg _ q_1_70) (fun _ h9 => h9) rfl (by decide +kernel) rfl rfl (px_len (px_sn (by decide) hg_1)) dX2_clear_7 (fun H_2 locs_2 hP_2 hD_2 hS_2 => ?_)
  clear hP hD hS
  have hP : va_P D vwCl [(g, .inr (2, ((fg.set 0 (.int 0)).set 1 (.int 0)))), (gh, .inl (y 1, 78, .inl fgh)), (gc, .inl (y 1, 6, .inl fgc))] H_2 := hP_2
  have hD : va_D A [(g, .inr (2, ((fg.set 0 (.int 0)).set 1 (.int 0)))), (gh, .inl (y 1, 78, .inl fgh)), (gc, .inl (y 1, 6, .inl fgc))] := hD_2
  have hS := hS_2
  clear hP_2 hD_2 hS_2
  refine lv_aload_n hx hb dX2_clear_10 rfl (lv_at hl 0 rfl) ?_
  refine lv_iconst (v := 0) hx hb dX2_clear_11 (by decide) ?_
  refine va_put (D := D) (ci := 2) (v := .int 0) (ty := .boolean) (C := RX2) (T := TX2) (N := 18) hx hb hg inGX2 tyX2 tyX2_ok nmX2 hown hK hP hD hS 0 rfl rfl 2 (by decide) (hg _ q_1_74) (fun _ h9 => h9) rfl (by decide +kernel) (by decide) rfl (px_len (px_sn (by decide) (px_sn (by decide) hg_2))) dX2_clear_12 (fun H_3 locs_3 hP_3 hD_3 hS_3 => ?_)
  clear hP hD hS
  have hP : va_P D vwCl [(g, .inr (2, (((fg.set 0 (.int 0)).set 1 (.int 0)).set 2 (.int 0)))), (gh, .inl (y 1, 78, .inl fgh)), (gc, .inl (y 1, 6, .inl fgc))] H_3 := hP_3
  have hD : va_D A [(g, .inr (2, (((fg.set 0 (.int 0)).set 1 (.int 0)).set 2 (.int 0)))), (gh, .inl (y 1, 78, .inl fgh)), (gc, .inl (y 1, 6, .inl fgc))] := hD_3
  have hS := hS_3
  clear hP_3 hD_3 hS_3
  refine lv_aload_n hx hb dX2_clear_15 rfl (lv_at hl 0 rfl) ?_
  refine lv_iconst (v := 0) hx hb dX2_clear_16 (by decide) ?_
  refine va_put (D := D) (ci := 2) (v := .int 0) (ty := .int) (C := RX2) (T := TX2) (N := 18) hx hb hg inGX2 tyX2 tyX2_ok nmX2 hown hK hP hD hS 0 rfl rfl 3 (by decide) (hg _ q_1_78) (fun _ h9 => h9) rfl (by decide +kernel) rfl rfl (px_len (px_sn (by decide) (px_sn (by decide) (px_sn (by decide) hg_3)))) dX2_clear_17 (fun H_4 locs_4 hP_4 hD_4 hS_4 => ?_)
  clear hP hD hS
  have hP : va_P D vwCl [(g, .inr (2, ((((fg.set 0 (.int 0)).set 1 (.int 0)).set 2 (.int 0)).set 3 (.int 0)))), (gh, .inl (y 1, 78, .inl fgh)), (gc, .inl (y 1, 6, .inl fgc))] H_4 := hP_4
  have hD : va_D A [(g, .inr (2, ((((fg.set 0 (.int 0)).set 1 (.int 0)).set 2 (.int 0)).set 3 (.int 0)))), (gh, .inl (y 1, 78, .inl fgh)), (gc, .inl (y 1, 6, .inl fgc))] := hD_4
  have hS := hS_4
  clear hP_4 hD_4 hS_4
  refine lv_aload_n hx hb dX2_clear_20 rfl (lv_at hl 0 rfl) ?_
  have hPc_5 := hP.sub (ws' := [(g, .inr (2, ((((fg.set 0 (.int 0)).set 1 (.int 0)).set 2 (.int 0)).set 3 (.int 0)))), (gh, .inl (y 1, 78, .inl fgh)), (gc, .inl (y 1, 6, .inl fgc))]) [0, 1, 2] rfl
  have hDc_5 := hD.sub (ws' := [(g, .inr (2, ((((fg.set 0 (.int 0)).set 1 (.int 0)).set 2 (.int 0)).set 3 (.int 0)))), (gh, .inl (y 1, 78, .inl fgh)), (gc, .inl (y 1, 6, .inl fgc))]) [0, 1, 2] (by decide +kernel) rfl
  have hFc_5 := va_free (wc := [(g, .inr (2, ((((fg.set 0 (.int 0)).set 1 (.int 0)).set 2 (.int 0)).set 3 (.int 0)))), (gh, .inl (y 1, 78, .inl fgh)), (gc, .inl (y 1, 6, .inl fgc))]) hD hS hA [0, 1, 2] rfl
  refine va_callv (va_runV (As := []) (rest := []) ⟨hx, hb, hml, hown, hg⟩ (c_X2_takeCardsAway l D y H_4.size g ((((fg.set 0 (.int 0)).set 1 (.int 0)).set 2 (.int 0)).set 3 (.int 0)) gh gc fgh fgc (px_sn (by decide) (px_sn (by decide) (px_sn (by decide) (px_sn (by decide) hg_5)))) (px_sn (by decide) (px_sn (by decide) (px_sn (by decide) (px_sn (by decide) hg_6)))) (px_sn (by decide) (px_sn (by decide) (px_sn (by decide) (px_sn (by decide) hg_8)))) (px_sn (by decide) (px_sn (by decide) (px_sn (by decide) (px_sn (by decide) hg_9))))) (cwV 0 hg (px_gV q_2_188 q_2_190 q_p_1 q_1_2 q_2_191) rfl rfl rfl (by decide +kernel) ⟨Nat.le_of_ble_eq_true rfl, Nat.le_of_ble_eq_true rfl⟩) (px_preV hK hPc_5 hDc_5 (ci := 2) (q0 := 0) rfl rfl) rfl rfl hl.1 rfl (lv_room (Nat.le_of_ble_eq_true rfl)) dX2_clear_21 ⟨Nat.le_of_ble_eq_true rfl, Nat.le_of_ble_eq_true rfl⟩) hS (fun q _ h => hFc_5 q h) hFc_5 (fun u_5 t_5 H_5 locs_5 ht_5 hvm_5 hw_5 hB_5 hz_5 hk_5 hS_5 => ?_)
  refine W.cs (cells' := 0) (slots' := 0) rfl rfl ?_
  obtain ⟨hP1_5, hD1_5⟩ := hB_5
  rw [ht_5] at hP1_5
  obtain ⟨hP_5, hD_5⟩ := va_join (wr := []) (w1 := [(g, .inr (2, ((((((fg.set 0 (.int 0)).set 1 (.int 0)).set 2 (.int 0)).set 3 (.int 0)).set 8 (.int 0)).set 9 (.int 0)))), (gh, .inl (y 1, 78, .inl (u_5.2.1 0))), (gc, .inl (y 1, 6, .inl (u_5.2.1 1)))]) hP hD [0, 1, 2] [] rfl rfl (by decide +kernel) (by decide +kernel) hk_5 hFc_5 hP1_5 hD1_5
  clear hP hD hS hPc_5 hDc_5 hFc_5 hz_5 hk_5 hvm_5 ht_5 hP1_5 hD1_5
  have hP : va_P D vwCl [(g, .inr (2, ((((((fg.set 0 (.int 0)).set 1 (.int 0)).set 2 (.int 0)).set 3 (.int 0)).set 8 (.int 0)).set 9 (.int 0)))), (gh, .inl (y 1, 78, .inl (u_5.2.1 0))), (gc, .inl (y 1, 6, .inl (u_5.2.1 1)))] H_5 := hP_5
  have hD : va_D A [(g, .inr (2, ((((((fg.set 0 (.int 0)).set 1 (.int 0)).set 2 (.int 0)).set 3 (.int 0)).set 8 (.int 0)).set 9 (.int 0)))), (gh, .inl (y 1, 78, .inl (u_5.2.1 0))), (gc, .inl (y 1, 6, .inl (u_5.2.1 1)))] := hD_5
  have hS := hS_5
  clear hP_5 hD_5 hS_5
  have hP9 := hP.sub (ws' := [(g, .inr (2, ((((((fg.set 0 (.int 0)).set 1 (.int 0)).set 2 (.int 0)).set 3 (.int 0)).set 8 (.int 0)).set 9 (.int 0)))), (gh, .inl (y 1, 78, .inl (u_5.2.1 0))), (gc, .inl (y 1, 6, .inl (u_5.2.1 1)))]) [0, 1, 2] rfl
  have hD9 := hD.sub (ws' := [(g, .inr (2, ((((((fg.set 0 (.int 0)).set 1 (.int 0)).set 2 (.int 0)).set 3 (.int 0)).set 8 (.int 0)).set 9 (.int 0)))), (gh, .inl (y 1, 78, .inl (u_5.2.1 0))), (gc, .inl (y 1, 6, .inl (u_5.2.1 1)))]) [0, 1, 2] (by decide +kernel) rfl
  exact W.vret hx hb hr (fun t ht hW => ⟨⟨(px_v [], px_vi [(u_5.2.1 0), (u_5.2.1 1)], px_vl []), rfl, trivial, by rw [ht]; exact hP9, hD9⟩, hS.F ht⟩) hS.2.2 dX2_clear_24

set_option maxHeartbeats 4000000 in
set_option maxRecDepth 100000 in
theorem c_X6_advance_900 (l : Launch) (D : va_G) (y : Nat → ClassId) (sz : Nat) (rd : Nat) (frd : List Value) (hrd_2 : frd[2]? = some (.int 0)) (hrd_3 : frd[3]? = some (.int 900)) (hrd_4 : frd[4]? = some (.int 0)) (hrd_5 : frd[5]? = some (.int 302)) (hrd_6 : frd[6]? = some (.int 0)) : Met l yX6_advance (px_w yX6_advance cX6_advance 3 none) ({ frames := 0, cells := 0, slots := 0, locals := 0 }) (va_Pc [.ref rd] (px_P D y sz [(rd, .inr (6, frd))])) (va_Qv (fun (u : Unit) => True) (fun (u : Unit) t => va_P D vwCl [(rd, .inr (6, ((frd.set 6 (.int 0)).set 5 (.int 302))))] t.heap ∧ va_D (va_A [(rd, .inr (6, frd))] sz) [(rd, .inr (6, ((frd.set 6 (.int 0)).set 5 (.int 302))))]) (va_A [(rd, .inr (6, frd))] sz)) 0 0 (va_A [(rd, .inr (6, frd))] sz) := by
  refine Met.ofW (cc := cX6_advance) (maxL := 3) (ret := none) (by decide) rfl ?_
  intro p e s m args below meth c s₁ B hml hv
  obtain ⟨rfl, hsz, hP, hK, hD0⟩ := hv
  have hx := B.exec
  have hb := B.bytes
  have hr := B.returns
  have hts := atoms_spec (ws := px_w yX6_advance cX6_advance 3 none) B.pre
  have hg : ∀ w ∈ gw, w.before [.ref rd].toArray s = true := fun w h => hts w (List.mem_cons_of_mem _ h)
  have hown : s.vm.findClass RX6 = some m.cls := findClass_of_methodNamed B.named
  have hlocks := B.notSynchronized
  subst hsz
  have hD := hD0.self (sz := s.heap.size)
  generalize hAe : va_A [(rd, .inr (6, frd))] s.heap.size = A at hD ⊢
  have hA : ∀ q : Nat, s.heap.size ≤ q → A q := fun q h => by rw [← hAe]; exact Or.inr h
  have hS : va_S A s.heap s.heap [] := va_S.rf
  have hP : va_P D vwCl [(rd, .inr (6, frd))] s.heap := hP
  have hl := lv_entry ([.ref rd]) (n := 3) (Nat.le_of_ble_eq_true rfl)
  rw [lg_entry_eq]
  generalize (lg_sl ([.ref rd]) ++ List.replicate (3 - (lg_sl ([.ref rd])).length) Slot.unset).toArray = ls at hl ⊢
  have hl : lv_has ls 3 [(0, .ref rd)] := hl
  refine lv_aload_n hx hb dX6_advance_0 rfl (lv_at hl 0 rfl) ?_
  refine va_get (D := D) (ci := 6) (v := .int 0) (C := RX6) (T := TX6) (N := 11) hx hb hg inGX6 hown hK hP 0 rfl rfl 4 (by decide) (hg _ q_1_225) (fun _ h9 => h9) hrd_4 dX6_advance_1 ?_
  refine lv_aload_n hx hb dX6_advance_4 rfl (lv_at hl 0 rfl) ?_
  refine va_get (D := D) (ci := 6) (v := .int 0) (C := RX6) (T := TX6) (N := 11) hx hb hg inGX6 hown hK hP 0 rfl rfl 2 (by decide) (hg _ q_1_223) (fun _ h9 => h9) hrd_2 dX6_advance_5 ?_
  refine lv_icmp_ge (tgt := 52) hx hb dX6_advance_8 (by decide) (fun _ => ?_) (fun c_1 => absurd c_1 (by decide))
  refine lv_aload_n hx hb dX6_advance_52 rfl (lv_at hl 0 rfl) ?_
  refine lv_aload_n hx hb dX6_advance_53 rfl (lv_at hl 0 rfl) ?_
  refine va_get (D := D) (ci := 6) (v := .int 0) (C := RX6) (T := TX6) (N := 11) hx hb hg inGX6 hown hK hP 0 rfl rfl 4 (by decide) (hg _ q_1_225) (fun _ h9 => h9) hrd_4 dX6_advance_54 ?_
  refine va_put (D := D) (ci := 6) (v := .int 0) (ty := .int) (C := RX6) (T := TX6) (N := 11) hx hb hg inGX6 tyX6 tyX6_ok nmX6 hown hK hP hD hS 0 rfl rfl 6 (by decide) (hg _ q_1_229) (fun _ h9 => h9) rfl (by decide +kernel) rfl rfl (px_len hrd_6) dX6_advance_57 (fun H_2 locs_2 hP_2 hD_2 hS_2 => ?_)
  clear hP hD hS
  have hP : va_P D vwCl [(rd, .inr (6, (frd.set 6 (.int 0))))] H_2 := hP_2
  have hD : va_D A [(rd, .inr (6, (frd.set 6 (.int 0))))] := hD_2
  have hS := hS_2
  clear hP_2 hD_2 hS_2
  refine lv_aload_n hx hb dX6_advance_60 rfl (lv_at hl 0 rfl) ?_
  refine va_get (D := D) (ci := 6) (v := .int 0) (C := RX6) (T := TX6) (N := 11) hx hb hg inGX6 hown hK hP 0 rfl rfl 2 (by decide) (hg _ q_1_223) (fun _ h9 => h9) (px_sn (by decide) hrd_2) dX6_advance_61 ?_
  refine lv_aload_n hx hb dX6_advance_64 rfl (lv_at hl 0 rfl) ?_
  refine va_get (D := D) (ci := 6) (v := .int 900) (C := RX6) (T := TX6) (N := 11) hx hb hg inGX6 hown hK hP 0 rfl rfl 3 (by decide) (hg _ q_1_224) (fun _ h9 => h9) (px_sn (by decide) hrd_3) dX6_advance_65 ?_
  refine lv_icmp_le (tgt := 100) hx hb dX6_advance_68 (by decide) (fun _ => ?_) (fun c_3 => absurd c_3 (by decide))
  refine lv_aload_n hx hb dX6_advance_100 rfl (lv_at hl 0 rfl) ?_
  refine va_get (D := D) (ci := 6) (v := .int 0) (C := RX6) (T := TX6) (N := 11) hx hb hg inGX6 hown hK hP 0 rfl rfl 4 (by decide) (hg _ q_1_225) (fun _ h9 => h9) (px_sn (by decide) hrd_4) dX6_advance_101 ?_
  refine lv_aload_n hx hb dX6_advance_104 rfl (lv_at hl 0 rfl) ?_
  refine va_get (D := D) (ci := 6) (v := .int 0) (C := RX6) (T := TX6) (N := 11) hx hb hg inGX6 hown hK hP 0 rfl rfl 2 (by decide) (hg _ q_1_223) (fun _ h9 => h9) (px_sn (by decide) hrd_2) dX6_advance_105 ?_
  refine lv_icmp_lt (tgt := 121) hx hb dX6_advance_108 (by decide) (fun c_4 => absurd c_4 (by decide)) (fun _ => ?_)
  refine lv_aload_n hx hb dX6_advance_111 rfl (lv_at hl 0 rfl) ?_
  refine lv_sipush (v := 302) hx hb dX6_advance_112 (by decide) ?_
  refine va_put (D := D) (ci := 6) (v := .int 302) (ty := .int) (C := RX6) (T := TX6) (N := 11) hx hb hg inGX6 tyX6 tyX6_ok nmX6 hown hK hP hD hS 0 rfl rfl 5 (by decide) (hg _ q_1_226) (fun _ h9 => h9) rfl (by decide +kernel) rfl rfl (px_len (px_sn (by decide) hrd_5)) dX6_advance_115 (fun H_5 locs_5 hP_5 hD_5 hS_5 => ?_)
  clear hP hD hS
  have hP : va_P D vwCl [(rd, .inr (6, ((frd.set 6 (.int 0)).set 5 (.int 302))))] H_5 := hP_5
  have hD : va_D A [(rd, .inr (6, ((frd.set 6 (.int 0)).set 5 (.int 302))))] := hD_5
  have hS := hS_5
  clear hP_5 hD_5 hS_5
  refine lv_goto (tgt := 205) hx hb dX6_advance_118 (by decide) ?_
  have hP9 := hP.sub (ws' := [(rd, .inr (6, ((frd.set 6 (.int 0)).set 5 (.int 302))))]) [0] rfl
  have hD9 := hD.sub (ws' := [(rd, .inr (6, ((frd.set 6 (.int 0)).set 5 (.int 302))))]) [0] (by decide +kernel) rfl
  exact W.vret hx hb hr (fun t ht hW => ⟨⟨(), rfl, trivial, by rw [ht]; exact hP9, hD9⟩, hS.F ht⟩) hS.2.2 dX6_advance_205

set_option maxHeartbeats 4000000 in
set_option maxRecDepth 100000 in
theorem c_X6_begin_900 (l : Launch) (D : va_G) (y : Nat → ClassId) (sz : Nat) (rd : Nat) (tp : Nat) (ftp : Nat → Int32) (frd : List Value) (rt : Nat) (hrd_1 : frd[1]? = some (.ref rt)) (hrd_2 : frd[2]? = some (.int 0)) (hrd_3 : frd[3]? = some (.int 0)) (hrd_4 : frd[4]? = some (.int 0)) (hrd_5 : frd[5]? = some (.int 302)) (hrd_6 : frd[6]? = some (.int 0)) (hrd_9 : frd[9]? = some (.int 0)) (hrd_10 : frd[10]? = some (.int 0)) : Met l yX6_begin (px_w yX6_begin cX6_begin 4 none) ({ frames := 1, cells := 0, slots := 0, locals := 22 }) (va_Pc [.ref rd, .ref tp, .int 0, .int 900] (px_P D y sz [(tp, .inl (y 0, 940, .inl ftp)), (rd, .inr (6, frd))])) (va_Qv (fun (u : Unit) => True) (fun (u : Unit) t => va_P D vwCl [(tp, .inl (y 0, 940, .inl ftp)), (rd, .inr (6, ((((((((frd.set 1 (.ref tp)).set 2 (.int 0)).set 3 (.int 900)).set 4 (.int 0)).set 9 (.int 0)).set 10 (.int 0)).set 6 (.int 0)).set 5 (.int 302))))] t.heap ∧ va_D (va_A [(tp, .inl (y 0, 940, .inl ftp)), (rd, .inr (6, frd))] sz) [(tp, .inl (y 0, 940, .inl ftp)), (rd, .inr (6, ((((((((frd.set 1 (.ref tp)).set 2 (.int 0)).set 3 (.int 900)).set 4 (.int 0)).set 9 (.int 0)).set 10 (.int 0)).set 6 (.int 0)).set 5 (.int 302))))]) (va_A [(tp, .inl (y 0, 940, .inl ftp)), (rd, .inr (6, frd))] sz)) 0 0 (va_A [(tp, .inl (y 0, 940, .inl ftp)), (rd, .inr (6, frd))] sz) := by
  refine Met.ofW (cc := cX6_begin) (maxL := 4) (ret := none) (by decide) rfl ?_
  intro p e s m args below meth c s₁ B hml hv
  obtain ⟨rfl, hsz, hP, hK, hD0⟩ := hv
  have hx := B.exec
  have hb := B.bytes
  have hr := B.returns
  have hts := atoms_spec (ws := px_w yX6_begin cX6_begin 4 none) B.pre
  have hg : ∀ w ∈ gw, w.before [.ref rd, .ref tp, .int 0, .int 900].toArray s = true := fun w h => hts w (List.mem_cons_of_mem _ h)
  have hown : s.vm.findClass RX6 = some m.cls := findClass_of_methodNamed B.named
  have hlocks := B.notSynchronized
  subst hsz
  have hD := hD0.self (sz := s.heap.size)
  generalize hAe : va_A [(tp, .inl (y 0, 940, .inl ftp)), (rd, .inr (6, frd))] s.heap.size = A at hD ⊢
  have hA : ∀ q : Nat, s.heap.size ≤ q → A q := fun q h => by rw [← hAe]; exact Or.inr h
  have hS : va_S A s.heap s.heap [] := va_S.rf
  have hP : va_P D vwCl [(tp, .inl (y 0, 940, .inl ftp)), (rd, .inr (6, frd))] s.heap := hP
  have hl := lv_entry ([.ref rd, .ref tp, .int 0, .int 900]) (n := 4) (Nat.le_of_ble_eq_true rfl)
  rw [lg_entry_eq]
  generalize (lg_sl ([.ref rd, .ref tp, .int 0, .int 900]) ++ List.replicate (4 - (lg_sl ([.ref rd, .ref tp, .int 0, .int 900])).length) Slot.unset).toArray = ls at hl ⊢
  have hl : lv_has ls 4 [(0, .ref rd), (1, .ref tp), (2, .int 0), (3, .int 900)] := hl
  refine lv_aload_n hx hb dX6_begin_0 rfl (lv_at hl 0 rfl) ?_
  refine lv_aload_n hx hb dX6_begin_1 rfl (lv_at hl 1 rfl) ?_
  refine va_put (D := D) (ci := 6) (v := .ref tp) (ty := (.array .byte)) (C := RX6) (T := TX6) (N := 11) hx hb hg inGX6 tyX6 tyX6_ok nmX6 hown hK hP hD hS 1 rfl rfl 1 (by decide) (hg _ q_1_222) (fun _ h9 => h9) rfl (by decide +kernel) rfl rfl (px_len hrd_1) dX6_begin_2 (fun H_1 locs_1 hP_1 hD_1 hS_1 => ?_)
  clear hP hD hS
  have hP : va_P D vwCl [(tp, .inl (y 0, 940, .inl ftp)), (rd, .inr (6, (frd.set 1 (.ref tp))))] H_1 := hP_1
  have hD : va_D A [(tp, .inl (y 0, 940, .inl ftp)), (rd, .inr (6, (frd.set 1 (.ref tp))))] := hD_1
  have hS := hS_1
  clear hP_1 hD_1 hS_1
  refine lv_aload_n hx hb dX6_begin_5 rfl (lv_at hl 0 rfl) ?_
  refine lv_iload_n hx hb dX6_begin_6 rfl (lv_at hl 2 rfl) ?_
  refine lv_aload_n hx hb dX6_begin_7 rfl (lv_at hl 1 rfl) ?_
  refine va_alen (v := 940) hx hb hK hP 0 0 rfl rfl rfl dX6_begin_8 ?_
  refine va_mmin hx hb (hml.trans hl.1.symm) hown (hg _ q_2_197) (hg _ q_2_198) (hg _ q_1_16) (hg _ q_2_199) (Nat.le_of_ble_eq_true rfl) (Nat.le_of_ble_eq_true rfl) (Nat.le_of_ble_eq_true rfl) (Nat.le_of_ble_eq_true rfl) dX6_begin_9 ?_
  refine px_top (v := 0) (by decide) ?_
  refine va_put (D := D) (ci := 6) (v := .int 0) (ty := .int) (C := RX6) (T := TX6) (N := 11) hx hb hg inGX6 tyX6 tyX6_ok nmX6 hown hK hP hD hS 1 rfl rfl 2 (by decide) (hg _ q_1_223) (fun _ h9 => h9) rfl (by decide +kernel) rfl rfl (px_len (px_sn (by decide) hrd_2)) dX6_begin_12 (fun H_2 locs_2 hP_2 hD_2 hS_2 => ?_)
  clear hP hD hS
  have hP : va_P D vwCl [(tp, .inl (y 0, 940, .inl ftp)), (rd, .inr (6, ((frd.set 1 (.ref tp)).set 2 (.int 0))))] H_2 := hP_2
  have hD : va_D A [(tp, .inl (y 0, 940, .inl ftp)), (rd, .inr (6, ((frd.set 1 (.ref tp)).set 2 (.int 0))))] := hD_2
  have hS := hS_2
  clear hP_2 hD_2 hS_2
  refine lv_aload_n hx hb dX6_begin_15 rfl (lv_at hl 0 rfl) ?_
  refine lv_iload_n hx hb dX6_begin_16 rfl (lv_at hl 3 rfl) ?_
  refine va_put (D := D) (ci := 6) (v := .int 900) (ty := .int) (C := RX6) (T := TX6) (N := 11) hx hb hg inGX6 tyX6 tyX6_ok nmX6 hown hK hP hD hS 1 rfl rfl 3 (by decide) (hg _ q_1_224) (fun _ h9 => h9) rfl (by decide +kernel) rfl rfl (px_len (px_sn (by decide) (px_sn (by decide) hrd_3))) dX6_begin_17 (fun H_3 locs_3 hP_3 hD_3 hS_3 => ?_)
  clear hP hD hS
  have hP : va_P D vwCl [(tp, .inl (y 0, 940, .inl ftp)), (rd, .inr (6, (((frd.set 1 (.ref tp)).set 2 (.int 0)).set 3 (.int 900))))] H_3 := hP_3
  have hD : va_D A [(tp, .inl (y 0, 940, .inl ftp)), (rd, .inr (6, (((frd.set 1 (.ref tp)).set 2 (.int 0)).set 3 (.int 900))))] := hD_3
  have hS := hS_3
  clear hP_3 hD_3 hS_3
  refine lv_aload_n hx hb dX6_begin_20 rfl (lv_at hl 0 rfl) ?_
  refine lv_iconst (v := 0) hx hb dX6_begin_21 (by decide) ?_
  refine va_put (D := D) (ci := 6) (v := .int 0) (ty := .int) (C := RX6) (T := TX6) (N := 11) hx hb hg inGX6 tyX6 tyX6_ok nmX6 hown hK hP hD hS 1 rfl rfl 4 (by decide) (hg _ q_1_225) (fun _ h9 => h9) rfl (by decide +kernel) rfl rfl (px_len (px_sn (by decide) (px_sn (by decide) (px_sn (by decide) hrd_4)))) dX6_begin_22 (fun H_4 locs_4 hP_4 hD_4 hS_4 => ?_)
  clear hP hD hS
  have hP : va_P D vwCl [(tp, .inl (y 0, 940, .inl ftp)), (rd, .inr (6, ((((frd.set 1 (.ref tp)).set 2 (.int 0)).set 3 (.int 900)).set 4 (.int 0))))] H_4 := hP_4
  have hD : va_D A [(tp, .inl (y 0, 940, .inl ftp)), (rd, .inr (6, ((((frd.set 1 (.ref tp)).set 2 (.int 0)).set 3 (.int 900)).set 4 (.int 0))))] := hD_4
  have hS := hS_4
  clear hP_4 hD_4 hS_4
  refine lv_aload_n hx hb dX6_begin_25 rfl (lv_at hl 0 rfl) ?_
  refine lv_iconst (v := 0) hx hb dX6_begin_26 (by decide) ?_
  refine va_put (D := D) (ci := 6) (v := .int 0) (ty := .int) (C := RX6) (T := TX6) (N := 11) hx hb hg inGX6 tyX6 tyX6_ok nmX6 hown hK hP hD hS 1 rfl rfl 9 (by decide) (hg _ q_1_238) (fun _ h9 => h9) rfl (by decide +kernel) rfl rfl (px_len (px_sn (by decide) (px_sn (by decide) (px_sn (by decide) (px_sn (by decide) hrd_9))))) dX6_begin_27 (fun H_5 locs_5 hP_5 hD_5 hS_5 => ?_)
  clear hP hD hS
  have hP : va_P D vwCl [(tp, .inl (y 0, 940, .inl ftp)), (rd, .inr (6, (((((frd.set 1 (.ref tp)).set 2 (.int 0)).set 3 (.int 900)).set 4 (.int 0)).set 9 (.int 0))))] H_5 := hP_5
  have hD : va_D A [(tp, .inl (y 0, 940, .inl ftp)), (rd, .inr (6, (((((frd.set 1 (.ref tp)).set 2 (.int 0)).set 3 (.int 900)).set 4 (.int 0)).set 9 (.int 0))))] := hD_5
  have hS := hS_5
  clear hP_5 hD_5 hS_5
  refine lv_aload_n hx hb dX6_begin_30 rfl (lv_at hl 0 rfl) ?_
  refine lv_iconst (v := 0) hx hb dX6_begin_31 (by decide) ?_
  refine va_put (D := D) (ci := 6) (v := .int 0) (ty := .int) (C := RX6) (T := TX6) (N := 11) hx hb hg inGX6 tyX6 tyX6_ok nmX6 hown hK hP hD hS 1 rfl rfl 10 (by decide) (hg _ q_2_0) (fun _ h9 => h9) rfl (by decide +kernel) rfl rfl (px_len (px_sn (by decide) (px_sn (by decide) (px_sn (by decide) (px_sn (by decide) (px_sn (by decide) hrd_10)))))) dX6_begin_32 (fun H_6 locs_6 hP_6 hD_6 hS_6 => ?_)
  clear hP hD hS
  have hP : va_P D vwCl [(tp, .inl (y 0, 940, .inl ftp)), (rd, .inr (6, ((((((frd.set 1 (.ref tp)).set 2 (.int 0)).set 3 (.int 900)).set 4 (.int 0)).set 9 (.int 0)).set 10 (.int 0))))] H_6 := hP_6
  have hD : va_D A [(tp, .inl (y 0, 940, .inl ftp)), (rd, .inr (6, ((((((frd.set 1 (.ref tp)).set 2 (.int 0)).set 3 (.int 900)).set 4 (.int 0)).set 9 (.int 0)).set 10 (.int 0))))] := hD_6
  have hS := hS_6
  clear hP_6 hD_6 hS_6
  refine lv_aload_n hx hb dX6_begin_35 rfl (lv_at hl 0 rfl) ?_
  have hPc_7 := hP.sub (ws' := [(rd, .inr (6, ((((((frd.set 1 (.ref tp)).set 2 (.int 0)).set 3 (.int 900)).set 4 (.int 0)).set 9 (.int 0)).set 10 (.int 0))))]) [1] rfl
  have hDc_7 := hD.sub (ws' := [(rd, .inr (6, ((((((frd.set 1 (.ref tp)).set 2 (.int 0)).set 3 (.int 900)).set 4 (.int 0)).set 9 (.int 0)).set 10 (.int 0))))]) [1] (by decide +kernel) rfl
  have hFc_7 := va_free (wc := [(rd, .inr (6, ((((((frd.set 1 (.ref tp)).set 2 (.int 0)).set 3 (.int 900)).set 4 (.int 0)).set 9 (.int 0)).set 10 (.int 0))))]) hD hS hA [1] rfl
  refine va_callv (va_runV (As := []) (rest := []) ⟨hx, hb, hml, hown, hg⟩ (c_X6_advance_900 l D y H_6.size rd ((((((frd.set 1 (.ref tp)).set 2 (.int 0)).set 3 (.int 900)).set 4 (.int 0)).set 9 (.int 0)).set 10 (.int 0)) (px_sn (by decide) (px_sn (by decide) (px_sn (by decide) (px_sn (by decide) (px_ss (px_sn (by decide) hrd_2)))))) (px_sn (by decide) (px_sn (by decide) (px_sn (by decide) (px_ss (px_sn (by decide) (px_sn (by decide) hrd_3)))))) (px_sn (by decide) (px_sn (by decide) (px_ss (px_sn (by decide) (px_sn (by decide) (px_sn (by decide) hrd_4)))))) (px_sn (by decide) (px_sn (by decide) (px_sn (by decide) (px_sn (by decide) (px_sn (by decide) (px_sn (by decide) hrd_5)))))) (px_sn (by decide) (px_sn (by decide) (px_sn (by decide) (px_sn (by decide) (px_sn (by decide) (px_sn (by decide) hrd_6))))))) (cwV 0 hg (px_gV q_2_200 q_2_201 q_2_202 q_1_6 q_2_203) rfl rfl rfl (by decide +kernel) ⟨Nat.le_of_ble_eq_true rfl, Nat.le_of_ble_eq_true rfl⟩) (px_preV hK hPc_7 hDc_7 (ci := 6) (q0 := 0) rfl rfl) rfl rfl hl.1 rfl (lv_room (Nat.le_of_ble_eq_true rfl)) dX6_begin_36 ⟨Nat.le_of_ble_eq_true rfl, Nat.le_of_ble_eq_true rfl⟩) hS (fun q _ h => hFc_7 q h) hFc_7 (fun u_7 t_7 H_7 locs_7 ht_7 hvm_7 hw_7 hB_7 hz_7 hk_7 hS_7 => ?_)
  refine W.cs (cells' := 0) (slots' := 0) rfl rfl ?_
  obtain ⟨hP1_7, hD1_7⟩ := hB_7
  rw [ht_7] at hP1_7
  obtain ⟨hP_7, hD_7⟩ := va_join (wr := [(tp, .inl (y 0, 940, .inl ftp))]) (w1 := [(rd, .inr (6, ((((((((frd.set 1 (.ref tp)).set 2 (.int 0)).set 3 (.int 900)).set 4 (.int 0)).set 9 (.int 0)).set 10 (.int 0)).set 6 (.int 0)).set 5 (.int 302))))]) hP hD [1] [0] rfl rfl (by decide +kernel) (by decide +kernel) hk_7 hFc_7 hP1_7 hD1_7
  clear hP hD hS hPc_7 hDc_7 hFc_7 hz_7 hk_7 hvm_7 ht_7 hP1_7 hD1_7
  have hP : va_P D vwCl [(tp, .inl (y 0, 940, .inl ftp)), (rd, .inr (6, ((((((((frd.set 1 (.ref tp)).set 2 (.int 0)).set 3 (.int 900)).set 4 (.int 0)).set 9 (.int 0)).set 10 (.int 0)).set 6 (.int 0)).set 5 (.int 302))))] H_7 := hP_7
  have hD : va_D A [(tp, .inl (y 0, 940, .inl ftp)), (rd, .inr (6, ((((((((frd.set 1 (.ref tp)).set 2 (.int 0)).set 3 (.int 900)).set 4 (.int 0)).set 9 (.int 0)).set 10 (.int 0)).set 6 (.int 0)).set 5 (.int 302))))] := hD_7
  have hS := hS_7
  clear hP_7 hD_7 hS_7
  have hP9 := hP.sub (ws' := [(tp, .inl (y 0, 940, .inl ftp)), (rd, .inr (6, ((((((((frd.set 1 (.ref tp)).set 2 (.int 0)).set 3 (.int 900)).set 4 (.int 0)).set 9 (.int 0)).set 10 (.int 0)).set 6 (.int 0)).set 5 (.int 302))))]) [0, 1] rfl
  have hD9 := hD.sub (ws' := [(tp, .inl (y 0, 940, .inl ftp)), (rd, .inr (6, ((((((((frd.set 1 (.ref tp)).set 2 (.int 0)).set 3 (.int 900)).set 4 (.int 0)).set 9 (.int 0)).set 10 (.int 0)).set 6 (.int 0)).set 5 (.int 302))))]) [0, 1] (by decide +kernel) rfl
  exact W.vret hx hb hr (fun t ht hW => ⟨⟨(), rfl, trivial, by rw [ht]; exact hP9, hD9⟩, hS.F ht⟩) hS.2.2 dX6_begin_39

set_option maxHeartbeats 4000000 in
set_option maxRecDepth 100000 in
theorem c_X6_advance_500 (l : Launch) (D : va_G) (y : Nat → ClassId) (sz : Nat) (rd : Nat) (frd : List Value) (hrd_2 : frd[2]? = some (.int 0)) (hrd_3 : frd[3]? = some (.int 500)) (hrd_4 : frd[4]? = some (.int 0)) (hrd_5 : frd[5]? = some (.int 302)) (hrd_6 : frd[6]? = some (.int 0)) : Met l yX6_advance (px_w yX6_advance cX6_advance 3 none) ({ frames := 0, cells := 0, slots := 0, locals := 0 }) (va_Pc [.ref rd] (px_P D y sz [(rd, .inr (6, frd))])) (va_Qv (fun (u : Unit) => True) (fun (u : Unit) t => va_P D vwCl [(rd, .inr (6, ((frd.set 6 (.int 0)).set 5 (.int 302))))] t.heap ∧ va_D (va_A [(rd, .inr (6, frd))] sz) [(rd, .inr (6, ((frd.set 6 (.int 0)).set 5 (.int 302))))]) (va_A [(rd, .inr (6, frd))] sz)) 0 0 (va_A [(rd, .inr (6, frd))] sz) := by
  refine Met.ofW (cc := cX6_advance) (maxL := 3) (ret := none) (by decide) rfl ?_
  intro p e s m args below meth c s₁ B hml hv
  obtain ⟨rfl, hsz, hP, hK, hD0⟩ := hv
  have hx := B.exec
  have hb := B.bytes
  have hr := B.returns
  have hts := atoms_spec (ws := px_w yX6_advance cX6_advance 3 none) B.pre
  have hg : ∀ w ∈ gw, w.before [.ref rd].toArray s = true := fun w h => hts w (List.mem_cons_of_mem _ h)
  have hown : s.vm.findClass RX6 = some m.cls := findClass_of_methodNamed B.named
  have hlocks := B.notSynchronized
  subst hsz
  have hD := hD0.self (sz := s.heap.size)
  generalize hAe : va_A [(rd, .inr (6, frd))] s.heap.size = A at hD ⊢
  have hA : ∀ q : Nat, s.heap.size ≤ q → A q := fun q h => by rw [← hAe]; exact Or.inr h
  have hS : va_S A s.heap s.heap [] := va_S.rf
  have hP : va_P D vwCl [(rd, .inr (6, frd))] s.heap := hP
  have hl := lv_entry ([.ref rd]) (n := 3) (Nat.le_of_ble_eq_true rfl)
  rw [lg_entry_eq]
  generalize (lg_sl ([.ref rd]) ++ List.replicate (3 - (lg_sl ([.ref rd])).length) Slot.unset).toArray = ls at hl ⊢
  have hl : lv_has ls 3 [(0, .ref rd)] := hl
  refine lv_aload_n hx hb dX6_advance_0 rfl (lv_at hl 0 rfl) ?_
  refine va_get (D := D) (ci := 6) (v := .int 0) (C := RX6) (T := TX6) (N := 11) hx hb hg inGX6 hown hK hP 0 rfl rfl 4 (by decide) (hg _ q_1_225) (fun _ h9 => h9) hrd_4 dX6_advance_1 ?_
  refine lv_aload_n hx hb dX6_advance_4 rfl (lv_at hl 0 rfl) ?_
  refine va_get (D := D) (ci := 6) (v := .int 0) (C := RX6) (T := TX6) (N := 11) hx hb hg inGX6 hown hK hP 0 rfl rfl 2 (by decide) (hg _ q_1_223) (fun _ h9 => h9) hrd_2 dX6_advance_5 ?_
  refine lv_icmp_ge (tgt := 52) hx hb dX6_advance_8 (by decide) (fun _ => ?_) (fun c_1 => absurd c_1 (by decide))
  refine lv_aload_n hx hb dX6_advance_52 rfl (lv_at hl 0 rfl) ?_
  refine lv_aload_n hx hb dX6_advance_53 rfl (lv_at hl 0 rfl) ?_
  refine va_get (D := D) (ci := 6) (v := .int 0) (C := RX6) (T := TX6) (N := 11) hx hb hg inGX6 hown hK hP 0 rfl rfl 4 (by decide) (hg _ q_1_225) (fun _ h9 => h9) hrd_4 dX6_advance_54 ?_
  refine va_put (D := D) (ci := 6) (v := .int 0) (ty := .int) (C := RX6) (T := TX6) (N := 11) hx hb hg inGX6 tyX6 tyX6_ok nmX6 hown hK hP hD hS 0 rfl rfl 6 (by decide) (hg _ q_1_229) (fun _ h9 => h9) rfl (by decide +kernel) rfl rfl (px_len hrd_6) dX6_advance_57 (fun H_2 locs_2 hP_2 hD_2 hS_2 => ?_)
  clear hP hD hS
  have hP : va_P D vwCl [(rd, .inr (6, (frd.set 6 (.int 0))))] H_2 := hP_2
  have hD : va_D A [(rd, .inr (6, (frd.set 6 (.int 0))))] := hD_2
  have hS := hS_2
  clear hP_2 hD_2 hS_2
  refine lv_aload_n hx hb dX6_advance_60 rfl (lv_at hl 0 rfl) ?_
  refine va_get (D := D) (ci := 6) (v := .int 0) (C := RX6) (T := TX6) (N := 11) hx hb hg inGX6 hown hK hP 0 rfl rfl 2 (by decide) (hg _ q_1_223) (fun _ h9 => h9) (px_sn (by decide) hrd_2) dX6_advance_61 ?_
  refine lv_aload_n hx hb dX6_advance_64 rfl (lv_at hl 0 rfl) ?_
  refine va_get (D := D) (ci := 6) (v := .int 500) (C := RX6) (T := TX6) (N := 11) hx hb hg inGX6 hown hK hP 0 rfl rfl 3 (by decide) (hg _ q_1_224) (fun _ h9 => h9) (px_sn (by decide) hrd_3) dX6_advance_65 ?_
  refine lv_icmp_le (tgt := 100) hx hb dX6_advance_68 (by decide) (fun _ => ?_) (fun c_3 => absurd c_3 (by decide))
  refine lv_aload_n hx hb dX6_advance_100 rfl (lv_at hl 0 rfl) ?_
  refine va_get (D := D) (ci := 6) (v := .int 0) (C := RX6) (T := TX6) (N := 11) hx hb hg inGX6 hown hK hP 0 rfl rfl 4 (by decide) (hg _ q_1_225) (fun _ h9 => h9) (px_sn (by decide) hrd_4) dX6_advance_101 ?_
  refine lv_aload_n hx hb dX6_advance_104 rfl (lv_at hl 0 rfl) ?_
  refine va_get (D := D) (ci := 6) (v := .int 0) (C := RX6) (T := TX6) (N := 11) hx hb hg inGX6 hown hK hP 0 rfl rfl 2 (by decide) (hg _ q_1_223) (fun _ h9 => h9) (px_sn (by decide) hrd_2) dX6_advance_105 ?_
  refine lv_icmp_lt (tgt := 121) hx hb dX6_advance_108 (by decide) (fun c_4 => absurd c_4 (by decide)) (fun _ => ?_)
  refine lv_aload_n hx hb dX6_advance_111 rfl (lv_at hl 0 rfl) ?_
  refine lv_sipush (v := 302) hx hb dX6_advance_112 (by decide) ?_
  refine va_put (D := D) (ci := 6) (v := .int 302) (ty := .int) (C := RX6) (T := TX6) (N := 11) hx hb hg inGX6 tyX6 tyX6_ok nmX6 hown hK hP hD hS 0 rfl rfl 5 (by decide) (hg _ q_1_226) (fun _ h9 => h9) rfl (by decide +kernel) rfl rfl (px_len (px_sn (by decide) hrd_5)) dX6_advance_115 (fun H_5 locs_5 hP_5 hD_5 hS_5 => ?_)
  clear hP hD hS
  have hP : va_P D vwCl [(rd, .inr (6, ((frd.set 6 (.int 0)).set 5 (.int 302))))] H_5 := hP_5
  have hD : va_D A [(rd, .inr (6, ((frd.set 6 (.int 0)).set 5 (.int 302))))] := hD_5
  have hS := hS_5
  clear hP_5 hD_5 hS_5
  refine lv_goto (tgt := 205) hx hb dX6_advance_118 (by decide) ?_
  have hP9 := hP.sub (ws' := [(rd, .inr (6, ((frd.set 6 (.int 0)).set 5 (.int 302))))]) [0] rfl
  have hD9 := hD.sub (ws' := [(rd, .inr (6, ((frd.set 6 (.int 0)).set 5 (.int 302))))]) [0] (by decide +kernel) rfl
  exact W.vret hx hb hr (fun t ht hW => ⟨⟨(), rfl, trivial, by rw [ht]; exact hP9, hD9⟩, hS.F ht⟩) hS.2.2 dX6_advance_205

set_option maxHeartbeats 4000000 in
set_option maxRecDepth 100000 in
theorem c_X6_begin_500 (l : Launch) (D : va_G) (y : Nat → ClassId) (sz : Nat) (rd : Nat) (tp : Nat) (ftp : Nat → Int32) (frd : List Value) (rt : Nat) (hrd_1 : frd[1]? = some (.ref rt)) (hrd_2 : frd[2]? = some (.int 0)) (hrd_3 : frd[3]? = some (.int 0)) (hrd_4 : frd[4]? = some (.int 0)) (hrd_5 : frd[5]? = some (.int 302)) (hrd_6 : frd[6]? = some (.int 0)) (hrd_9 : frd[9]? = some (.int 0)) (hrd_10 : frd[10]? = some (.int 0)) : Met l yX6_begin (px_w yX6_begin cX6_begin 4 none) ({ frames := 1, cells := 0, slots := 0, locals := 22 }) (va_Pc [.ref rd, .ref tp, .int 0, .int 500] (px_P D y sz [(tp, .inl (y 0, 940, .inl ftp)), (rd, .inr (6, frd))])) (va_Qv (fun (u : Unit) => True) (fun (u : Unit) t => va_P D vwCl [(tp, .inl (y 0, 940, .inl ftp)), (rd, .inr (6, ((((((((frd.set 1 (.ref tp)).set 2 (.int 0)).set 3 (.int 500)).set 4 (.int 0)).set 9 (.int 0)).set 10 (.int 0)).set 6 (.int 0)).set 5 (.int 302))))] t.heap ∧ va_D (va_A [(tp, .inl (y 0, 940, .inl ftp)), (rd, .inr (6, frd))] sz) [(tp, .inl (y 0, 940, .inl ftp)), (rd, .inr (6, ((((((((frd.set 1 (.ref tp)).set 2 (.int 0)).set 3 (.int 500)).set 4 (.int 0)).set 9 (.int 0)).set 10 (.int 0)).set 6 (.int 0)).set 5 (.int 302))))]) (va_A [(tp, .inl (y 0, 940, .inl ftp)), (rd, .inr (6, frd))] sz)) 0 0 (va_A [(tp, .inl (y 0, 940, .inl ftp)), (rd, .inr (6, frd))] sz) := by
  refine Met.ofW (cc := cX6_begin) (maxL := 4) (ret := none) (by decide) rfl ?_
  intro p e s m args below meth c s₁ B hml hv
  obtain ⟨rfl, hsz, hP, hK, hD0⟩ := hv
  have hx := B.exec
  have hb := B.bytes
  have hr := B.returns
  have hts := atoms_spec (ws := px_w yX6_begin cX6_begin 4 none) B.pre
  have hg : ∀ w ∈ gw, w.before [.ref rd, .ref tp, .int 0, .int 500].toArray s = true := fun w h => hts w (List.mem_cons_of_mem _ h)
  have hown : s.vm.findClass RX6 = some m.cls := findClass_of_methodNamed B.named
  have hlocks := B.notSynchronized
  subst hsz
  have hD := hD0.self (sz := s.heap.size)
  generalize hAe : va_A [(tp, .inl (y 0, 940, .inl ftp)), (rd, .inr (6, frd))] s.heap.size = A at hD ⊢
  have hA : ∀ q : Nat, s.heap.size ≤ q → A q := fun q h => by rw [← hAe]; exact Or.inr h
  have hS : va_S A s.heap s.heap [] := va_S.rf
  have hP : va_P D vwCl [(tp, .inl (y 0, 940, .inl ftp)), (rd, .inr (6, frd))] s.heap := hP
  have hl := lv_entry ([.ref rd, .ref tp, .int 0, .int 500]) (n := 4) (Nat.le_of_ble_eq_true rfl)
  rw [lg_entry_eq]
  generalize (lg_sl ([.ref rd, .ref tp, .int 0, .int 500]) ++ List.replicate (4 - (lg_sl ([.ref rd, .ref tp, .int 0, .int 500])).length) Slot.unset).toArray = ls at hl ⊢
  have hl : lv_has ls 4 [(0, .ref rd), (1, .ref tp), (2, .int 0), (3, .int 500)] := hl
  refine lv_aload_n hx hb dX6_begin_0 rfl (lv_at hl 0 rfl) ?_
  refine lv_aload_n hx hb dX6_begin_1 rfl (lv_at hl 1 rfl) ?_
  refine va_put (D := D) (ci := 6) (v := .ref tp) (ty := (.array .byte)) (C := RX6) (T := TX6) (N := 11) hx hb hg inGX6 tyX6 tyX6_ok nmX6 hown hK hP hD hS 1 rfl rfl 1 (by decide) (hg _ q_1_222) (fun _ h9 => h9) rfl (by decide +kernel) rfl rfl (px_len hrd_1) dX6_begin_2 (fun H_1 locs_1 hP_1 hD_1 hS_1 => ?_)
  clear hP hD hS
  have hP : va_P D vwCl [(tp, .inl (y 0, 940, .inl ftp)), (rd, .inr (6, (frd.set 1 (.ref tp))))] H_1 := hP_1
  have hD : va_D A [(tp, .inl (y 0, 940, .inl ftp)), (rd, .inr (6, (frd.set 1 (.ref tp))))] := hD_1
  have hS := hS_1
  clear hP_1 hD_1 hS_1
  refine lv_aload_n hx hb dX6_begin_5 rfl (lv_at hl 0 rfl) ?_
  refine lv_iload_n hx hb dX6_begin_6 rfl (lv_at hl 2 rfl) ?_
  refine lv_aload_n hx hb dX6_begin_7 rfl (lv_at hl 1 rfl) ?_
  refine va_alen (v := 940) hx hb hK hP 0 0 rfl rfl rfl dX6_begin_8 ?_
  refine va_mmin hx hb (hml.trans hl.1.symm) hown (hg _ q_2_197) (hg _ q_2_198) (hg _ q_1_16) (hg _ q_2_199) (Nat.le_of_ble_eq_true rfl) (Nat.le_of_ble_eq_true rfl) (Nat.le_of_ble_eq_true rfl) (Nat.le_of_ble_eq_true rfl) dX6_begin_9 ?_
  refine px_top (v := 0) (by decide) ?_
  refine va_put (D := D) (ci := 6) (v := .int 0) (ty := .int) (C := RX6) (T := TX6) (N := 11) hx hb hg inGX6 tyX6 tyX6_ok nmX6 hown hK hP hD hS 1 rfl rfl 2 (by decide) (hg _ q_1_223) (fun _ h9 => h9) rfl (by decide +kernel) rfl rfl (px_len (px_sn (by decide) hrd_2)) dX6_begin_12 (fun H_2 locs_2 hP_2 hD_2 hS_2 => ?_)
  clear hP hD hS
  have hP : va_P D vwCl [(tp, .inl (y 0, 940, .inl ftp)), (rd, .inr (6, ((frd.set 1 (.ref tp)).set 2 (.int 0))))] H_2 := hP_2
  have hD : va_D A [(tp, .inl (y 0, 940, .inl ftp)), (rd, .inr (6, ((frd.set 1 (.ref tp)).set 2 (.int 0))))] := hD_2
  have hS := hS_2
  clear hP_2 hD_2 hS_2
  refine lv_aload_n hx hb dX6_begin_15 rfl (lv_at hl 0 rfl) ?_
  refine lv_iload_n hx hb dX6_begin_16 rfl (lv_at hl 3 rfl) ?_
  refine va_put (D := D) (ci := 6) (v := .int 500) (ty := .int) (C := RX6) (T := TX6) (N := 11) hx hb hg inGX6 tyX6 tyX6_ok nmX6 hown hK hP hD hS 1 rfl rfl 3 (by decide) (hg _ q_1_224) (fun _ h9 => h9) rfl (by decide +kernel) rfl rfl (px_len (px_sn (by decide) (px_sn (by decide) hrd_3))) dX6_begin_17 (fun H_3 locs_3 hP_3 hD_3 hS_3 => ?_)
  clear hP hD hS
  have hP : va_P D vwCl [(tp, .inl (y 0, 940, .inl ftp)), (rd, .inr (6, (((frd.set 1 (.ref tp)).set 2 (.int 0)).set 3 (.int 500))))] H_3 := hP_3
  have hD : va_D A [(tp, .inl (y 0, 940, .inl ftp)), (rd, .inr (6, (((frd.set 1 (.ref tp)).set 2 (.int 0)).set 3 (.int 500))))] := hD_3
  have hS := hS_3
  clear hP_3 hD_3 hS_3
  refine lv_aload_n hx hb dX6_begin_20 rfl (lv_at hl 0 rfl) ?_
  refine lv_iconst (v := 0) hx hb dX6_begin_21 (by decide) ?_
  refine va_put (D := D) (ci := 6) (v := .int 0) (ty := .int) (C := RX6) (T := TX6) (N := 11) hx hb hg inGX6 tyX6 tyX6_ok nmX6 hown hK hP hD hS 1 rfl rfl 4 (by decide) (hg _ q_1_225) (fun _ h9 => h9) rfl (by decide +kernel) rfl rfl (px_len (px_sn (by decide) (px_sn (by decide) (px_sn (by decide) hrd_4)))) dX6_begin_22 (fun H_4 locs_4 hP_4 hD_4 hS_4 => ?_)
  clear hP hD hS
  have hP : va_P D vwCl [(tp, .inl (y 0, 940, .inl ftp)), (rd, .inr (6, ((((frd.set 1 (.ref tp)).set 2 (.int 0)).set 3 (.int 500)).set 4 (.int 0))))] H_4 := hP_4
  have hD : va_D A [(tp, .inl (y 0, 940, .inl ftp)), (rd, .inr (6, ((((frd.set 1 (.ref tp)).set 2 (.int 0)).set 3 (.int 500)).set 4 (.int 0))))] := hD_4
  have hS := hS_4
  clear hP_4 hD_4 hS_4
  refine lv_aload_n hx hb dX6_begin_25 rfl (lv_at hl 0 rfl) ?_
  refine lv_iconst (v := 0) hx hb dX6_begin_26 (by decide) ?_
  refine va_put (D := D) (ci := 6) (v := .int 0) (ty := .int) (C := RX6) (T := TX6) (N := 11) hx hb hg inGX6 tyX6 tyX6_ok nmX6 hown hK hP hD hS 1 rfl rfl 9 (by decide) (hg _ q_1_238) (fun _ h9 => h9) rfl (by decide +kernel) rfl rfl (px_len (px_sn (by decide) (px_sn (by decide) (px_sn (by decide) (px_sn (by decide) hrd_9))))) dX6_begin_27 (fun H_5 locs_5 hP_5 hD_5 hS_5 => ?_)
  clear hP hD hS
  have hP : va_P D vwCl [(tp, .inl (y 0, 940, .inl ftp)), (rd, .inr (6, (((((frd.set 1 (.ref tp)).set 2 (.int 0)).set 3 (.int 500)).set 4 (.int 0)).set 9 (.int 0))))] H_5 := hP_5
  have hD : va_D A [(tp, .inl (y 0, 940, .inl ftp)), (rd, .inr (6, (((((frd.set 1 (.ref tp)).set 2 (.int 0)).set 3 (.int 500)).set 4 (.int 0)).set 9 (.int 0))))] := hD_5
  have hS := hS_5
  clear hP_5 hD_5 hS_5
  refine lv_aload_n hx hb dX6_begin_30 rfl (lv_at hl 0 rfl) ?_
  refine lv_iconst (v := 0) hx hb dX6_begin_31 (by decide) ?_
  refine va_put (D := D) (ci := 6) (v := .int 0) (ty := .int) (C := RX6) (T := TX6) (N := 11) hx hb hg inGX6 tyX6 tyX6_ok nmX6 hown hK hP hD hS 1 rfl rfl 10 (by decide) (hg _ q_2_0) (fun _ h9 => h9) rfl (by decide +kernel) rfl rfl (px_len (px_sn (by decide) (px_sn (by decide) (px_sn (by decide) (px_sn (by decide) (px_sn (by decide) hrd_10)))))) dX6_begin_32 (fun H_6 locs_6 hP_6 hD_6 hS_6 => ?_)
  clear hP hD hS
  have hP : va_P D vwCl [(tp, .inl (y 0, 940, .inl ftp)), (rd, .inr (6, ((((((frd.set 1 (.ref tp)).set 2 (.int 0)).set 3 (.int 500)).set 4 (.int 0)).set 9 (.int 0)).set 10 (.int 0))))] H_6 := hP_6
  have hD : va_D A [(tp, .inl (y 0, 940, .inl ftp)), (rd, .inr (6, ((((((frd.set 1 (.ref tp)).set 2 (.int 0)).set 3 (.int 500)).set 4 (.int 0)).set 9 (.int 0)).set 10 (.int 0))))] := hD_6
  have hS := hS_6
  clear hP_6 hD_6 hS_6
  refine lv_aload_n hx hb dX6_begin_35 rfl (lv_at hl 0 rfl) ?_
  have hPc_7 := hP.sub (ws' := [(rd, .inr (6, ((((((frd.set 1 (.ref tp)).set 2 (.int 0)).set 3 (.int 500)).set 4 (.int 0)).set 9 (.int 0)).set 10 (.int 0))))]) [1] rfl
  have hDc_7 := hD.sub (ws' := [(rd, .inr (6, ((((((frd.set 1 (.ref tp)).set 2 (.int 0)).set 3 (.int 500)).set 4 (.int 0)).set 9 (.int 0)).set 10 (.int 0))))]) [1] (by decide +kernel) rfl
  have hFc_7 := va_free (wc := [(rd, .inr (6, ((((((frd.set 1 (.ref tp)).set 2 (.int 0)).set 3 (.int 500)).set 4 (.int 0)).set 9 (.int 0)).set 10 (.int 0))))]) hD hS hA [1] rfl
  refine va_callv (va_runV (As := []) (rest := []) ⟨hx, hb, hml, hown, hg⟩ (c_X6_advance_500 l D y H_6.size rd ((((((frd.set 1 (.ref tp)).set 2 (.int 0)).set 3 (.int 500)).set 4 (.int 0)).set 9 (.int 0)).set 10 (.int 0)) (px_sn (by decide) (px_sn (by decide) (px_sn (by decide) (px_sn (by decide) (px_ss (px_sn (by decide) hrd_2)))))) (px_sn (by decide) (px_sn (by decide) (px_sn (by decide) (px_ss (px_sn (by decide) (px_sn (by decide) hrd_3)))))) (px_sn (by decide) (px_sn (by decide) (px_ss (px_sn (by decide) (px_sn (by decide) (px_sn (by decide) hrd_4)))))) (px_sn (by decide) (px_sn (by decide) (px_sn (by decide) (px_sn (by decide) (px_sn (by decide) (px_sn (by decide) hrd_5)))))) (px_sn (by decide) (px_sn (by decide) (px_sn (by decide) (px_sn (by decide) (px_sn (by decide) (px_sn (by decide) hrd_6))))))) (cwV 0 hg (px_gV q_2_200 q_2_201 q_2_202 q_1_6 q_2_203) rfl rfl rfl (by decide +kernel) ⟨Nat.le_of_ble_eq_true rfl, Nat.le_of_ble_eq_true rfl⟩) (px_preV hK hPc_7 hDc_7 (ci := 6) (q0 := 0) rfl rfl) rfl rfl hl.1 rfl (lv_room (Nat.le_of_ble_eq_true rfl)) dX6_begin_36 ⟨Nat.le_of_ble_eq_true rfl, Nat.le_of_ble_eq_true rfl⟩) hS (fun q _ h => hFc_7 q h) hFc_7 (fun u_7 t_7 H_7 locs_7 ht_7 hvm_7 hw_7 hB_7 hz_7 hk_7 hS_7 => ?_)
  refine W.cs (cells' := 0) (slots' := 0) rfl rfl ?_
  obtain ⟨hP1_7, hD1_7⟩ := hB_7
  rw [ht_7] at hP1_7
  obtain ⟨hP_7, hD_7⟩ := va_join (wr := [(tp, .inl (y 0, 940, .inl ftp))]) (w1 := [(rd, .inr (6, ((((((((frd.set 1 (.ref tp)).set 2 (.int 0)).set 3 (.int 500)).set 4 (.int 0)).set 9 (.int 0)).set 10 (.int 0)).set 6 (.int 0)).set 5 (.int 302))))]) hP hD [1] [0] rfl rfl (by decide +kernel) (by decide +kernel) hk_7 hFc_7 hP1_7 hD1_7
  clear hP hD hS hPc_7 hDc_7 hFc_7 hz_7 hk_7 hvm_7 ht_7 hP1_7 hD1_7
  have hP : va_P D vwCl [(tp, .inl (y 0, 940, .inl ftp)), (rd, .inr (6, ((((((((frd.set 1 (.ref tp)).set 2 (.int 0)).set 3 (.int 500)).set 4 (.int 0)).set 9 (.int 0)).set 10 (.int 0)).set 6 (.int 0)).set 5 (.int 302))))] H_7 := hP_7
  have hD : va_D A [(tp, .inl (y 0, 940, .inl ftp)), (rd, .inr (6, ((((((((frd.set 1 (.ref tp)).set 2 (.int 0)).set 3 (.int 500)).set 4 (.int 0)).set 9 (.int 0)).set 10 (.int 0)).set 6 (.int 0)).set 5 (.int 302))))] := hD_7
  have hS := hS_7
  clear hP_7 hD_7 hS_7
  have hP9 := hP.sub (ws' := [(tp, .inl (y 0, 940, .inl ftp)), (rd, .inr (6, ((((((((frd.set 1 (.ref tp)).set 2 (.int 0)).set 3 (.int 500)).set 4 (.int 0)).set 9 (.int 0)).set 10 (.int 0)).set 6 (.int 0)).set 5 (.int 302))))]) [0, 1] rfl
  have hD9 := hD.sub (ws' := [(tp, .inl (y 0, 940, .inl ftp)), (rd, .inr (6, ((((((((frd.set 1 (.ref tp)).set 2 (.int 0)).set 3 (.int 500)).set 4 (.int 0)).set 9 (.int 0)).set 10 (.int 0)).set 6 (.int 0)).set 5 (.int 302))))]) [0, 1] (by decide +kernel) rfl
  exact W.vret hx hb hr (fun t ht hW => ⟨⟨(), rfl, trivial, by rw [ht]; exact hP9, hD9⟩, hS.F ht⟩) hS.2.2 dX6_begin_39

set_option maxHeartbeats 4000000 in
set_option maxRecDepth 100000 in
theorem c_X6_advance_200 (l : Launch) (D : va_G) (y : Nat → ClassId) (sz : Nat) (rd : Nat) (frd : List Value) (hrd_2 : frd[2]? = some (.int 0)) (hrd_3 : frd[3]? = some (.int 200)) (hrd_4 : frd[4]? = some (.int 0)) (hrd_5 : frd[5]? = some (.int 302)) (hrd_6 : frd[6]? = some (.int 0)) : Met l yX6_advance (px_w yX6_advance cX6_advance 3 none) ({ frames := 0, cells := 0, slots := 0, locals := 0 }) (va_Pc [.ref rd] (px_P D y sz [(rd, .inr (6, frd))])) (va_Qv (fun (u : Unit) => True) (fun (u : Unit) t => va_P D vwCl [(rd, .inr (6, ((frd.set 6 (.int 0)).set 5 (.int 302))))] t.heap ∧ va_D (va_A [(rd, .inr (6, frd))] sz) [(rd, .inr (6, ((frd.set 6 (.int 0)).set 5 (.int 302))))]) (va_A [(rd, .inr (6, frd))] sz)) 0 0 (va_A [(rd, .inr (6, frd))] sz) := by
  refine Met.ofW (cc := cX6_advance) (maxL := 3) (ret := none) (by decide) rfl ?_
  intro p e s m args below meth c s₁ B hml hv
  obtain ⟨rfl, hsz, hP, hK, hD0⟩ := hv
  have hx := B.exec
  have hb := B.bytes
  have hr := B.returns
  have hts := atoms_spec (ws := px_w yX6_advance cX6_advance 3 none) B.pre
  have hg : ∀ w ∈ gw, w.before [.ref rd].toArray s = true := fun w h => hts w (List.mem_cons_of_mem _ h)
  have hown : s.vm.findClass RX6 = some m.cls := findClass_of_methodNamed B.named
  have hlocks := B.notSynchronized
  subst hsz
  have hD := hD0.self (sz := s.heap.size)
  generalize hAe : va_A [(rd, .inr (6, frd))] s.heap.size = A at hD ⊢
  have hA : ∀ q : Nat, s.heap.size ≤ q → A q := fun q h => by rw [← hAe]; exact Or.inr h
  have hS : va_S A s.heap s.heap [] := va_S.rf
  have hP : va_P D vwCl [(rd, .inr (6, frd))] s.heap := hP
  have hl := lv_entry ([.ref rd]) (n := 3) (Nat.le_of_ble_eq_true rfl)
  rw [lg_entry_eq]
  generalize (lg_sl ([.ref rd]) ++ List.replicate (3 - (lg_sl ([.ref rd])).length) Slot.unset).toArray = ls at hl ⊢
  have hl : lv_has ls 3 [(0, .ref rd)] := hl
  refine lv_aload_n hx hb dX6_advance_0 rfl (lv_at hl 0 rfl) ?_
  refine va_get (D := D) (ci := 6) (v := .int 0) (C := RX6) (T := TX6) (N := 11) hx hb hg inGX6 hown hK hP 0 rfl rfl 4 (by decide) (hg _ q_1_225) (fun _ h9 => h9) hrd_4 dX6_advance_1 ?_
  refine lv_aload_n hx hb dX6_advance_4 rfl (lv_at hl 0 rfl) ?_
  refine va_get (D := D) (ci := 6) (v := .int 0) (C := RX6) (T := TX6) (N := 11) hx hb hg inGX6 hown hK hP 0 rfl rfl 2 (by decide) (hg _ q_1_223) (fun _ h9 => h9) hrd_2 dX6_advance_5 ?_
  refine lv_icmp_ge (tgt := 52) hx hb dX6_advance_8 (by decide) (fun _ => ?_) (fun c_1 => absurd c_1 (by decide))
  refine lv_aload_n hx hb dX6_advance_52 rfl (lv_at hl 0 rfl) ?_
  refine lv_aload_n hx hb dX6_advance_53 rfl (lv_at hl 0 rfl) ?_
  refine va_get (D := D) (ci := 6) (v := .int 0) (C := RX6) (T := TX6) (N := 11) hx hb hg inGX6 hown hK hP 0 rfl rfl 4 (by decide) (hg _ q_1_225) (fun _ h9 => h9) hrd_4 dX6_advance_54 ?_
  refine va_put (D := D) (ci := 6) (v := .int 0) (ty := .int) (C := RX6) (T := TX6) (N := 11) hx hb hg inGX6 tyX6 tyX6_ok nmX6 hown hK hP hD hS 0 rfl rfl 6 (by decide) (hg _ q_1_229) (fun _ h9 => h9) rfl (by decide +kernel) rfl rfl (px_len hrd_6) dX6_advance_57 (fun H_2 locs_2 hP_2 hD_2 hS_2 => ?_)
  clear hP hD hS
  have hP : va_P D vwCl [(rd, .inr (6, (frd.set 6 (.int 0))))] H_2 := hP_2
  have hD : va_D A [(rd, .inr (6, (frd.set 6 (.int 0))))] := hD_2
  have hS := hS_2
  clear hP_2 hD_2 hS_2
  refine lv_aload_n hx hb dX6_advance_60 rfl (lv_at hl 0 rfl) ?_
  refine va_get (D := D) (ci := 6) (v := .int 0) (C := RX6) (T := TX6) (N := 11) hx hb hg inGX6 hown hK hP 0 rfl rfl 2 (by decide) (hg _ q_1_223) (fun _ h9 => h9) (px_sn (by decide) hrd_2) dX6_advance_61 ?_
  refine lv_aload_n hx hb dX6_advance_64 rfl (lv_at hl 0 rfl) ?_
  refine va_get (D := D) (ci := 6) (v := .int 200) (C := RX6) (T := TX6) (N := 11) hx hb hg inGX6 hown hK hP 0 rfl rfl 3 (by decide) (hg _ q_1_224) (fun _ h9 => h9) (px_sn (by decide) hrd_3) dX6_advance_65 ?_
  refine lv_icmp_le (tgt := 100) hx hb dX6_advance_68 (by decide) (fun _ => ?_) (fun c_3 => absurd c_3 (by decide))
  refine lv_aload_n hx hb dX6_advance_100 rfl (lv_at hl 0 rfl) ?_
  refine va_get (D := D) (ci := 6) (v := .int 0) (C := RX6) (T := TX6) (N := 11) hx hb hg inGX6 hown hK hP 0 rfl rfl 4 (by decide) (hg _ q_1_225) (fun _ h9 => h9) (px_sn (by decide) hrd_4) dX6_advance_101 ?_
  refine lv_aload_n hx hb dX6_advance_104 rfl (lv_at hl 0 rfl) ?_
  refine va_get (D := D) (ci := 6) (v := .int 0) (C := RX6) (T := TX6) (N := 11) hx hb hg inGX6 hown hK hP 0 rfl rfl 2 (by decide) (hg _ q_1_223) (fun _ h9 => h9) (px_sn (by decide) hrd_2) dX6_advance_105 ?_
  refine lv_icmp_lt (tgt := 121) hx hb dX6_advance_108 (by decide) (fun c_4 => absurd c_4 (by decide)) (fun _ => ?_)
  refine lv_aload_n hx hb dX6_advance_111 rfl (lv_at hl 0 rfl) ?_
  refine lv_sipush (v := 302) hx hb dX6_advance_112 (by decide) ?_
  refine va_put (D := D) (ci := 6) (v := .int 302) (ty := .int) (C := RX6) (T := TX6) (N := 11) hx hb hg inGX6 tyX6 tyX6_ok nmX6 hown hK hP hD hS 0 rfl rfl 5 (by decide) (hg _ q_1_226) (fun _ h9 => h9) rfl (by decide +kernel) rfl rfl (px_len (px_sn (by decide) hrd_5)) dX6_advance_115 (fun H_5 locs_5 hP_5 hD_5 hS_5 => ?_)
  clear hP hD hS
  have hP : va_P D vwCl [(rd, .inr (6, ((frd.set 6 (.int 0)).set 5 (.int 302))))] H_5 := hP_5
  have hD : va_D A [(rd, .inr (6, ((frd.set 6 (.int 0)).set 5 (.int 302))))] := hD_5
  have hS := hS_5
  clear hP_5 hD_5 hS_5
  refine lv_goto (tgt := 205) hx hb dX6_advance_118 (by decide) ?_
  have hP9 := hP.sub (ws' := [(rd, .inr (6, ((frd.set 6 (.int 0)).set 5 (.int 302))))]) [0] rfl
  have hD9 := hD.sub (ws' := [(rd, .inr (6, ((frd.set 6 (.int 0)).set 5 (.int 302))))]) [0] (by decide +kernel) rfl
  exact W.vret hx hb hr (fun t ht hW => ⟨⟨(), rfl, trivial, by rw [ht]; exact hP9, hD9⟩, hS.F ht⟩) hS.2.2 dX6_advance_205

set_option maxHeartbeats 4000000 in
set_option maxRecDepth 100000 in
theorem c_X6_begin_200 (l : Launch) (D : va_G) (y : Nat → ClassId) (sz : Nat) (rd : Nat) (tp : Nat) (ftp : Nat → Int32) (frd : List Value) (rt : Nat) (hrd_1 : frd[1]? = some (.ref rt)) (hrd_2 : frd[2]? = some (.int 0)) (hrd_3 : frd[3]? = some (.int 0)) (hrd_4 : frd[4]? = some (.int 0)) (hrd_5 : frd[5]? = some (.int 302)) (hrd_6 : frd[6]? = some (.int 0)) (hrd_9 : frd[9]? = some (.int 0)) (hrd_10 : frd[10]? = some (.int 0)) : Met l yX6_begin (px_w yX6_begin cX6_begin 4 none) ({ frames := 1, cells := 0, slots := 0, locals := 22 }) (va_Pc [.ref rd, .ref tp, .int 0, .int 200] (px_P D y sz [(tp, .inl (y 0, 940, .inl ftp)), (rd, .inr (6, frd))])) (va_Qv (fun (u : Unit) => True) (fun (u : Unit) t => va_P D vwCl [(tp, .inl (y 0, 940, .inl ftp)), (rd, .inr (6, ((((((((frd.set 1 (.ref tp)).set 2 (.int 0)).set 3 (.int 200)).set 4 (.int 0)).set 9 (.int 0)).set 10 (.int 0)).set 6 (.int 0)).set 5 (.int 302))))] t.heap ∧ va_D (va_A [(tp, .inl (y 0, 940, .inl ftp)), (rd, .inr (6, frd))] sz) [(tp, .inl (y 0, 940, .inl ftp)), (rd, .inr (6, ((((((((frd.set 1 (.ref tp)).set 2 (.int 0)).set 3 (.int 200)).set 4 (.int 0)).set 9 (.int 0)).set 10 (.int 0)).set 6 (.int 0)).set 5 (.int 302))))]) (va_A [(tp, .inl (y 0, 940, .inl ftp)), (rd, .inr (6, frd))] sz)) 0 0 (va_A [(tp, .inl (y 0, 940, .inl ftp)), (rd, .inr (6, frd))] sz) := by
  refine Met.ofW (cc := cX6_begin) (maxL := 4) (ret := none) (by decide) rfl ?_
  intro p e s m args below meth c s₁ B hml hv
  obtain ⟨rfl, hsz, hP, hK, hD0⟩ := hv
  have hx := B.exec
  have hb := B.bytes
  have hr := B.returns
  have hts := atoms_spec (ws := px_w yX6_begin cX6_begin 4 none) B.pre
  have hg : ∀ w ∈ gw, w.before [.ref rd, .ref tp, .int 0, .int 200].toArray s = true := fun w h => hts w (List.mem_cons_of_mem _ h)
  have hown : s.vm.findClass RX6 = some m.cls := findClass_of_methodNamed B.named
  have hlocks := B.notSynchronized
  subst hsz
  have hD := hD0.self (sz := s.heap.size)
  generalize hAe : va_A [(tp, .inl (y 0, 940, .inl ftp)), (rd, .inr (6, frd))] s.heap.size = A at hD ⊢
  have hA : ∀ q : Nat, s.heap.size ≤ q → A q := fun q h => by rw [← hAe]; exact Or.inr h
  have hS : va_S A s.heap s.heap [] := va_S.rf
  have hP : va_P D vwCl [(tp, .inl (y 0, 940, .inl ftp)), (rd, .inr (6, frd))] s.heap := hP
  have hl := lv_entry ([.ref rd, .ref tp, .int 0, .int 200]) (n := 4) (Nat.le_of_ble_eq_true rfl)
  rw [lg_entry_eq]
  generalize (lg_sl ([.ref rd, .ref tp, .int 0, .int 200]) ++ List.replicate (4 - (lg_sl ([.ref rd, .ref tp, .int 0, .int 200])).length) Slot.unset).toArray = ls at hl ⊢
  have hl : lv_has ls 4 [(0, .ref rd), (1, .ref tp), (2, .int 0), (3, .int 200)] := hl
  refine lv_aload_n hx hb dX6_begin_0 rfl (lv_at hl 0 rfl) ?_
  refine lv_aload_n hx hb dX6_begin_1 rfl (lv_at hl 1 rfl) ?_
  refine va_put (D := D) (ci := 6) (v := .ref tp) (ty := (.array .byte)) (C := RX6) (T := TX6) (N := 11) hx hb hg inGX6 tyX6 tyX6_ok nmX6 hown hK hP hD hS 1 rfl rfl 1 (by decide) (hg _ q_1_222) (fun _ h9 => h9) rfl (by decide +kernel) rfl rfl (px_len hrd_1) dX6_begin_2 (fun H_1 locs_1 hP_1 hD_1 hS_1 => ?_)
  clear hP hD hS
  have hP : va_P D vwCl [(tp, .inl (y 0, 940, .inl ftp)), (rd, .inr (6, (frd.set 1 (.ref tp))))] H_1 := hP_1
  have hD : va_D A [(tp, .inl (y 0, 940, .inl ftp)), (rd, .inr (6, (frd.set 1 (.ref tp))))] := hD_1
  have hS := hS_1
  clear hP_1 hD_1 hS_1
  refine lv_aload_n hx hb dX6_begin_5 rfl (lv_at hl 0 rfl) ?_
  refine lv_iload_n hx hb dX6_begin_6 rfl (lv_at hl 2 rfl) ?_
  refine lv_aload_n hx hb dX6_begin_7 rfl (lv_at hl 1 rfl) ?_
  refine va_alen (v := 940) hx hb hK hP 0 0 rfl rfl rfl dX6_begin_8 ?_
  refine va_mmin hx hb (hml.trans hl.1.symm) hown (hg _ q_2_197) (hg _ q_2_198) (hg _ q_1_16) (hg _ q_2_199) (Nat.le_of_ble_eq_true rfl) (Nat.le_of_ble_eq_true rfl) (Nat.le_of_ble_eq_true rfl) (Nat.le_of_ble_eq_true rfl) dX6_begin_9 ?_
  refine px_top (v := 0) (by decide) ?_
  refine va_put (D := D) (ci := 6) (v := .int 0) (ty := .int) (C := RX6) (T := TX6) (N := 11) hx hb hg inGX6 tyX6 tyX6_ok nmX6 hown hK hP hD hS 1 rfl rfl 2 (by decide) (hg _ q_1_223) (fun _ h9 => h9) rfl (by decide +kernel) rfl rfl (px_len (px_sn (by decide) hrd_2)) dX6_begin_12 (fun H_2 locs_2 hP_2 hD_2 hS_2 => ?_)
  clear hP hD hS
  have hP : va_P D vwCl [(tp, .inl (y 0, 940, .inl ftp)), (rd, .inr (6, ((frd.set 1 (.ref tp)).set 2 (.int 0))))] H_2 := hP_2
  have hD : va_D A [(tp, .inl (y 0, 940, .inl ftp)), (rd, .inr (6, ((frd.set 1 (.ref tp)).set 2 (.int 0))))] := hD_2
  have hS := hS_2
  clear hP_2 hD_2 hS_2
  refine lv_aload_n hx hb dX6_begin_15 rfl (lv_at hl 0 rfl) ?_
  refine lv_iload_n hx hb dX6_begin_16 rfl (lv_at hl 3 rfl) ?_
  refine va_put (D := D) (ci := 6) (v := .int 200) (ty := .int) (C := RX6) (T := TX6) (N := 11) hx hb hg inGX6 tyX6 tyX6_ok nmX6 hown hK hP hD hS 1 rfl rfl 3 (by decide) (hg _ q_1_224) (fun _ h9 => h9) rfl (by decide +kernel) rfl rfl (px_len (px_sn (by decide) (px_sn (by decide) hrd_3))) dX6_begin_17 (fun H_3 locs_3 hP_3 hD_3 hS_3 => ?_)
  clear hP hD hS
  have hP : va_P D vwCl [(tp, .inl (y 0, 940, .inl ftp)), (rd, .inr (6, (((frd.set 1 (.ref tp)).set 2 (.int 0)).set 3 (.int 200))))] H_3 := hP_3
  have hD : va_D A [(tp, .inl (y 0, 940, .inl ftp)), (rd, .inr (6, (((frd.set 1 (.ref tp)).set 2 (.int 0)).set 3 (.int 200))))] := hD_3
  have hS := hS_3
  clear hP_3 hD_3 hS_3
  refine lv_aload_n hx hb dX6_begin_20 rfl (lv_at hl 0 rfl) ?_
  refine lv_iconst (v := 0) hx hb dX6_begin_21 (by decide) ?_
  refine va_put (D := D) (ci := 6) (v := .int 0) (ty := .int) (C := RX6) (T := TX6) (N := 11) hx hb hg inGX6 tyX6 tyX6_ok nmX6 hown hK hP hD hS 1 rfl rfl 4 (by decide) (hg _ q_1_225) (fun _ h9 => h9) rfl (by decide +kernel) rfl rfl (px_len (px_sn (by decide) (px_sn (by decide) (px_sn (by decide) hrd_4)))) dX6_begin_22 (fun H_4 locs_4 hP_4 hD_4 hS_4 => ?_)
  clear hP hD hS
  have hP : va_P D vwCl [(tp, .inl (y 0, 940, .inl ftp)), (rd, .inr (6, ((((frd.set 1 (.ref tp)).set 2 (.int 0)).set 3 (.int 200)).set 4 (.int 0))))] H_4 := hP_4
  have hD : va_D A [(tp, .inl (y 0, 940, .inl ftp)), (rd, .inr (6, ((((frd.set 1 (.ref tp)).set 2 (.int 0)).set 3 (.int 200)).set 4 (.int 0))))] := hD_4
  have hS := hS_4
  clear hP_4 hD_4 hS_4
  refine lv_aload_n hx hb dX6_begin_25 rfl (lv_at hl 0 rfl) ?_
  refine lv_iconst (v := 0) hx hb dX6_begin_26 (by decide) ?_
  refine va_put (D := D) (ci := 6) (v := .int 0) (ty := .int) (C := RX6) (T := TX6) (N := 11) hx hb hg inGX6 tyX6 tyX6_ok nmX6 hown hK hP hD hS 1 rfl rfl 9 (by decide) (hg _ q_1_238) (fun _ h9 => h9) rfl (by decide +kernel) rfl rfl (px_len (px_sn (by decide) (px_sn (by decide) (px_sn (by decide) (px_sn (by decide) hrd_9))))) dX6_begin_27 (fun H_5 locs_5 hP_5 hD_5 hS_5 => ?_)
  clear hP hD hS
  have hP : va_P D vwCl [(tp, .inl (y 0, 940, .inl ftp)), (rd, .inr (6, (((((frd.set 1 (.ref tp)).set 2 (.int 0)).set 3 (.int 200)).set 4 (.int 0)).set 9 (.int 0))))] H_5 := hP_5
  have hD : va_D A [(tp, .inl (y 0, 940, .inl ftp)), (rd, .inr (6, (((((frd.set 1 (.ref tp)).set 2 (.int 0)).set 3 (.int 200)).set 4 (.int 0)).set 9 (.int 0))))] := hD_5
  have hS := hS_5
  clear hP_5 hD_5 hS_5
  refine lv_aload_n hx hb dX6_begin_30 rfl (lv_at hl 0 rfl) ?_
  refine lv_iconst (v := 0) hx hb dX6_begin_31 (by decide) ?_
  refine va_put (D := D) (ci := 6) (v := .int 0) (ty := .int) (C := RX6) (T := TX6) (N := 11) hx hb hg inGX6 tyX6 tyX6_ok nmX6 hown hK hP hD hS 1 rfl rfl 10 (by decide) (hg _ q_2_0) (fun _ h9 => h9) rfl (by decide +kernel) rfl rfl (px_len (px_sn (by decide) (px_sn (by decide) (px_sn (by decide) (px_sn (by decide) (px_sn (by decide) hrd_10)))))) dX6_begin_32 (fun H_6 locs_6 hP_6 hD_6 hS_6 => ?_)
  clear hP hD hS
  have hP : va_P D vwCl [(tp, .inl (y 0, 940, .inl ftp)), (rd, .inr (6, ((((((frd.set 1 (.ref tp)).set 2 (.int 0)).set 3 (.int 200)).set 4 (.int 0)).set 9 (.int 0)).set 10 (.int 0))))] H_6 := hP_6
  have hD : va_D A [(tp, .inl (y 0, 940, .inl ftp)), (rd, .inr (6, ((((((frd.set 1 (.ref tp)).set 2 (.int 0)).set 3 (.int 200)).set 4 (.int 0)).set 9 (.int 0)).set 10 (.int 0))))] := hD_6
  have hS := hS_6
  clear hP_6 hD_6 hS_6
  refine lv_aload_n hx hb dX6_begin_35 rfl (lv_at hl 0 rfl) ?_
  have hPc_7 := hP.sub (ws' := [(rd, .inr (6, ((((((frd.set 1 (.ref tp)).set 2 (.int 0)).set 3 (.int 200)).set 4 (.int 0)).set 9 (.int 0)).set 10 (.int 0))))]) [1] rfl
  have hDc_7 := hD.sub (ws' := [(rd, .inr (6, ((((((frd.set 1 (.ref tp)).set 2 (.int 0)).set 3 (.int 200)).set 4 (.int 0)).set 9 (.int 0)).set 10 (.int 0))))]) [1] (by decide +kernel) rfl
  have hFc_7 := va_free (wc := [(rd, .inr (6, ((((((frd.set 1 (.ref tp)).set 2 (.int 0)).set 3 (.int 200)).set 4 (.int 0)).set 9 (.int 0)).set 10 (.int 0))))]) hD hS hA [1] rfl
  refine va_callv (va_runV (As := []) (rest := []) ⟨hx, hb, hml, hown, hg⟩ (c_X6_advance_200 l D y H_6.size rd ((((((frd.set 1 (.ref tp)).set 2 (.int 0)).set 3 (.int 200)).set 4 (.int 0)).set 9 (.int 0)).set 10 (.int 0)) (px_sn (by decide) (px_sn (by decide) (px_sn (by decide) (px_sn (by decide) (px_ss (px_sn (by decide) hrd_2)))))) (px_sn (by decide) (px_sn (by decide) (px_sn (by decide) (px_ss (px_sn (by decide) (px_sn (by decide) hrd_3)))))) (px_sn (by decide) (px_sn (by decide) (px_ss (px_sn (by decide) (px_sn (by decide) (px_sn (by decide) hrd_4)))))) (px_sn (by decide) (px_sn (by decide) (px_sn (by decide) (px_sn (by decide) (px_sn (by decide) (px_sn (by decide) hrd_5)))))) (px_sn (by decide) (px_sn (by decide) (px_sn (by decide) (px_sn (by decide) (px_sn (by decide) (px_sn (by decide) hrd_6))))))) (cwV 0 hg (px_gV q_2_200 q_2_201 q_2_202 q_1_6 q_2_203) rfl rfl rfl (by decide +kernel) ⟨Nat.le_of_ble_eq_true rfl, Nat.le_of_ble_eq_true rfl⟩) (px_preV hK hPc_7 hDc_7 (ci := 6) (q0 := 0) rfl rfl) rfl rfl hl.1 rfl (lv_room (Nat.le_of_ble_eq_true rfl)) dX6_begin_36 ⟨Nat.le_of_ble_eq_true rfl, Nat.le_of_ble_eq_true rfl⟩) hS (fun q _ h => hFc_7 q h) hFc_7 (fun u_7 t_7 H_7 locs_7 ht_7 hvm_7 hw_7 hB_7 hz_7 hk_7 hS_7 => ?_)
  refine W.cs (cells' := 0) (slots' := 0) rfl rfl ?_
  obtain ⟨hP1_7, hD1_7⟩ := hB_7
  rw [ht_7] at hP1_7
  obtain ⟨hP_7, hD_7⟩ := va_join (wr := [(tp, .inl (y 0, 940, .inl ftp))]) (w1 := [(rd, .inr (6, ((((((((frd.set 1 (.ref tp)).set 2 (.int 0)).set 3 (.int 200)).set 4 (.int 0)).set 9 (.int 0)).set 10 (.int 0)).set 6 (.int 0)).set 5 (.int 302))))]) hP hD [1] [0] rfl rfl (by decide +kernel) (by decide +kernel) hk_7 hFc_7 hP1_7 hD1_7
  clear hP hD hS hPc_7 hDc_7 hFc_7 hz_7 hk_7 hvm_7 ht_7 hP1_7 hD1_7
  have hP : va_P D vwCl [(tp, .inl (y 0, 940, .inl ftp)), (rd, .inr (6, ((((((((frd.set 1 (.ref tp)).set 2 (.int 0)).set 3 (.int 200)).set 4 (.int 0)).set 9 (.int 0)).set 10 (.int 0)).set 6 (.int 0)).set 5 (.int 302))))] H_7 := hP_7
  have hD : va_D A [(tp, .inl (y 0, 940, .inl ftp)), (rd, .inr (6, ((((((((frd.set 1 (.ref tp)).set 2 (.int 0)).set 3 (.int 200)).set 4 (.int 0)).set 9 (.int 0)).set 10 (.int 0)).set 6 (.int 0)).set 5 (.int 302))))] := hD_7
  have hS := hS_7
  clear hP_7 hD_7 hS_7
  have hP9 := hP.sub (ws' := [(tp, .inl (y 0, 940, .inl ftp)), (rd, .inr (6, ((((((((frd.set 1 (.ref tp)).set 2 (.int 0)).set 3 (.int 200)).set 4 (.int 0)).set 9 (.int 0)).set 10 (.int 0)).set 6 (.int 0)).set 5 (.int 302))))]) [0, 1] rfl
  have hD9 := hD.sub (ws' := [(tp, .inl (y 0, 940, .inl ftp)), (rd, .inr (6, ((((((((frd.set 1 (.ref tp)).set 2 (.int 0)).set 3 (.int 200)).set 4 (.int 0)).set 9 (.int 0)).set 10 (.int 0)).set 6 (.int 0)).set 5 (.int 302))))]) [0, 1] (by decide +kernel) rfl
  exact W.vret hx hb hr (fun t ht hW => ⟨⟨(), rfl, trivial, by rw [ht]; exact hP9, hD9⟩, hS.F ht⟩) hS.2.2 dX6_begin_39

set_option maxHeartbeats 4000000 in
set_option maxRecDepth 100000 in
theorem c_X6_isAt (l : Launch) (D : va_G) (y : Nat → ClassId) (sz : Nat) (rd : Nat) (frd : List Value) (hrd_5 : frd[5]? = some (.int 302)) : Met l yX6_isAt (px_w yX6_isAt cX6_isAt 2 (some .boolean)) ({ frames := 0, cells := 0, slots := 0, locals := 0 }) (va_Pc [.ref rd, .int 302] (px_P D y sz [(rd, .inr (6, frd))])) (vp_Si (fun r : Int32 => r = 1)) 0 0 (fun _ => False) := by
  refine Met.ofW (cc := cX6_isAt) (maxL := 2) (ret := (some .boolean)) (by decide) rfl ?_
  intro p e s m args below meth c s₁ B hml hv
  obtain ⟨rfl, hsz, hP, hK, hD0⟩ := hv
  have hx := B.exec
  have hb := B.bytes
  have hr := B.returns
  have hts := atoms_spec (ws := px_w yX6_isAt cX6_isAt 2 (some .boolean)) B.pre
  have hg : ∀ w ∈ gw, w.before [.ref rd, .int 302].toArray s = true := fun w h => hts w (List.mem_cons_of_mem _ h)
  have hown : s.vm.findClass RX6 = some m.cls := findClass_of_methodNamed B.named
  have hlocks := B.notSynchronized
  subst hsz
  have hD := hD0
  have hP : va_P D vwCl [(rd, .inr (6, frd))] s.heap := hP
  have hl := lv_entry ([.ref rd, .int 302]) (n := 2) (Nat.le_of_ble_eq_true rfl)
  rw [lg_entry_eq]
  generalize (lg_sl ([.ref rd, .int 302]) ++ List.replicate (2 - (lg_sl ([.ref rd, .int 302])).length) Slot.unset).toArray = ls at hl ⊢
  have hl : lv_has ls 2 [(0, .ref rd), (1, .int 302)] := hl
  refine lv_aload_n hx hb dX6_isAt_0 rfl (lv_at hl 0 rfl) ?_
  refine va_get (D := D) (ci := 6) (v := .int 302) (C := RX6) (T := TX6) (N := 11) hx hb hg inGX6 hown hK hP 0 rfl rfl 5 (by decide) (hg _ q_1_226) (fun _ h9 => h9) hrd_5 dX6_isAt_1 ?_
  refine lv_iload_n hx hb dX6_isAt_4 rfl (lv_at hl 1 rfl) ?_
  refine lv_icmp_ne (tgt := 12) hx hb dX6_isAt_5 (by decide) (fun c_1 => absurd c_1 (by decide)) (fun _ => ?_)
  refine lv_iconst (v := 1) hx hb dX6_isAt_8 (by decide) ?_
  refine lv_goto (tgt := 13) hx hb dX6_isAt_9 (by decide) ?_
  exact W.zret (v := 1) hx hb hr (by decide) (fun t ht hW => ⟨_, rfl, rfl, ht⟩) (fun q h => by cases h) dX6_isAt_13
