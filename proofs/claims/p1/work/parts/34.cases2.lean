set_option maxHeartbeats 4000000 in
set_option maxRecDepth 100000 in
theorem law_16 {p : Program} {l : Launch} {e : Env} {s : State} {m : MethodId} {below : List Frame} {meth : Method} {c : Code} {b : Nat} {xs : Nat → Int32} {D : va_G} {y : Nat → ClassId} {ad : Nat → Nat} {bb : Nat → Int32} (hst : l.stackTraces = false) (C0 : lw_At p s m meth c b 6 xs) (hK : va_K D vwCl (px_tys y) s) (hYY : px_Y ad bb (fun q : Nat => s.heap.size ≤ q) s s.heap) (x : Nat) (mo : Nat) (ou : Nat) (fx : List Value) (g : Nat) (fg : List Value) (fmo : List Value) (ms : Nat) (fms : Nat → Int32) (hx_3 : px_g fx 3 (.ref g)) (hg_1 : px_g fg 1 (.int 0)) (hmo_0 : px_g fmo 0 (.int 0)) (hmo_6 : px_g fmo 6 (.ref ms)) (hms_e1 : fms 1 = 0) {H : Heap} {locs : List Loc} {ls : Array Slot} (hP : va_P D vwCl [px_o x 10 fx, px_o g 2 fg, px_o mo 11 fmo, px_i ms (y 1) 765 fms] H) (hD : va_D (fun q : Nat => s.heap.size ≤ q) [px_o x 10 fx, px_o g 2 fg, px_o mo 11 fmo, px_i ms (y 1) 765 fms]) (hS : va_S (fun q : Nat => s.heap.size ≤ q) s.heap H locs) (hl : lv_has ls 8 [(4, .int 0), (3, .ref ou), (2, .ref mo), (1, .ref x), (0, .ref b)]) : W p l e room_1 s m #[Value.ref b] below meth c H locs 77 199433 (lw_Z below #[Value.ref b] s) (F0 m 821 ls []) := by
  obtain ⟨hx, hb, hr, hml, hown, hts, hX, hbl, hlocks, hgv⟩ := id C0
  have hg := gw_hts hts
  have hown : s.vm.findClass RL = some m.cls := hown
  have hXX := hYY.x
  generalize hAe : (fun q : Nat => s.heap.size ≤ q) = A at hYY hD hS
  have hA : ∀ q : Nat, s.heap.size ≤ q → A q := fun q h => by rw [← hAe]; exact h
  have hbA : ¬ A b := by rw [← hAe]; exact Nat.not_le.mpr hbl
  refine lv_aload_n hx hb dL_law_821 rfl (lv_at hl 3 rfl) ?_
  refine lv_aload_n hx hb dL_law_822 rfl (lv_at hl 4 rfl) ?_
  refine lv_iload hx hb dL_law_823 (lv_at hl 0 rfl) ?_
  refine lv_iconst (v := 1) hx hb dL_law_825 (by decide) ?_
  refine lv_iadd hx hb dL_law_826 ?_
  refine px_top (v := 1) (by decide) ?_
  refine va_sld hx hb hX hbl hbA hS (i := 1) (px_in (by decide)) dL_law_827 ?_
  refine px_top (v := xs 1) rfl ?_
  refine lv_aload_n hx hb dL_law_828 rfl (lv_at hl 4 rfl) ?_
  refine lv_iload hx hb dL_law_829 (lv_at hl 0 rfl) ?_
  refine lv_iconst (v := 2) hx hb dL_law_831 (by decide) ?_
  refine lv_iadd hx hb dL_law_832 ?_
  refine px_top (v := 2) (by decide) ?_
  refine va_sld hx hb hX hbl hbA hS (i := 2) (px_in (by decide)) dL_law_833 ?_
  refine px_top (v := xs 2) rfl ?_
  refine lv_aload_n hx hb dL_law_834 rfl (lv_at hl 4 rfl) ?_
  refine lv_iload hx hb dL_law_835 (lv_at hl 0 rfl) ?_
  refine lv_iconst (v := 3) hx hb dL_law_837 (by decide) ?_
  refine lv_iadd hx hb dL_law_838 ?_
  refine px_top (v := 3) (by decide) ?_
  refine va_sld hx hb hX hbl hbA hS (i := 3) (px_in (by decide)) dL_law_839 ?_
  refine px_top (v := xs 3) rfl ?_
  refine lv_aload_n hx hb dL_law_840 rfl (lv_at hl 1 rfl) ?_
  have hPc_1 := hP.sub (ws' := [px_o x 10 fx, px_o g 2 fg]) [0, 1] rfl
  have hDc_1 := hD.sub (ws' := [px_o x 10 fx, px_o g 2 fg]) [0, 1] (by decide +kernel) rfl
  have hFc_1 := va_free (wc := [px_o x 10 fx, px_o g 2 fg]) hD hS hA [0, 1] rfl
  refine va_calli (vx_runSW (As := [.ref x, .int (xs 1), .int (xs 2), .int (xs 3), .ref ou]) (rest := []) ⟨hx, hb, hml, hown, hg⟩ (c_L_next l D y H.size ad bb hst x ou fx g fg (xs 1) (xs 2) (xs 3) hx_3 hg_1) (vx_cwSW 5 hg (px_gSW q_6_71 q_6_72 q_1_0 q_6_73) rfl rfl rfl (by decide +kernel) ⟨Nat.le_of_ble_eq_true rfl, Nat.le_of_ble_eq_true rfl⟩) (px_preSY hK hPc_1 hDc_1 hYY hS hFc_1) rfl rfl hl.1 rfl (lv_room (Nat.le_of_ble_eq_true rfl)) dL_law_841 ⟨Nat.le_of_ble_eq_true rfl, Nat.le_of_ble_eq_true rfl⟩) hS (fun q _ h => hFc_1 q h) hFc_1 (fun r_1 u_1 t_1 H_1 locs_1 ht_1 hvm_1 hw_1 hB_1 hz_1 hk_1 hS_1 => ?_)
  refine W.cs (cells' := 78) (slots' := 199439) rfl rfl ?_
  obtain ⟨hP_1, hD_1⟩ := va_join (wr := [px_o mo 11 fmo, px_i ms (y 1) 765 fms]) (w1 := []) hP hD [0, 1] [2, 3] rfl rfl (by decide +kernel) (by decide +kernel) hk_1 hFc_1 (fun k q h => by simp at h) ⟨fun i j p q h => by simp at h, fun k q h => by simp at h⟩
  clear hP hD hS hPc_1 hDc_1 hFc_1 hz_1 hk_1 hvm_1 ht_1 hB_1
  have hP : va_P D vwCl [px_o mo 11 fmo, px_i ms (y 1) 765 fms] H_1 := hP_1
  have hD : va_D A [px_o mo 11 fmo, px_i ms (y 1) 765 fms] := hD_1
  have hS := hS_1
  clear hP_1 hD_1 hS_1
  obtain rfl : r_1 = 1 := hw_1
  refine lv_istore (lv' := [(5, .int 1), (4, .int 0), (3, .ref ou), (2, .ref mo), (1, .ref x), (0, .ref b)]) hx hb dL_law_844 hl (by decide) rfl (fun ls hl => ?_)
  refine lv_aload_n hx hb dL_law_846 rfl (lv_at hl 3 rfl) ?_
  refine lv_aload_n hx hb dL_law_847 rfl (lv_at hl 5 rfl) ?_
  refine lv_iload hx hb dL_law_848 (lv_at hl 1 rfl) ?_
  refine lv_iconst (v := 1) hx hb dL_law_850 (by decide) ?_
  refine lv_iadd hx hb dL_law_851 ?_
  refine px_top (v := 1) (by decide) ?_
  refine va_sld hx hb hX hbl hbA hS (i := 1) (px_in (by decide)) dL_law_852 ?_
  refine px_top (v := xs 1) rfl ?_
  refine lv_aload_n hx hb dL_law_853 rfl (lv_at hl 5 rfl) ?_
  refine lv_iload hx hb dL_law_854 (lv_at hl 1 rfl) ?_
  refine lv_iconst (v := 2) hx hb dL_law_856 (by decide) ?_
  refine lv_iadd hx hb dL_law_857 ?_
  refine px_top (v := 2) (by decide) ?_
  refine va_sld hx hb hX hbl hbA hS (i := 2) (px_in (by decide)) dL_law_858 ?_
  refine px_top (v := xs 2) rfl ?_
  refine lv_aload_n hx hb dL_law_859 rfl (lv_at hl 5 rfl) ?_
  refine lv_iload hx hb dL_law_860 (lv_at hl 1 rfl) ?_
  refine lv_iconst (v := 3) hx hb dL_law_862 (by decide) ?_
  refine lv_iadd hx hb dL_law_863 ?_
  refine px_top (v := 3) (by decide) ?_
  refine va_sld hx hb hX hbl hbA hS (i := 3) (px_in (by decide)) dL_law_864 ?_
  refine px_top (v := xs 3) rfl ?_
  have hPc_2 := hP.sub (ws' := [px_o mo 11 fmo, px_i ms (y 1) 765 fms]) [0, 1] rfl
  have hDc_2 := hD.sub (ws' := [px_o mo 11 fmo, px_i ms (y 1) 765 fms]) [0, 1] (by decide +kernel) rfl
  have hFc_2 := va_free (wc := [px_o mo 11 fmo, px_i ms (y 1) 765 fms]) hD hS hA [0, 1] rfl
  refine va_calll (va_runV (As := [.int (xs 1), .int (xs 2), .int (xs 3)]) (rest := []) ⟨hx, hb, hml, hown, hg⟩ (c_X11_next_ l D y H_1.size mo fmo ms fms (xs 1) (xs 2) (xs 3) hmo_0 hmo_6 hms_e1) (cwV 3 hg (px_gV q_8_60 q_8_61 q_8_62 q_1_15 q_8_63) rfl rfl rfl (by decide +kernel) ⟨Nat.le_of_ble_eq_true rfl, Nat.le_of_ble_eq_true rfl⟩) (px_preV hK hPc_2 hDc_2 (ci := 11) (q0 := 0) rfl rfl) rfl rfl hl.1 rfl (lv_room (Nat.le_of_ble_eq_true rfl)) dL_law_865 ⟨Nat.le_of_ble_eq_true rfl, Nat.le_of_ble_eq_true rfl⟩) hS (fun q _ h => hFc_2 q h) hFc_2 (fun r_2 u_2 t_2 H_2 locs_2 ht_2 hvm_2 hw_2 hB_2 hz_2 hk_2 hS_2 => ?_)
  refine W.cs (cells' := 78) (slots' := 199439) rfl rfl ?_
  obtain ⟨hP1_2, hD1_2⟩ := hB_2
  rw [ht_2] at hP1_2
  obtain ⟨hP_2, hD_2⟩ := va_join (wr := []) (w1 := [px_o mo 11 (fmo.set 0 (.int 1)), px_i ms (y 1) 765 fms]) hP hD [0, 1] [] rfl rfl (by decide +kernel) (by decide +kernel) hk_2 hFc_2 hP1_2 hD1_2
  clear hP hD hS hPc_2 hDc_2 hFc_2 hz_2 hk_2 hvm_2 ht_2 hP1_2 hD1_2
  have hP : va_P D vwCl [px_o mo 11 (fmo.set 0 (.int 1)), px_i ms (y 1) 765 fms] H_2 := hP_2
  have hD : va_D A [px_o mo 11 (fmo.set 0 (.int 1)), px_i ms (y 1) 765 fms] := hD_2
  have hS := hS_2
  clear hP_2 hD_2 hS_2
  obtain rfl : r_2 = 0 := hw_2
  refine lv_lstore (lv' := [(6, .long 0), (5, .int 1), (4, .int 0), (3, .ref ou), (2, .ref mo), (1, .ref x), (0, .ref b)]) hx hb dL_law_868 hl (by decide) rfl (fun ls hl => ?_)
  refine lv_aload_n hx hb dL_law_870 rfl (lv_at hl 4 rfl) ?_
  have hPc_3 := hP.sub (ws' := [px_o mo 11 (fmo.set 0 (.int 1))]) [0] rfl
  have hDc_3 := hD.sub (ws' := [px_o mo 11 (fmo.set 0 (.int 1))]) [0] (by decide +kernel) rfl
  refine vp_callSi (va_Run.run (va_runV (As := []) (rest := []) ⟨hx, hb, hml, hown, hg⟩ (c_X11_thrown_1 l D y H_2.size mo (fmo.set 0 (.int 1)) (px_ss hmo_0)) (cwV 0 hg (px_gV q_6_84 q_6_85 q_6_86 q_1_15 q_6_87) rfl rfl rfl (by decide +kernel) ⟨Nat.le_of_ble_eq_true rfl, Nat.le_of_ble_eq_true rfl⟩) (px_preV hK hPc_3 hDc_3 (ci := 11) (q0 := 0) rfl rfl) rfl rfl hl.1 rfl (lv_room (Nat.le_of_ble_eq_true rfl)) dL_law_871 ⟨Nat.le_of_ble_eq_true rfl, Nat.le_of_ble_eq_true rfl⟩)) (fun r_3 hw_3 => ?_)
  clear hPc_3 hDc_3
  obtain rfl : r_3 = 1 := hw_3
  refine lv_iload hx hb dL_law_874 (lv_at hl 1 rfl) ?_
  refine lv_icmp_eq (tgt := 881) hx hb dL_law_876 (by decide) (fun _ => ?_) (fun c_4 => absurd c_4 (by decide))
  refine lv_iload hx hb dL_law_881 (lv_at hl 1 rfl) ?_
  refine lv_if_ne (tgt := 897) hx hb dL_law_883 (by decide) (fun _ => ?_) (fun c_5 => absurd c_5 (by decide))
  refine lv_goto (tgt := 1472) hx hb dL_law_897 (by decide) ?_
  refine W.widen (k := 600002) (n := 7302232) (Nat.le_of_ble_eq_true rfl) (Nat.le_of_ble_eq_true rfl) ?_
  exact law_end C0 hAe hS (lv_sub hl [2, 6] rfl)

set_option maxHeartbeats 4000000 in
set_option maxRecDepth 100000 in
theorem law_17 {p : Program} {l : Launch} {e : Env} {s : State} {m : MethodId} {below : List Frame} {meth : Method} {c : Code} {b : Nat} {xs : Nat → Int32} {D : va_G} {y : Nat → ClassId} {ad : Nat → Nat} {bb : Nat → Int32} (hst : l.stackTraces = false) (C0 : lw_At p s m meth c b 6 xs) (hK : va_K D vwCl (px_tys y) s) (hYY : px_Y ad bb (fun q : Nat => s.heap.size ≤ q) s s.heap) (x : Nat) (mo : Nat) (ou : Nat) (fx : List Value) (g : Nat) (fg : List Value) (fmo : List Value) (ms : Nat) (fms : Nat → Int32) (hx_3 : px_g fx 3 (.ref g)) (hg_1 : px_g fg 1 (.int 0)) (hmo_0 : px_g fmo 0 (.int 0)) (hmo_6 : px_g fmo 6 (.ref ms)) (hms_e1 : fms 1 = 0) {H : Heap} {locs : List Loc} {ls : Array Slot} (hP : va_P D vwCl [px_o x 10 fx, px_o g 2 fg, px_o mo 11 fmo, px_i ms (y 1) 765 fms] H) (hD : va_D (fun q : Nat => s.heap.size ≤ q) [px_o x 10 fx, px_o g 2 fg, px_o mo 11 fmo, px_i ms (y 1) 765 fms]) (hS : va_S (fun q : Nat => s.heap.size ≤ q) s.heap H locs) (hl : lv_has ls 8 [(4, .int 0), (3, .ref ou), (2, .ref mo), (1, .ref x), (0, .ref b)]) : W p l e room_1 s m #[Value.ref b] below meth c H locs 77 199433 (lw_Z below #[Value.ref b] s) (F0 m 900 ls []) := by
  obtain ⟨hx, hb, hr, hml, hown, hts, hX, hbl, hlocks, hgv⟩ := id C0
  have hg := gw_hts hts
  have hown : s.vm.findClass RL = some m.cls := hown
  have hXX := hYY.x
  generalize hAe : (fun q : Nat => s.heap.size ≤ q) = A at hYY hD hS
  have hA : ∀ q : Nat, s.heap.size ≤ q → A q := fun q h => by rw [← hAe]; exact h
  have hbA : ¬ A b := by rw [← hAe]; exact Nat.not_le.mpr hbl
  refine lv_aload_n hx hb dL_law_900 rfl (lv_at hl 3 rfl) ?_
  refine lv_aload_n hx hb dL_law_901 rfl (lv_at hl 4 rfl) ?_
  refine lv_iload hx hb dL_law_902 (lv_at hl 0 rfl) ?_
  refine lv_iconst (v := 1) hx hb dL_law_904 (by decide) ?_
  refine lv_iadd hx hb dL_law_905 ?_
  refine px_top (v := 1) (by decide) ?_
  refine va_sld hx hb hX hbl hbA hS (i := 1) (px_in (by decide)) dL_law_906 ?_
  refine px_top (v := xs 1) rfl ?_
  have hPc_1 := hP.sub (ws' := [px_o x 10 fx, px_o g 2 fg]) [0, 1] rfl
  have hDc_1 := hD.sub (ws' := [px_o x 10 fx, px_o g 2 fg]) [0, 1] (by decide +kernel) rfl
  refine vp_callSi (va_Run.run (va_runV (As := [.int (xs 1)]) (rest := []) ⟨hx, hb, hml, hown, hg⟩ (c_X10_whom l D y H.size x fx g fg (xs 1) hx_3 hg_1) (cwV 1 hg (px_gV q_3_234 q_3_235 q_3_236 q_1_1 q_3_237) rfl rfl rfl (by decide +kernel) ⟨Nat.le_of_ble_eq_true rfl, Nat.le_of_ble_eq_true rfl⟩) (px_preV hK hPc_1 hDc_1 (ci := 10) (q0 := 0) rfl rfl) rfl rfl hl.1 rfl (lv_room (Nat.le_of_ble_eq_true rfl)) dL_law_907 ⟨Nat.le_of_ble_eq_true rfl, Nat.le_of_ble_eq_true rfl⟩)) (fun r_1 hw_1 => ?_)
  clear hPc_1 hDc_1
  obtain rfl : r_1 = (-1) := hw_1
  refine lv_aload_n hx hb dL_law_910 rfl (lv_at hl 2 rfl) ?_
  refine lv_aload_n hx hb dL_law_911 rfl (lv_at hl 4 rfl) ?_
  refine lv_iload hx hb dL_law_912 (lv_at hl 0 rfl) ?_
  refine lv_iconst (v := 1) hx hb dL_law_914 (by decide) ?_
  refine lv_iadd hx hb dL_law_915 ?_
  refine px_top (v := 1) (by decide) ?_
  refine va_sld hx hb hX hbl hbA hS (i := 1) (px_in (by decide)) dL_law_916 ?_
  refine px_top (v := xs 1) rfl ?_
  have hPc_2 := hP.sub (ws' := [px_o mo 11 fmo, px_i ms (y 1) 765 fms]) [2, 3] rfl
  have hDc_2 := hD.sub (ws' := [px_o mo 11 fmo, px_i ms (y 1) 765 fms]) [2, 3] (by decide +kernel) rfl
  have hFc_2 := va_free (wc := [px_o mo 11 fmo, px_i ms (y 1) 765 fms]) hD hS hA [2, 3] rfl
  refine va_calli (va_runV (As := [.int (xs 1)]) (rest := [.int (-1)]) ⟨hx, hb, hml, hown, hg⟩ (c_X11_whom l D y H.size mo fmo ms fms (xs 1) hmo_0 hmo_6 hms_e1) (cwV 1 hg (px_gV q_8_64 q_8_65 q_8_66 q_1_15 q_8_67) rfl rfl rfl (by decide +kernel) ⟨Nat.le_of_ble_eq_true rfl, Nat.le_of_ble_eq_true rfl⟩) (px_preV hK hPc_2 hDc_2 (ci := 11) (q0 := 0) rfl rfl) rfl rfl hl.1 rfl (lv_room (Nat.le_of_ble_eq_true rfl)) dL_law_917 ⟨Nat.le_of_ble_eq_true rfl, Nat.le_of_ble_eq_true rfl⟩) hS (fun q _ h => hFc_2 q h) hFc_2 (fun r_2 u_2 t_2 H_2 locs_2 ht_2 hvm_2 hw_2 hB_2 hz_2 hk_2 hS_2 => ?_)
  refine W.cs (cells' := 77) (slots' := 199433) rfl rfl ?_
  obtain ⟨hP_2, hD_2⟩ := va_join (wr := [px_o x 10 fx, px_o g 2 fg]) (w1 := []) hP hD [2, 3] [0, 1] rfl rfl (by decide +kernel) (by decide +kernel) hk_2 hFc_2 (fun k q h => by simp at h) ⟨fun i j p q h => by simp at h, fun k q h => by simp at h⟩
  clear hP hD hS hPc_2 hDc_2 hFc_2 hz_2 hk_2 hvm_2 ht_2 hB_2
  have hP : va_P D vwCl [px_o x 10 fx, px_o g 2 fg] H_2 := hP_2
  have hD : va_D A [px_o x 10 fx, px_o g 2 fg] := hD_2
  have hS := hS_2
  clear hP_2 hD_2 hS_2
  obtain rfl : r_2 = (-1) := hw_2
  refine lv_icmp_eq (tgt := 1472) hx hb dL_law_920 (by decide) (fun _ => ?_) (fun c_3 => absurd c_3 (by decide))
  refine W.widen (k := 600002) (n := 7302232) (Nat.le_of_ble_eq_true rfl) (Nat.le_of_ble_eq_true rfl) ?_
  exact law_end C0 hAe hS (lv_sub hl [0, 4] rfl)

set_option maxHeartbeats 4000000 in
set_option maxRecDepth 100000 in
theorem law_18 {p : Program} {l : Launch} {e : Env} {s : State} {m : MethodId} {below : List Frame} {meth : Method} {c : Code} {b : Nat} {xs : Nat → Int32} {D : va_G} {y : Nat → ClassId} {ad : Nat → Nat} {bb : Nat → Int32} (hst : l.stackTraces = false) (C0 : lw_At p s m meth c b 6 xs) (hK : va_K D vwCl (px_tys y) s) (hYY : px_Y ad bb (fun q : Nat => s.heap.size ≤ q) s s.heap) (x : Nat) (mo : Nat) (ou : Nat) (fx : List Value) (g : Nat) (fg : List Value) (fmo : List Value) (ms : Nat) (fms : Nat → Int32) (hx_3 : px_g fx 3 (.ref g)) (hg_1 : px_g fg 1 (.int 0)) (hmo_0 : px_g fmo 0 (.int 0)) (hmo_6 : px_g fmo 6 (.ref ms)) (hms_e1 : fms 1 = 0) {H : Heap} {locs : List Loc} {ls : Array Slot} (hP : va_P D vwCl [px_o x 10 fx, px_o g 2 fg, px_o mo 11 fmo, px_i ms (y 1) 765 fms] H) (hD : va_D (fun q : Nat => s.heap.size ≤ q) [px_o x 10 fx, px_o g 2 fg, px_o mo 11 fmo, px_i ms (y 1) 765 fms]) (hS : va_S (fun q : Nat => s.heap.size ≤ q) s.heap H locs) (hl : lv_has ls 8 [(4, .int 0), (3, .ref ou), (2, .ref mo), (1, .ref x), (0, .ref b)]) : W p l e room_1 s m #[Value.ref b] below meth c H locs 77 199433 (lw_Z below #[Value.ref b] s) (F0 m 925 ls []) := by
  obtain ⟨hx, hb, hr, hml, hown, hts, hX, hbl, hlocks, hgv⟩ := id C0
  have hg := gw_hts hts
  have hown : s.vm.findClass RL = some m.cls := hown
  have hXX := hYY.x
  generalize hAe : (fun q : Nat => s.heap.size ≤ q) = A at hYY hD hS
  have hA : ∀ q : Nat, s.heap.size ≤ q → A q := fun q h => by rw [← hAe]; exact h
  have hbA : ¬ A b := by rw [← hAe]; exact Nat.not_le.mpr hbl
  refine lv_aload_n hx hb dL_law_925 rfl (lv_at hl 3 rfl) ?_
  refine lv_aload_n hx hb dL_law_926 rfl (lv_at hl 4 rfl) ?_
  refine lv_iload hx hb dL_law_927 (lv_at hl 0 rfl) ?_
  refine lv_iconst (v := 1) hx hb dL_law_929 (by decide) ?_
  refine lv_iadd hx hb dL_law_930 ?_
  refine px_top (v := 1) (by decide) ?_
  refine va_sld hx hb hX hbl hbA hS (i := 1) (px_in (by decide)) dL_law_931 ?_
  refine px_top (v := xs 1) rfl ?_
  have hPc_1 := hP.sub (ws' := [px_o x 10 fx, px_o g 2 fg]) [0, 1] rfl
  have hDc_1 := hD.sub (ws' := [px_o x 10 fx, px_o g 2 fg]) [0, 1] (by decide +kernel) rfl
  refine vp_callSi (va_Run.run (va_runV (As := [.int (xs 1)]) (rest := []) ⟨hx, hb, hml, hown, hg⟩ (c_X10_sweep l D y H.size x fx g fg (xs 1) hx_3 hg_1) (cwV 1 hg (px_gV q_4_111 q_4_112 q_4_113 q_1_1 q_4_114) rfl rfl rfl (by decide +kernel) ⟨Nat.le_of_ble_eq_true rfl, Nat.le_of_ble_eq_true rfl⟩) (px_preV hK hPc_1 hDc_1 (ci := 10) (q0 := 0) rfl rfl) rfl rfl hl.1 rfl (lv_room (Nat.le_of_ble_eq_true rfl)) dL_law_932 ⟨Nat.le_of_ble_eq_true rfl, Nat.le_of_ble_eq_true rfl⟩)) (fun r_1 hw_1 => ?_)
  clear hPc_1 hDc_1
  obtain rfl : r_1 = (-1) := hw_1
  refine lv_aload_n hx hb dL_law_935 rfl (lv_at hl 2 rfl) ?_
  refine lv_aload_n hx hb dL_law_936 rfl (lv_at hl 4 rfl) ?_
  refine lv_iload hx hb dL_law_937 (lv_at hl 0 rfl) ?_
  refine lv_iconst (v := 1) hx hb dL_law_939 (by decide) ?_
  refine lv_iadd hx hb dL_law_940 ?_
  refine px_top (v := 1) (by decide) ?_
  refine va_sld hx hb hX hbl hbA hS (i := 1) (px_in (by decide)) dL_law_941 ?_
  refine px_top (v := xs 1) rfl ?_
  have hPc_2 := hP.sub (ws' := [px_o mo 11 fmo, px_i ms (y 1) 765 fms]) [2, 3] rfl
  have hDc_2 := hD.sub (ws' := [px_o mo 11 fmo, px_i ms (y 1) 765 fms]) [2, 3] (by decide +kernel) rfl
  have hFc_2 := va_free (wc := [px_o mo 11 fmo, px_i ms (y 1) 765 fms]) hD hS hA [2, 3] rfl
  refine va_calli (va_runV (As := [.int (xs 1)]) (rest := [.int (-1)]) ⟨hx, hb, hml, hown, hg⟩ (c_X11_sweep l D y H.size mo fmo ms fms (xs 1) hmo_0 hmo_6 hms_e1) (cwV 1 hg (px_gV q_8_69 q_8_70 q_8_71 q_1_15 q_8_72) rfl rfl rfl (by decide +kernel) ⟨Nat.le_of_ble_eq_true rfl, Nat.le_of_ble_eq_true rfl⟩) (px_preV hK hPc_2 hDc_2 (ci := 11) (q0 := 0) rfl rfl) rfl rfl hl.1 rfl (lv_room (Nat.le_of_ble_eq_true rfl)) dL_law_942 ⟨Nat.le_of_ble_eq_true rfl, Nat.le_of_ble_eq_true rfl⟩) hS (fun q _ h => hFc_2 q h) hFc_2 (fun r_2 u_2 t_2 H_2 locs_2 ht_2 hvm_2 hw_2 hB_2 hz_2 hk_2 hS_2 => ?_)
  refine W.cs (cells' := 77) (slots' := 199433) rfl rfl ?_
  obtain ⟨hP_2, hD_2⟩ := va_join (wr := [px_o x 10 fx, px_o g 2 fg]) (w1 := []) hP hD [2, 3] [0, 1] rfl rfl (by decide +kernel) (by decide +kernel) hk_2 hFc_2 (fun k q h => by simp at h) ⟨fun i j p q h => by simp at h, fun k q h => by simp at h⟩
  clear hP hD hS hPc_2 hDc_2 hFc_2 hz_2 hk_2 hvm_2 ht_2 hB_2
  have hP : va_P D vwCl [px_o x 10 fx, px_o g 2 fg] H_2 := hP_2
  have hD : va_D A [px_o x 10 fx, px_o g 2 fg] := hD_2
  have hS := hS_2
  clear hP_2 hD_2 hS_2
  obtain rfl : r_2 = (-1) := hw_2
  refine lv_icmp_eq (tgt := 1472) hx hb dL_law_945 (by decide) (fun _ => ?_) (fun c_3 => absurd c_3 (by decide))
  refine W.widen (k := 600002) (n := 7302232) (Nat.le_of_ble_eq_true rfl) (Nat.le_of_ble_eq_true rfl) ?_
  exact law_end C0 hAe hS (lv_sub hl [0, 4] rfl)

set_option maxHeartbeats 4000000 in
set_option maxRecDepth 100000 in
theorem law_19 {p : Program} {l : Launch} {e : Env} {s : State} {m : MethodId} {below : List Frame} {meth : Method} {c : Code} {b : Nat} {xs : Nat → Int32} {D : va_G} {y : Nat → ClassId} {ad : Nat → Nat} {bb : Nat → Int32} (hst : l.stackTraces = false) (C0 : lw_At p s m meth c b 6 xs) (hK : va_K D vwCl (px_tys y) s) (hYY : px_Y ad bb (fun q : Nat => s.heap.size ≤ q) s s.heap) (x : Nat) (mo : Nat) (ou : Nat) (fx : List Value) (fmo : List Value) (hx_17 : px_g fx 17 (.int 0)) (hmo_0 : px_g fmo 0 (.int 0)) (hmo_37 : px_g fmo 37 (.int 0)) {H : Heap} {locs : List Loc} {ls : Array Slot} (hP : va_P D vwCl [px_o x 10 fx, px_o mo 11 fmo] H) (hD : va_D (fun q : Nat => s.heap.size ≤ q) [px_o x 10 fx, px_o mo 11 fmo]) (hS : va_S (fun q : Nat => s.heap.size ≤ q) s.heap H locs) (hl : lv_has ls 8 [(4, .int 0), (3, .ref ou), (2, .ref mo), (1, .ref x), (0, .ref b)]) : W p l e room_1 s m #[Value.ref b] below meth c H locs 77 199433 (lw_Z below #[Value.ref b] s) (F0 m 950 ls []) := by
  obtain ⟨hx, hb, hr, hml, hown, hts, hX, hbl, hlocks, hgv⟩ := id C0
  have hg := gw_hts hts
  have hown : s.vm.findClass RL = some m.cls := hown
  have hXX := hYY.x
  generalize hAe : (fun q : Nat => s.heap.size ≤ q) = A at hYY hD hS
  have hA : ∀ q : Nat, s.heap.size ≤ q → A q := fun q h => by rw [← hAe]; exact h
  have hbA : ¬ A b := by rw [← hAe]; exact Nat.not_le.mpr hbl
  refine lv_aload_n hx hb dL_law_950 rfl (lv_at hl 3 rfl) ?_
  refine lv_aload_n hx hb dL_law_951 rfl (lv_at hl 4 rfl) ?_
  refine lv_iload hx hb dL_law_952 (lv_at hl 0 rfl) ?_
  refine lv_iconst (v := 1) hx hb dL_law_954 (by decide) ?_
  refine lv_iadd hx hb dL_law_955 ?_
  refine px_top (v := 1) (by decide) ?_
  refine va_sld hx hb hX hbl hbA hS (i := 1) (px_in (by decide)) dL_law_956 ?_
  refine px_top (v := xs 1) rfl ?_
  have hPc_1 := hP.sub (ws' := [px_o x 10 fx]) [0] rfl
  have hDc_1 := hD.sub (ws' := [px_o x 10 fx]) [0] (by decide +kernel) rfl
  refine vp_callSi (va_Run.run (va_runV (As := [.int (xs 1)]) (rest := []) ⟨hx, hb, hml, hown, hg⟩ (c_X10_swept l D y H.size x fx (xs 1) hx_17) (cwV 1 hg (px_gV q_4_120 q_4_121 q_4_122 q_1_1 q_4_123) rfl rfl rfl (by decide +kernel) ⟨Nat.le_of_ble_eq_true rfl, Nat.le_of_ble_eq_true rfl⟩) (px_preV hK hPc_1 hDc_1 (ci := 10) (q0 := 0) rfl rfl) rfl rfl hl.1 rfl (lv_room (Nat.le_of_ble_eq_true rfl)) dL_law_957 ⟨Nat.le_of_ble_eq_true rfl, Nat.le_of_ble_eq_true rfl⟩)) (fun r_1 hw_1 => ?_)
  clear hPc_1 hDc_1
  obtain rfl : r_1 = (-1) := hw_1
  refine lv_aload_n hx hb dL_law_960 rfl (lv_at hl 2 rfl) ?_
  refine lv_aload_n hx hb dL_law_961 rfl (lv_at hl 4 rfl) ?_
  refine lv_iload hx hb dL_law_962 (lv_at hl 0 rfl) ?_
  refine lv_iconst (v := 1) hx hb dL_law_964 (by decide) ?_
  refine lv_iadd hx hb dL_law_965 ?_
  refine px_top (v := 1) (by decide) ?_
  refine va_sld hx hb hX hbl hbA hS (i := 1) (px_in (by decide)) dL_law_966 ?_
  refine px_top (v := xs 1) rfl ?_
  have hPc_2 := hP.sub (ws' := [px_o mo 11 fmo]) [1] rfl
  have hDc_2 := hD.sub (ws' := [px_o mo 11 fmo]) [1] (by decide +kernel) rfl
  have hFc_2 := va_free (wc := [px_o mo 11 fmo]) hD hS hA [1] rfl
  refine va_calli (va_runV (As := [.int (xs 1)]) (rest := [.int (-1)]) ⟨hx, hb, hml, hown, hg⟩ (c_X11_swept l D y H.size mo fmo (xs 1) hmo_0 hmo_37) (cwV 1 hg (px_gV q_8_73 q_8_74 q_8_75 q_1_15 q_8_76) rfl rfl rfl (by decide +kernel) ⟨Nat.le_of_ble_eq_true rfl, Nat.le_of_ble_eq_true rfl⟩) (px_preV hK hPc_2 hDc_2 (ci := 11) (q0 := 0) rfl rfl) rfl rfl hl.1 rfl (lv_room (Nat.le_of_ble_eq_true rfl)) dL_law_967 ⟨Nat.le_of_ble_eq_true rfl, Nat.le_of_ble_eq_true rfl⟩) hS (fun q _ h => hFc_2 q h) hFc_2 (fun r_2 u_2 t_2 H_2 locs_2 ht_2 hvm_2 hw_2 hB_2 hz_2 hk_2 hS_2 => ?_)
  refine W.cs (cells' := 77) (slots' := 199433) rfl rfl ?_
  obtain ⟨hP_2, hD_2⟩ := va_join (wr := [px_o x 10 fx]) (w1 := []) hP hD [1] [0] rfl rfl (by decide +kernel) (by decide +kernel) hk_2 hFc_2 (fun k q h => by simp at h) ⟨fun i j p q h => by simp at h, fun k q h => by simp at h⟩
  clear hP hD hS hPc_2 hDc_2 hFc_2 hz_2 hk_2 hvm_2 ht_2 hB_2
  have hP : va_P D vwCl [px_o x 10 fx] H_2 := hP_2
  have hD : va_D A [px_o x 10 fx] := hD_2
  have hS := hS_2
  clear hP_2 hD_2 hS_2
  obtain rfl : r_2 = (-1) := hw_2
  refine lv_icmp_eq (tgt := 1472) hx hb dL_law_970 (by decide) (fun _ => ?_) (fun c_3 => absurd c_3 (by decide))
  refine W.widen (k := 600002) (n := 7302232) (Nat.le_of_ble_eq_true rfl) (Nat.le_of_ble_eq_true rfl) ?_
  exact law_end C0 hAe hS (lv_sub hl [0, 4] rfl)

set_option maxHeartbeats 4000000 in
set_option maxRecDepth 100000 in
theorem law_20 {p : Program} {l : Launch} {e : Env} {s : State} {m : MethodId} {below : List Frame} {meth : Method} {c : Code} {b : Nat} {xs : Nat → Int32} {D : va_G} {y : Nat → ClassId} {ad : Nat → Nat} {bb : Nat → Int32} (hst : l.stackTraces = false) (C0 : lw_At p s m meth c b 6 xs) (hK : va_K D vwCl (px_tys y) s) (hYY : px_Y ad bb (fun q : Nat => s.heap.size ≤ q) s s.heap) (x : Nat) (mo : Nat) (ou : Nat) (fx : List Value) (g : Nat) (fg : List Value) (fmo : List Value) (ms : Nat) (fms : Nat → Int32) (hx_3 : px_g fx 3 (.ref g)) (hg_1 : px_g fg 1 (.int 0)) (hmo_0 : px_g fmo 0 (.int 0)) (hmo_6 : px_g fmo 6 (.ref ms)) (hms_e1 : fms 1 = 0) {H : Heap} {locs : List Loc} {ls : Array Slot} (hP : va_P D vwCl [px_o x 10 fx, px_o g 2 fg, px_o mo 11 fmo, px_i ms (y 1) 765 fms] H) (hD : va_D (fun q : Nat => s.heap.size ≤ q) [px_o x 10 fx, px_o g 2 fg, px_o mo 11 fmo, px_i ms (y 1) 765 fms]) (hS : va_S (fun q : Nat => s.heap.size ≤ q) s.heap H locs) (hl : lv_has ls 8 [(4, .int 0), (3, .ref ou), (2, .ref mo), (1, .ref x), (0, .ref b)]) : W p l e room_1 s m #[Value.ref b] below meth c H locs 77 199433 (lw_Z below #[Value.ref b] s) (F0 m 975 ls []) := by
  obtain ⟨hx, hb, hr, hml, hown, hts, hX, hbl, hlocks, hgv⟩ := id C0
  have hg := gw_hts hts
  have hown : s.vm.findClass RL = some m.cls := hown
  have hXX := hYY.x
  generalize hAe : (fun q : Nat => s.heap.size ≤ q) = A at hYY hD hS
  have hA : ∀ q : Nat, s.heap.size ≤ q → A q := fun q h => by rw [← hAe]; exact h
  have hbA : ¬ A b := by rw [← hAe]; exact Nat.not_le.mpr hbl
  refine lv_aload_n hx hb dL_law_975 rfl (lv_at hl 3 rfl) ?_
  refine lv_aload_n hx hb dL_law_976 rfl (lv_at hl 4 rfl) ?_
  refine lv_iload hx hb dL_law_977 (lv_at hl 0 rfl) ?_
  refine lv_iconst (v := 1) hx hb dL_law_979 (by decide) ?_
  refine lv_iadd hx hb dL_law_980 ?_
  refine px_top (v := 1) (by decide) ?_
  refine va_sld hx hb hX hbl hbA hS (i := 1) (px_in (by decide)) dL_law_981 ?_
  refine px_top (v := xs 1) rfl ?_
  have hPc_1 := hP.sub (ws' := [px_o x 10 fx, px_o g 2 fg]) [0, 1] rfl
  have hDc_1 := hD.sub (ws' := [px_o x 10 fx, px_o g 2 fg]) [0, 1] (by decide +kernel) rfl
  refine vp_callSi (va_Run.run (va_runV (As := [.int (xs 1)]) (rest := []) ⟨hx, hb, hml, hown, hg⟩ (c_X10_gains l D y H.size x fx g fg (xs 1) hx_3 hg_1) (cwV 1 hg (px_gV q_4_124 q_4_125 q_4_126 q_1_1 q_4_127) rfl rfl rfl (by decide +kernel) ⟨Nat.le_of_ble_eq_true rfl, Nat.le_of_ble_eq_true rfl⟩) (px_preV hK hPc_1 hDc_1 (ci := 10) (q0 := 0) rfl rfl) rfl rfl hl.1 rfl (lv_room (Nat.le_of_ble_eq_true rfl)) dL_law_982 ⟨Nat.le_of_ble_eq_true rfl, Nat.le_of_ble_eq_true rfl⟩)) (fun r_1 hw_1 => ?_)
  clear hPc_1 hDc_1
  obtain rfl : r_1 = (-1) := hw_1
  refine lv_aload_n hx hb dL_law_985 rfl (lv_at hl 2 rfl) ?_
  refine lv_aload_n hx hb dL_law_986 rfl (lv_at hl 4 rfl) ?_
  refine lv_iload hx hb dL_law_987 (lv_at hl 0 rfl) ?_
  refine lv_iconst (v := 1) hx hb dL_law_989 (by decide) ?_
  refine lv_iadd hx hb dL_law_990 ?_
  refine px_top (v := 1) (by decide) ?_
  refine va_sld hx hb hX hbl hbA hS (i := 1) (px_in (by decide)) dL_law_991 ?_
  refine px_top (v := xs 1) rfl ?_
  have hPc_2 := hP.sub (ws' := [px_o mo 11 fmo, px_i ms (y 1) 765 fms]) [2, 3] rfl
  have hDc_2 := hD.sub (ws' := [px_o mo 11 fmo, px_i ms (y 1) 765 fms]) [2, 3] (by decide +kernel) rfl
  have hFc_2 := va_free (wc := [px_o mo 11 fmo, px_i ms (y 1) 765 fms]) hD hS hA [2, 3] rfl
  refine va_calli (va_runV (As := [.int (xs 1)]) (rest := [.int (-1)]) ⟨hx, hb, hml, hown, hg⟩ (c_X11_gains l D y H.size mo fmo ms fms (xs 1) hmo_0 hmo_6 hms_e1) (cwV 1 hg (px_gV q_8_77 q_8_78 q_8_79 q_1_15 q_8_80) rfl rfl rfl (by decide +kernel) ⟨Nat.le_of_ble_eq_true rfl, Nat.le_of_ble_eq_true rfl⟩) (px_preV hK hPc_2 hDc_2 (ci := 11) (q0 := 0) rfl rfl) rfl rfl hl.1 rfl (lv_room (Nat.le_of_ble_eq_true rfl)) dL_law_992 ⟨Nat.le_of_ble_eq_true rfl, Nat.le_of_ble_eq_true rfl⟩) hS (fun q _ h => hFc_2 q h) hFc_2 (fun r_2 u_2 t_2 H_2 locs_2 ht_2 hvm_2 hw_2 hB_2 hz_2 hk_2 hS_2 => ?_)
  refine W.cs (cells' := 77) (slots' := 199433) rfl rfl ?_
  obtain ⟨hP_2, hD_2⟩ := va_join (wr := [px_o x 10 fx, px_o g 2 fg]) (w1 := []) hP hD [2, 3] [0, 1] rfl rfl (by decide +kernel) (by decide +kernel) hk_2 hFc_2 (fun k q h => by simp at h) ⟨fun i j p q h => by simp at h, fun k q h => by simp at h⟩
  clear hP hD hS hPc_2 hDc_2 hFc_2 hz_2 hk_2 hvm_2 ht_2 hB_2
  have hP : va_P D vwCl [px_o x 10 fx, px_o g 2 fg] H_2 := hP_2
  have hD : va_D A [px_o x 10 fx, px_o g 2 fg] := hD_2
  have hS := hS_2
  clear hP_2 hD_2 hS_2
  obtain rfl : r_2 = (-1) := hw_2
  refine lv_icmp_eq (tgt := 1472) hx hb dL_law_995 (by decide) (fun _ => ?_) (fun c_3 => absurd c_3 (by decide))
  refine W.widen (k := 600002) (n := 7302232) (Nat.le_of_ble_eq_true rfl) (Nat.le_of_ble_eq_true rfl) ?_
  exact law_end C0 hAe hS (lv_sub hl [0, 4] rfl)

set_option maxHeartbeats 4000000 in
set_option maxRecDepth 100000 in
theorem law_21 {p : Program} {l : Launch} {e : Env} {s : State} {m : MethodId} {below : List Frame} {meth : Method} {c : Code} {b : Nat} {xs : Nat → Int32} {D : va_G} {y : Nat → ClassId} {ad : Nat → Nat} {bb : Nat → Int32} (hst : l.stackTraces = false) (C0 : lw_At p s m meth c b 6 xs) (hK : va_K D vwCl (px_tys y) s) (hYY : px_Y ad bb (fun q : Nat => s.heap.size ≤ q) s s.heap) (x : Nat) (mo : Nat) (ou : Nat) (fx : List Value) (g : Nat) (fg : List Value) (fmo : List Value) (ms : Nat) (fms : Nat → Int32) (hx_3 : px_g fx 3 (.ref g)) (hg_1 : px_g fg 1 (.int 0)) (hmo_0 : px_g fmo 0 (.int 0)) (hmo_6 : px_g fmo 6 (.ref ms)) (hmo_47 : px_g fmo 47 (.int 0)) (hms_e1 : fms 1 = 0) {H : Heap} {locs : List Loc} {ls : Array Slot} (hP : va_P D vwCl [px_o x 10 fx, px_o g 2 fg, px_o mo 11 fmo, px_i ms (y 1) 765 fms] H) (hD : va_D (fun q : Nat => s.heap.size ≤ q) [px_o x 10 fx, px_o g 2 fg, px_o mo 11 fmo, px_i ms (y 1) 765 fms]) (hS : va_S (fun q : Nat => s.heap.size ≤ q) s.heap H locs) (hl : lv_has ls 8 [(4, .int 0), (3, .ref ou), (2, .ref mo), (1, .ref x), (0, .ref b)]) : W p l e room_1 s m #[Value.ref b] below meth c H locs 77 199433 (lw_Z below #[Value.ref b] s) (F0 m 1000 ls []) := by
  obtain ⟨hx, hb, hr, hml, hown, hts, hX, hbl, hlocks, hgv⟩ := id C0
  have hg := gw_hts hts
  have hown : s.vm.findClass RL = some m.cls := hown
  have hXX := hYY.x
  generalize hAe : (fun q : Nat => s.heap.size ≤ q) = A at hYY hD hS
  have hA : ∀ q : Nat, s.heap.size ≤ q → A q := fun q h => by rw [← hAe]; exact h
  have hbA : ¬ A b := by rw [← hAe]; exact Nat.not_le.mpr hbl
  refine lv_aload_n hx hb dL_law_1000 rfl (lv_at hl 3 rfl) ?_
  have hPc_1 := hP.sub (ws' := [px_o x 10 fx, px_o g 2 fg]) [0, 1] rfl
  have hDc_1 := hD.sub (ws' := [px_o x 10 fx, px_o g 2 fg]) [0, 1] (by decide +kernel) rfl
  refine vp_callSi (va_Run.run (va_runV (As := []) (rest := []) ⟨hx, hb, hml, hown, hg⟩ (c_X10_open l D y H.size x fx g fg hx_3 hg_1) (cwV 0 hg (px_gV q_4_129 q_4_130 q_4_131 q_1_1 q_4_132) rfl rfl rfl (by decide +kernel) ⟨Nat.le_of_ble_eq_true rfl, Nat.le_of_ble_eq_true rfl⟩) (px_preV hK hPc_1 hDc_1 (ci := 10) (q0 := 0) rfl rfl) rfl rfl hl.1 rfl (lv_room (Nat.le_of_ble_eq_true rfl)) dL_law_1001 ⟨Nat.le_of_ble_eq_true rfl, Nat.le_of_ble_eq_true rfl⟩)) (fun r_1 hw_1 => ?_)
  clear hPc_1 hDc_1
  obtain rfl : r_1 = (-101) := hw_1
  refine lv_aload_n hx hb dL_law_1004 rfl (lv_at hl 2 rfl) ?_
  have hPc_2 := hP.sub (ws' := [px_o mo 11 fmo, px_i ms (y 1) 765 fms]) [2, 3] rfl
  have hDc_2 := hD.sub (ws' := [px_o mo 11 fmo, px_i ms (y 1) 765 fms]) [2, 3] (by decide +kernel) rfl
  have hFc_2 := va_free (wc := [px_o mo 11 fmo, px_i ms (y 1) 765 fms]) hD hS hA [2, 3] rfl
  refine va_calli (va_runV (As := []) (rest := [.int (-101)]) ⟨hx, hb, hml, hown, hg⟩ (c_X11_open l D y H.size mo fmo ms fms hmo_0 hmo_6 hmo_47 hms_e1) (cwV 0 hg (px_gV q_8_85 q_8_86 q_8_87 q_1_15 q_8_88) rfl rfl rfl (by decide +kernel) ⟨Nat.le_of_ble_eq_true rfl, Nat.le_of_ble_eq_true rfl⟩) (px_preV hK hPc_2 hDc_2 (ci := 11) (q0 := 0) rfl rfl) rfl rfl hl.1 rfl (lv_room (Nat.le_of_ble_eq_true rfl)) dL_law_1005 ⟨Nat.le_of_ble_eq_true rfl, Nat.le_of_ble_eq_true rfl⟩) hS (fun q _ h => hFc_2 q h) hFc_2 (fun r_2 u_2 t_2 H_2 locs_2 ht_2 hvm_2 hw_2 hB_2 hz_2 hk_2 hS_2 => ?_)
  refine W.cs (cells' := 77) (slots' := 199433) rfl rfl ?_
  obtain ⟨hP_2, hD_2⟩ := va_join (wr := [px_o x 10 fx, px_o g 2 fg]) (w1 := []) hP hD [2, 3] [0, 1] rfl rfl (by decide +kernel) (by decide +kernel) hk_2 hFc_2 (fun k q h => by simp at h) ⟨fun i j p q h => by simp at h, fun k q h => by simp at h⟩
  clear hP hD hS hPc_2 hDc_2 hFc_2 hz_2 hk_2 hvm_2 ht_2 hB_2
  have hP : va_P D vwCl [px_o x 10 fx, px_o g 2 fg] H_2 := hP_2
  have hD : va_D A [px_o x 10 fx, px_o g 2 fg] := hD_2
  have hS := hS_2
  clear hP_2 hD_2 hS_2
  obtain rfl : r_2 = (-101) := hw_2
  refine lv_icmp_eq (tgt := 1472) hx hb dL_law_1008 (by decide) (fun _ => ?_) (fun c_3 => absurd c_3 (by decide))
  refine W.widen (k := 600002) (n := 7302232) (Nat.le_of_ble_eq_true rfl) (Nat.le_of_ble_eq_true rfl) ?_
  exact law_end C0 hAe hS (lv_sub hl [0, 4] rfl)

set_option maxHeartbeats 4000000 in
set_option maxRecDepth 100000 in
theorem law_22 {p : Program} {l : Launch} {e : Env} {s : State} {m : MethodId} {below : List Frame} {meth : Method} {c : Code} {b : Nat} {xs : Nat → Int32} {D : va_G} {y : Nat → ClassId} {ad : Nat → Nat} {bb : Nat → Int32} (hst : l.stackTraces = false) (C0 : lw_At p s m meth c b 6 xs) (hK : va_K D vwCl (px_tys y) s) (hYY : px_Y ad bb (fun q : Nat => s.heap.size ≤ q) s s.heap) (x : Nat) (mo : Nat) (ou : Nat) (fx : List Value) (g : Nat) (fg : List Value) (fmo : List Value) (ms : Nat) (fms : Nat → Int32) (hx_3 : px_g fx 3 (.ref g)) (hg_1 : px_g fg 1 (.int 0)) (hmo_0 : px_g fmo 0 (.int 0)) (hmo_6 : px_g fmo 6 (.ref ms)) (hmo_47 : px_g fmo 47 (.int 0)) (hms_e1 : fms 1 = 0) {H : Heap} {locs : List Loc} {ls : Array Slot} (hP : va_P D vwCl [px_o x 10 fx, px_o g 2 fg, px_o mo 11 fmo, px_i ms (y 1) 765 fms] H) (hD : va_D (fun q : Nat => s.heap.size ≤ q) [px_o x 10 fx, px_o g 2 fg, px_o mo 11 fmo, px_i ms (y 1) 765 fms]) (hS : va_S (fun q : Nat => s.heap.size ≤ q) s.heap H locs) (hl : lv_has ls 8 [(4, .int 0), (3, .ref ou), (2, .ref mo), (1, .ref x), (0, .ref b)]) : W p l e room_1 s m #[Value.ref b] below meth c H locs 77 199433 (lw_Z below #[Value.ref b] s) (F0 m 1013 ls []) := by
  obtain ⟨hx, hb, hr, hml, hown, hts, hX, hbl, hlocks, hgv⟩ := id C0
  have hg := gw_hts hts
  have hown : s.vm.findClass RL = some m.cls := hown
  have hXX := hYY.x
  generalize hAe : (fun q : Nat => s.heap.size ≤ q) = A at hYY hD hS
  have hA : ∀ q : Nat, s.heap.size ≤ q → A q := fun q h => by rw [← hAe]; exact h
  have hbA : ¬ A b := by rw [← hAe]; exact Nat.not_le.mpr hbl
  refine lv_aload_n hx hb dL_law_1013 rfl (lv_at hl 3 rfl) ?_
  have hPc_1 := hP.sub (ws' := [px_o x 10 fx, px_o g 2 fg]) [0, 1] rfl
  have hDc_1 := hD.sub (ws' := [px_o x 10 fx, px_o g 2 fg]) [0, 1] (by decide +kernel) rfl
  refine vp_callSi (va_Run.run (va_runV (As := []) (rest := []) ⟨hx, hb, hml, hown, hg⟩ (c_X10_first l D y H.size x fx g fg hx_3 hg_1) (cwV 0 hg (px_gV q_4_238 q_4_239 q_5_0 q_1_1 q_5_1) rfl rfl rfl (by decide +kernel) ⟨Nat.le_of_ble_eq_true rfl, Nat.le_of_ble_eq_true rfl⟩) (px_preV hK hPc_1 hDc_1 (ci := 10) (q0 := 0) rfl rfl) rfl rfl hl.1 rfl (lv_room (Nat.le_of_ble_eq_true rfl)) dL_law_1014 ⟨Nat.le_of_ble_eq_true rfl, Nat.le_of_ble_eq_true rfl⟩)) (fun r_1 hw_1 => ?_)
  clear hPc_1 hDc_1
  obtain rfl : r_1 = (-1) := hw_1
  refine lv_aload_n hx hb dL_law_1017 rfl (lv_at hl 2 rfl) ?_
  have hPc_2 := hP.sub (ws' := [px_o mo 11 fmo, px_i ms (y 1) 765 fms]) [2, 3] rfl
  have hDc_2 := hD.sub (ws' := [px_o mo 11 fmo, px_i ms (y 1) 765 fms]) [2, 3] (by decide +kernel) rfl
  have hFc_2 := va_free (wc := [px_o mo 11 fmo, px_i ms (y 1) 765 fms]) hD hS hA [2, 3] rfl
  refine va_calli (va_runV (As := []) (rest := [.int (-1)]) ⟨hx, hb, hml, hown, hg⟩ (c_X11_first l D y H.size mo fmo ms fms hmo_0 hmo_6 hmo_47 hms_e1) (cwV 0 hg (px_gV q_8_119 q_8_120 q_8_121 q_1_15 q_8_122) rfl rfl rfl (by decide +kernel) ⟨Nat.le_of_ble_eq_true rfl, Nat.le_of_ble_eq_true rfl⟩) (px_preV hK hPc_2 hDc_2 (ci := 11) (q0 := 0) rfl rfl) rfl rfl hl.1 rfl (lv_room (Nat.le_of_ble_eq_true rfl)) dL_law_1018 ⟨Nat.le_of_ble_eq_true rfl, Nat.le_of_ble_eq_true rfl⟩) hS (fun q _ h => hFc_2 q h) hFc_2 (fun r_2 u_2 t_2 H_2 locs_2 ht_2 hvm_2 hw_2 hB_2 hz_2 hk_2 hS_2 => ?_)
  refine W.cs (cells' := 77) (slots' := 199433) rfl rfl ?_
  obtain ⟨hP_2, hD_2⟩ := va_join (wr := [px_o x 10 fx, px_o g 2 fg]) (w1 := []) hP hD [2, 3] [0, 1] rfl rfl (by decide +kernel) (by decide +kernel) hk_2 hFc_2 (fun k q h => by simp at h) ⟨fun i j p q h => by simp at h, fun k q h => by simp at h⟩
  clear hP hD hS hPc_2 hDc_2 hFc_2 hz_2 hk_2 hvm_2 ht_2 hB_2
  have hP : va_P D vwCl [px_o x 10 fx, px_o g 2 fg] H_2 := hP_2
  have hD : va_D A [px_o x 10 fx, px_o g 2 fg] := hD_2
  have hS := hS_2
  clear hP_2 hD_2 hS_2
  obtain rfl : r_2 = (-1) := hw_2
  refine lv_icmp_eq (tgt := 1472) hx hb dL_law_1021 (by decide) (fun _ => ?_) (fun c_3 => absurd c_3 (by decide))
  refine W.widen (k := 600002) (n := 7302232) (Nat.le_of_ble_eq_true rfl) (Nat.le_of_ble_eq_true rfl) ?_
  exact law_end C0 hAe hS (lv_sub hl [0, 4] rfl)

set_option maxHeartbeats 4000000 in
set_option maxRecDepth 100000 in
theorem law_23 {p : Program} {l : Launch} {e : Env} {s : State} {m : MethodId} {below : List Frame} {meth : Method} {c : Code} {b : Nat} {xs : Nat → Int32} {D : va_G} {y : Nat → ClassId} {ad : Nat → Nat} {bb : Nat → Int32} (hst : l.stackTraces = false) (C0 : lw_At p s m meth c b 6 xs) (hK : va_K D vwCl (px_tys y) s) (hYY : px_Y ad bb (fun q : Nat => s.heap.size ≤ q) s s.heap) (x : Nat) (mo : Nat) (ou : Nat) (fx : List Value) (g : Nat) (fg : List Value) (fmo : List Value) (ms : Nat) (fms : Nat → Int32) (hx_3 : px_g fx 3 (.ref g)) (hg_1 : px_g fg 1 (.int 0)) (hmo_0 : px_g fmo 0 (.int 0)) (hmo_6 : px_g fmo 6 (.ref ms)) (hms_e1 : fms 1 = 0) {H : Heap} {locs : List Loc} {ls : Array Slot} (hP : va_P D vwCl [px_o x 10 fx, px_o g 2 fg, px_o mo 11 fmo, px_i ms (y 1) 765 fms] H) (hD : va_D (fun q : Nat => s.heap.size ≤ q) [px_o x 10 fx, px_o g 2 fg, px_o mo 11 fmo, px_i ms (y 1) 765 fms]) (hS : va_S (fun q : Nat => s.heap.size ≤ q) s.heap H locs) (hl : lv_has ls 8 [(4, .int 0), (3, .ref ou), (2, .ref mo), (1, .ref x), (0, .ref b)]) : W p l e room_1 s m #[Value.ref b] below meth c H locs 77 199433 (lw_Z below #[Value.ref b] s) (F0 m 1026 ls []) := by
  obtain ⟨hx, hb, hr, hml, hown, hts, hX, hbl, hlocks, hgv⟩ := id C0
  have hg := gw_hts hts
  have hown : s.vm.findClass RL = some m.cls := hown
  have hXX := hYY.x
  generalize hAe : (fun q : Nat => s.heap.size ≤ q) = A at hYY hD hS
  have hA : ∀ q : Nat, s.heap.size ≤ q → A q := fun q h => by rw [← hAe]; exact h
  have hbA : ¬ A b := by rw [← hAe]; exact Nat.not_le.mpr hbl
  refine lv_aload_n hx hb dL_law_1026 rfl (lv_at hl 3 rfl) ?_
  refine lv_aload_n hx hb dL_law_1027 rfl (lv_at hl 4 rfl) ?_
  refine lv_iload hx hb dL_law_1028 (lv_at hl 0 rfl) ?_
  refine lv_iconst (v := 1) hx hb dL_law_1030 (by decide) ?_
  refine lv_iadd hx hb dL_law_1031 ?_
  refine px_top (v := 1) (by decide) ?_
  refine va_sld hx hb hX hbl hbA hS (i := 1) (px_in (by decide)) dL_law_1032 ?_
  refine px_top (v := xs 1) rfl ?_
  refine lv_aload_n hx hb dL_law_1033 rfl (lv_at hl 4 rfl) ?_
  refine lv_iload hx hb dL_law_1034 (lv_at hl 0 rfl) ?_
  refine lv_iconst (v := 2) hx hb dL_law_1036 (by decide) ?_
  refine lv_iadd hx hb dL_law_1037 ?_
  refine px_top (v := 2) (by decide) ?_
  refine va_sld hx hb hX hbl hbA hS (i := 2) (px_in (by decide)) dL_law_1038 ?_
  refine px_top (v := xs 2) rfl ?_
  have hPc_1 := hP.sub (ws' := [px_o x 10 fx, px_o g 2 fg]) [0, 1] rfl
  have hDc_1 := hD.sub (ws' := [px_o x 10 fx, px_o g 2 fg]) [0, 1] (by decide +kernel) rfl
  refine vp_callSi (va_Run.run (va_runV (As := [.int (xs 1), .int (xs 2)]) (rest := []) ⟨hx, hb, hml, hown, hg⟩ (c_X10_bent l D y H.size x fx g fg (xs 1) (xs 2) hx_3 hg_1) (cwV 2 hg (px_gV q_5_6 q_5_7 q_5_8 q_1_1 q_5_9) rfl rfl rfl (by decide +kernel) ⟨Nat.le_of_ble_eq_true rfl, Nat.le_of_ble_eq_true rfl⟩) (px_preV hK hPc_1 hDc_1 (ci := 10) (q0 := 0) rfl rfl) rfl rfl hl.1 rfl (lv_room (Nat.le_of_ble_eq_true rfl)) dL_law_1039 ⟨Nat.le_of_ble_eq_true rfl, Nat.le_of_ble_eq_true rfl⟩)) (fun r_1 hw_1 => ?_)
  clear hPc_1 hDc_1
  obtain rfl : r_1 = (-1) := hw_1
  refine lv_aload_n hx hb dL_law_1042 rfl (lv_at hl 2 rfl) ?_
  refine lv_aload_n hx hb dL_law_1043 rfl (lv_at hl 4 rfl) ?_
  refine lv_iload hx hb dL_law_1044 (lv_at hl 0 rfl) ?_
  refine lv_iconst (v := 1) hx hb dL_law_1046 (by decide) ?_
  refine lv_iadd hx hb dL_law_1047 ?_
  refine px_top (v := 1) (by decide) ?_
  refine va_sld hx hb hX hbl hbA hS (i := 1) (px_in (by decide)) dL_law_1048 ?_
  refine px_top (v := xs 1) rfl ?_
  refine lv_aload_n hx hb dL_law_1049 rfl (lv_at hl 4 rfl) ?_
  refine lv_iload hx hb dL_law_1050 (lv_at hl 0 rfl) ?_
  refine lv_iconst (v := 2) hx hb dL_law_1052 (by decide) ?_
  refine lv_iadd hx hb dL_law_1053 ?_
  refine px_top (v := 2) (by decide) ?_
  refine va_sld hx hb hX hbl hbA hS (i := 2) (px_in (by decide)) dL_law_1054 ?_
  refine px_top (v := xs 2) rfl ?_
  have hPc_2 := hP.sub (ws' := [px_o mo 11 fmo, px_i ms (y 1) 765 fms]) [2, 3] rfl
  have hDc_2 := hD.sub (ws' := [px_o mo 11 fmo, px_i ms (y 1) 765 fms]) [2, 3] (by decide +kernel) rfl
  have hFc_2 := va_free (wc := [px_o mo 11 fmo, px_i ms (y 1) 765 fms]) hD hS hA [2, 3] rfl
  refine va_calli (va_runV (As := [.int (xs 1), .int (xs 2)]) (rest := [.int (-1)]) ⟨hx, hb, hml, hown, hg⟩ (c_X11_bent l D y H.size mo fmo ms fms (xs 1) (xs 2) hmo_0 hmo_6 hms_e1) (cwV 2 hg (px_gV q_8_123 q_8_124 q_8_125 q_1_15 q_8_126) rfl rfl rfl (by decide +kernel) ⟨Nat.le_of_ble_eq_true rfl, Nat.le_of_ble_eq_true rfl⟩) (px_preV hK hPc_2 hDc_2 (ci := 11) (q0 := 0) rfl rfl) rfl rfl hl.1 rfl (lv_room (Nat.le_of_ble_eq_true rfl)) dL_law_1055 ⟨Nat.le_of_ble_eq_true rfl, Nat.le_of_ble_eq_true rfl⟩) hS (fun q _ h => hFc_2 q h) hFc_2 (fun r_2 u_2 t_2 H_2 locs_2 ht_2 hvm_2 hw_2 hB_2 hz_2 hk_2 hS_2 => ?_)
  refine W.cs (cells' := 77) (slots' := 199433) rfl rfl ?_
  obtain ⟨hP_2, hD_2⟩ := va_join (wr := [px_o x 10 fx, px_o g 2 fg]) (w1 := []) hP hD [2, 3] [0, 1] rfl rfl (by decide +kernel) (by decide +kernel) hk_2 hFc_2 (fun k q h => by simp at h) ⟨fun i j p q h => by simp at h, fun k q h => by simp at h⟩
  clear hP hD hS hPc_2 hDc_2 hFc_2 hz_2 hk_2 hvm_2 ht_2 hB_2
  have hP : va_P D vwCl [px_o x 10 fx, px_o g 2 fg] H_2 := hP_2
  have hD : va_D A [px_o x 10 fx, px_o g 2 fg] := hD_2
  have hS := hS_2
  clear hP_2 hD_2 hS_2
  obtain rfl : r_2 = (-1) := hw_2
  refine lv_icmp_eq (tgt := 1472) hx hb dL_law_1058 (by decide) (fun _ => ?_) (fun c_3 => absurd c_3 (by decide))
  refine W.widen (k := 600002) (n := 7302232) (Nat.le_of_ble_eq_true rfl) (Nat.le_of_ble_eq_true rfl) ?_
  exact law_end C0 hAe hS (lv_sub hl [0, 4] rfl)
