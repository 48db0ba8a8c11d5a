set_option maxHeartbeats 4000000 in
set_option maxRecDepth 100000 in
theorem law_24 {p : Program} {l : Launch} {e : Env} {s : State} {m : MethodId} {below : List Frame} {meth : Method} {c : Code} {b : Nat} {xs : Nat → Int32} {D : va_G} {y : Nat → ClassId} {ad : Nat → Nat} {bb : Nat → Int32} (hst : l.stackTraces = false) (C0 : lw_At p s m meth c b 6 xs) (hK : va_K D vwCl (px_tys y) s) (hYY : px_Y ad bb (fun q : Nat => s.heap.size ≤ q) s s.heap) (x : Nat) (mo : Nat) (ou : Nat) (fx : List Value) (g : Nat) (fg : List Value) (fmo : List Value) (ms : Nat) (fms : Nat → Int32) (hx_1 : px_g fx 1 (.int 0)) (hx_3 : px_g fx 3 (.ref g)) (hg_1 : px_g fg 1 (.int 0)) (hmo_0 : px_g fmo 0 (.int 0)) (hmo_2 : px_g fmo 2 (.int 0)) (hmo_3 : px_g fmo 3 (.int 0)) (hmo_4 : px_g fmo 4 (.int 0)) (hmo_5 : px_g fmo 5 (.int 0)) (hmo_6 : px_g fmo 6 (.ref ms)) (hms_e1 : fms 1 = 0) {H : Heap} {locs : List Loc} {ls : Array Slot} (hP : va_P D vwCl [px_o x 10 fx, px_o g 2 fg, px_o mo 11 fmo, px_i ms (y 1) 765 fms] H) (hD : va_D (fun q : Nat => s.heap.size ≤ q) [px_o x 10 fx, px_o g 2 fg, px_o mo 11 fmo, px_i ms (y 1) 765 fms]) (hS : va_S (fun q : Nat => s.heap.size ≤ q) s.heap H locs) (hl : lv_has ls 8 [(4, .int 0), (3, .ref ou), (2, .ref mo), (1, .ref x), (0, .ref b)]) : W p l e room_1 s m #[Value.ref b] below meth c H locs 77 199433 (lw_Z below #[Value.ref b] s) (F0 m 1063 ls []) := by
  obtain ⟨hx, hb, hr, hml, hown, hts, hX, hbl, hlocks, hgv⟩ := id C0
  have hg := gw_hts hts
  have hown : s.vm.findClass RL = some m.cls := hown
  have hXX := hYY.x
  generalize hAe : (fun q : Nat => s.heap.size ≤ q) = A at hYY hD hS
  have hA : ∀ q : Nat, s.heap.size ≤ q → A q := fun q h => by rw [← hAe]; exact h
  have hbA : ¬ A b := by rw [← hAe]; exact Nat.not_le.mpr hbl
  refine lv_aload_n hx hb dL_law_1063 rfl (lv_at hl 3 rfl) ?_
  refine lv_aload_n hx hb dL_law_1064 rfl (lv_at hl 4 rfl) ?_
  refine lv_iload hx hb dL_law_1065 (lv_at hl 0 rfl) ?_
  refine lv_iconst (v := 1) hx hb dL_law_1067 (by decide) ?_
  refine lv_iadd hx hb dL_law_1068 ?_
  refine px_top (v := 1) (by decide) ?_
  refine va_sld hx hb hX hbl hbA hS (i := 1) (px_in (by decide)) dL_law_1069 ?_
  refine px_top (v := xs 1) rfl ?_
  have hPc_1 := hP.sub (ws' := [px_o x 10 fx, px_o g 2 fg]) [0, 1] rfl
  have hDc_1 := hD.sub (ws' := [px_o x 10 fx, px_o g 2 fg]) [0, 1] (by decide +kernel) rfl
  have hFc_1 := va_free (wc := [px_o x 10 fx, px_o g 2 fg]) hD hS hA [0, 1] rfl
  refine va_calli (va_runV (As := [.int (xs 1)]) (rest := []) ⟨hx, hb, hml, hown, hg⟩ (c_X10_play l D y H.size x fx g fg (xs 1) hx_1 hx_3 hg_1) (cwV 1 hg (px_gV q_5_39 q_5_40 q_5_41 q_1_1 q_5_42) rfl rfl rfl (by decide +kernel) ⟨Nat.le_of_ble_eq_true rfl, Nat.le_of_ble_eq_true rfl⟩) (px_preV hK hPc_1 hDc_1 (ci := 10) (q0 := 0) rfl rfl) rfl rfl hl.1 rfl (lv_room (Nat.le_of_ble_eq_true rfl)) dL_law_1070 ⟨Nat.le_of_ble_eq_true rfl, Nat.le_of_ble_eq_true rfl⟩) hS (fun q _ h => hFc_1 q h) hFc_1 (fun r_1 u_1 t_1 H_1 locs_1 ht_1 hvm_1 hw_1 hB_1 hz_1 hk_1 hS_1 => ?_)
  refine W.cs (cells' := 77) (slots' := 199433) rfl rfl ?_
  obtain ⟨hP_1, hD_1⟩ := va_join (wr := [px_o mo 11 fmo, px_i ms (y 1) 765 fms]) (w1 := []) hP hD [0, 1] [2, 3] rfl rfl (by decide +kernel) (by decide +kernel) hk_1 hFc_1 (fun k q h => by simp at h) ⟨fun i j p q h => by simp at h, fun k q h => by simp at h⟩
  clear hP hD hS hPc_1 hDc_1 hFc_1 hz_1 hk_1 hvm_1 ht_1 hB_1
  have hP : va_P D vwCl [px_o mo 11 fmo, px_i ms (y 1) 765 fms] H_1 := hP_1
  have hD : va_D A [px_o mo 11 fmo, px_i ms (y 1) 765 fms] := hD_1
  have hS := hS_1
  clear hP_1 hD_1 hS_1
  obtain rfl : r_1 = (-1) := hw_1
  refine lv_aload_n hx hb dL_law_1073 rfl (lv_at hl 2 rfl) ?_
  refine lv_aload_n hx hb dL_law_1074 rfl (lv_at hl 4 rfl) ?_
  refine lv_iload hx hb dL_law_1075 (lv_at hl 0 rfl) ?_
  refine lv_iconst (v := 1) hx hb dL_law_1077 (by decide) ?_
  refine lv_iadd hx hb dL_law_1078 ?_
  refine px_top (v := 1) (by decide) ?_
  refine va_sld hx hb hX hbl hbA hS (i := 1) (px_in (by decide)) dL_law_1079 ?_
  refine px_top (v := xs 1) rfl ?_
  have hPc_2 := hP.sub (ws' := [px_o mo 11 fmo, px_i ms (y 1) 765 fms]) [0, 1] rfl
  have hDc_2 := hD.sub (ws' := [px_o mo 11 fmo, px_i ms (y 1) 765 fms]) [0, 1] (by decide +kernel) rfl
  have hFc_2 := va_free (wc := [px_o mo 11 fmo, px_i ms (y 1) 765 fms]) hD hS hA [0, 1] rfl
  refine va_calli (va_runV (As := [.int (xs 1)]) (rest := [.int (-1)]) ⟨hx, hb, hml, hown, hg⟩ (c_X11_play l D y H_1.size mo fmo ms fms (xs 1) hmo_0 hmo_2 hmo_3 hmo_4 hmo_5 hmo_6 hms_e1) (cwV 1 hg (px_gV q_8_135 q_8_136 q_8_137 q_1_15 q_8_138) rfl rfl rfl (by decide +kernel) ⟨Nat.le_of_ble_eq_true rfl, Nat.le_of_ble_eq_true rfl⟩) (px_preV hK hPc_2 hDc_2 (ci := 11) (q0 := 0) rfl rfl) rfl rfl hl.1 rfl (lv_room (Nat.le_of_ble_eq_true rfl)) dL_law_1080 ⟨Nat.le_of_ble_eq_true rfl, Nat.le_of_ble_eq_true rfl⟩) hS (fun q _ h => hFc_2 q h) hFc_2 (fun r_2 u_2 t_2 H_2 locs_2 ht_2 hvm_2 hw_2 hB_2 hz_2 hk_2 hS_2 => ?_)
  refine W.cs (cells' := 77) (slots' := 199433) rfl rfl ?_
  obtain ⟨hP_2, hD_2⟩ := va_join (wr := []) (w1 := []) hP hD [0, 1] [] rfl rfl (by decide +kernel) (by decide +kernel) hk_2 hFc_2 (fun k q h => by simp at h) ⟨fun i j p q h => by simp at h, fun k q h => by simp at h⟩
  clear hP hD hS hPc_2 hDc_2 hFc_2 hz_2 hk_2 hvm_2 ht_2 hB_2
  have hP : va_P D vwCl [] H_2 := hP_2
  have hD : va_D A [] := hD_2
  have hS := hS_2
  clear hP_2 hD_2 hS_2
  obtain rfl : r_2 = (-1) := hw_2
  refine lv_icmp_eq (tgt := 1472) hx hb dL_law_1083 (by decide) (fun _ => ?_) (fun c_3 => absurd c_3 (by decide))
  refine W.widen (k := 600002) (n := 7302232) (Nat.le_of_ble_eq_true rfl) (Nat.le_of_ble_eq_true rfl) ?_
  exact law_end C0 hAe hS (lv_sub hl [0, 4] rfl)

set_option maxHeartbeats 4000000 in
set_option maxRecDepth 100000 in
theorem law_25 {p : Program} {l : Launch} {e : Env} {s : State} {m : MethodId} {below : List Frame} {meth : Method} {c : Code} {b : Nat} {xs : Nat → Int32} {D : va_G} {y : Nat → ClassId} {ad : Nat → Nat} {bb : Nat → Int32} (hst : l.stackTraces = false) (C0 : lw_At p s m meth c b 6 xs) (hK : va_K D vwCl (px_tys y) s) (hYY : px_Y ad bb (fun q : Nat => s.heap.size ≤ q) s s.heap) (x : Nat) (mo : Nat) (ou : Nat) (fx : List Value) (g : Nat) (fg : List Value) (fmo : List Value) (ms : Nat) (fms : Nat → Int32) (hx_3 : px_g fx 3 (.ref g)) (hg_1 : px_g fg 1 (.int 0)) (hmo_0 : px_g fmo 0 (.int 0)) (hmo_6 : px_g fmo 6 (.ref ms)) (hms_e1 : fms 1 = 0) {H : Heap} {locs : List Loc} {ls : Array Slot} (hP : va_P D vwCl [px_o x 10 fx, px_o g 2 fg, px_o mo 11 fmo, px_i ms (y 1) 765 fms] H) (hD : va_D (fun q : Nat => s.heap.size ≤ q) [px_o x 10 fx, px_o g 2 fg, px_o mo 11 fmo, px_i ms (y 1) 765 fms]) (hS : va_S (fun q : Nat => s.heap.size ≤ q) s.heap H locs) (hl : lv_has ls 8 [(4, .int 0), (3, .ref ou), (2, .ref mo), (1, .ref x), (0, .ref b)]) : W p l e room_1 s m #[Value.ref b] below meth c H locs 77 199433 (lw_Z below #[Value.ref b] s) (F0 m 1088 ls []) := by
  obtain ⟨hx, hb, hr, hml, hown, hts, hX, hbl, hlocks, hgv⟩ := id C0
  have hg := gw_hts hts
  have hown : s.vm.findClass RL = some m.cls := hown
  have hXX := hYY.x
  generalize hAe : (fun q : Nat => s.heap.size ≤ q) = A at hYY hD hS
  have hA : ∀ q : Nat, s.heap.size ≤ q → A q := fun q h => by rw [← hAe]; exact h
  have hbA : ¬ A b := by rw [← hAe]; exact Nat.not_le.mpr hbl
  refine lv_aload_n hx hb dL_law_1088 rfl (lv_at hl 3 rfl) ?_
  refine lv_aload_n hx hb dL_law_1089 rfl (lv_at hl 4 rfl) ?_
  refine lv_iload hx hb dL_law_1090 (lv_at hl 0 rfl) ?_
  refine lv_iconst (v := 1) hx hb dL_law_1092 (by decide) ?_
  refine lv_iadd hx hb dL_law_1093 ?_
  refine px_top (v := 1) (by decide) ?_
  refine va_sld hx hb hX hbl hbA hS (i := 1) (px_in (by decide)) dL_law_1094 ?_
  refine px_top (v := xs 1) rfl ?_
  refine lv_aload_n hx hb dL_law_1095 rfl (lv_at hl 4 rfl) ?_
  refine lv_iload hx hb dL_law_1096 (lv_at hl 0 rfl) ?_
  refine lv_iconst (v := 2) hx hb dL_law_1098 (by decide) ?_
  refine lv_iadd hx hb dL_law_1099 ?_
  refine px_top (v := 2) (by decide) ?_
  refine va_sld hx hb hX hbl hbA hS (i := 2) (px_in (by decide)) dL_law_1100 ?_
  refine px_top (v := xs 2) rfl ?_
  have hPc_1 := hP.sub (ws' := [px_o x 10 fx, px_o g 2 fg]) [0, 1] rfl
  have hDc_1 := hD.sub (ws' := [px_o x 10 fx, px_o g 2 fg]) [0, 1] (by decide +kernel) rfl
  refine vp_callSi (va_Run.run (va_runV (As := [.int (xs 1), .int (xs 2)]) (rest := []) ⟨hx, hb, hml, hown, hg⟩ (c_X10_deal l D y H.size x fx g fg (xs 1) (xs 2) hx_3 hg_1) (cwV 2 hg (px_gV q_5_47 q_5_48 q_5_49 q_1_1 q_5_50) rfl rfl rfl (by decide +kernel) ⟨Nat.le_of_ble_eq_true rfl, Nat.le_of_ble_eq_true rfl⟩) (px_preV hK hPc_1 hDc_1 (ci := 10) (q0 := 0) rfl rfl) rfl rfl hl.1 rfl (lv_room (Nat.le_of_ble_eq_true rfl)) dL_law_1101 ⟨Nat.le_of_ble_eq_true rfl, Nat.le_of_ble_eq_true rfl⟩)) (fun r_1 hw_1 => ?_)
  clear hPc_1 hDc_1
  obtain rfl : r_1 = 0 := hw_1
  refine lv_aload_n hx hb dL_law_1104 rfl (lv_at hl 2 rfl) ?_
  refine lv_aload_n hx hb dL_law_1105 rfl (lv_at hl 4 rfl) ?_
  refine lv_iload hx hb dL_law_1106 (lv_at hl 0 rfl) ?_
  refine lv_iconst (v := 1) hx hb dL_law_1108 (by decide) ?_
  refine lv_iadd hx hb dL_law_1109 ?_
  refine px_top (v := 1) (by decide) ?_
  refine va_sld hx hb hX hbl hbA hS (i := 1) (px_in (by decide)) dL_law_1110 ?_
  refine px_top (v := xs 1) rfl ?_
  refine lv_aload_n hx hb dL_law_1111 rfl (lv_at hl 4 rfl) ?_
  refine lv_iload hx hb dL_law_1112 (lv_at hl 0 rfl) ?_
  refine lv_iconst (v := 2) hx hb dL_law_1114 (by decide) ?_
  refine lv_iadd hx hb dL_law_1115 ?_
  refine px_top (v := 2) (by decide) ?_
  refine va_sld hx hb hX hbl hbA hS (i := 2) (px_in (by decide)) dL_law_1116 ?_
  refine px_top (v := xs 2) rfl ?_
  have hPc_2 := hP.sub (ws' := [px_o mo 11 fmo, px_i ms (y 1) 765 fms]) [2, 3] rfl
  have hDc_2 := hD.sub (ws' := [px_o mo 11 fmo, px_i ms (y 1) 765 fms]) [2, 3] (by decide +kernel) rfl
  have hFc_2 := va_free (wc := [px_o mo 11 fmo, px_i ms (y 1) 765 fms]) hD hS hA [2, 3] rfl
  refine va_calli (va_runV (As := [.int (xs 1), .int (xs 2)]) (rest := [.int 0]) ⟨hx, hb, hml, hown, hg⟩ (c_X11_deal l D y H.size mo fmo ms fms (xs 1) (xs 2) hmo_0 hmo_6 hms_e1) (cwV 2 hg (px_gV q_8_147 q_8_148 q_8_149 q_1_15 q_8_150) rfl rfl rfl (by decide +kernel) ⟨Nat.le_of_ble_eq_true rfl, Nat.le_of_ble_eq_true rfl⟩) (px_preV hK hPc_2 hDc_2 (ci := 11) (q0 := 0) rfl rfl) rfl rfl hl.1 rfl (lv_room (Nat.le_of_ble_eq_true rfl)) dL_law_1117 ⟨Nat.le_of_ble_eq_true rfl, Nat.le_of_ble_eq_true rfl⟩) hS (fun q _ h => hFc_2 q h) hFc_2 (fun r_2 u_2 t_2 H_2 locs_2 ht_2 hvm_2 hw_2 hB_2 hz_2 hk_2 hS_2 => ?_)
  refine W.cs (cells' := 77) (slots' := 199433) rfl rfl ?_
  obtain ⟨hP_2, hD_2⟩ := va_join (wr := [px_o x 10 fx, px_o g 2 fg]) (w1 := []) hP hD [2, 3] [0, 1] rfl rfl (by decide +kernel) (by decide +kernel) hk_2 hFc_2 (fun k q h => by simp at h) ⟨fun i j p q h => by simp at h, fun k q h => by simp at h⟩
  clear hP hD hS hPc_2 hDc_2 hFc_2 hz_2 hk_2 hvm_2 ht_2 hB_2
  have hP : va_P D vwCl [px_o x 10 fx, px_o g 2 fg] H_2 := hP_2
  have hD : va_D A [px_o x 10 fx, px_o g 2 fg] := hD_2
  have hS := hS_2
  clear hP_2 hD_2 hS_2
  obtain rfl : r_2 = 0 := hw_2
  refine lv_icmp_eq (tgt := 1472) hx hb dL_law_1120 (by decide) (fun _ => ?_) (fun c_3 => absurd c_3 (by decide))
  refine W.widen (k := 600002) (n := 7302232) (Nat.le_of_ble_eq_true rfl) (Nat.le_of_ble_eq_true rfl) ?_
  exact law_end C0 hAe hS (lv_sub hl [0, 4] rfl)

set_option maxHeartbeats 4000000 in
set_option maxRecDepth 100000 in
theorem law_26 {p : Program} {l : Launch} {e : Env} {s : State} {m : MethodId} {below : List Frame} {meth : Method} {c : Code} {b : Nat} {xs : Nat → Int32} {D : va_G} {y : Nat → ClassId} {ad : Nat → Nat} {bb : Nat → Int32} (hst : l.stackTraces = false) (C0 : lw_At p s m meth c b 6 xs) (hK : va_K D vwCl (px_tys y) s) (hYY : px_Y ad bb (fun q : Nat => s.heap.size ≤ q) s s.heap) (x : Nat) (mo : Nat) (ou : Nat) (fx : List Value) (g : Nat) (fg : List Value) (fmo : List Value) (ms : Nat) (fms : Nat → Int32) (hx_3 : px_g fx 3 (.ref g)) (hg_1 : px_g fg 1 (.int 0)) (hmo_0 : px_g fmo 0 (.int 0)) (hmo_6 : px_g fmo 6 (.ref ms)) (hms_e1 : fms 1 = 0) {H : Heap} {locs : List Loc} {ls : Array Slot} (hP : va_P D vwCl [px_o x 10 fx, px_o g 2 fg, px_o mo 11 fmo, px_i ms (y 1) 765 fms] H) (hD : va_D (fun q : Nat => s.heap.size ≤ q) [px_o x 10 fx, px_o g 2 fg, px_o mo 11 fmo, px_i ms (y 1) 765 fms]) (hS : va_S (fun q : Nat => s.heap.size ≤ q) s.heap H locs) (hl : lv_has ls 8 [(4, .int 0), (3, .ref ou), (2, .ref mo), (1, .ref x), (0, .ref b)]) : W p l e room_1 s m #[Value.ref b] below meth c H locs 77 199433 (lw_Z below #[Value.ref b] s) (F0 m 1125 ls []) := by
  obtain ⟨hx, hb, hr, hml, hown, hts, hX, hbl, hlocks, hgv⟩ := id C0
  have hg := gw_hts hts
  have hown : s.vm.findClass RL = some m.cls := hown
  have hXX := hYY.x
  generalize hAe : (fun q : Nat => s.heap.size ≤ q) = A at hYY hD hS
  have hA : ∀ q : Nat, s.heap.size ≤ q → A q := fun q h => by rw [← hAe]; exact h
  have hbA : ¬ A b := by rw [← hAe]; exact Nat.not_le.mpr hbl
  refine lv_aload_n hx hb dL_law_1125 rfl (lv_at hl 3 rfl) ?_
  refine lv_aload_n hx hb dL_law_1126 rfl (lv_at hl 4 rfl) ?_
  refine lv_iload hx hb dL_law_1127 (lv_at hl 0 rfl) ?_
  refine lv_iconst (v := 1) hx hb dL_law_1129 (by decide) ?_
  refine lv_iadd hx hb dL_law_1130 ?_
  refine px_top (v := 1) (by decide) ?_
  refine va_sld hx hb hX hbl hbA hS (i := 1) (px_in (by decide)) dL_law_1131 ?_
  refine px_top (v := xs 1) rfl ?_
  refine lv_aload_n hx hb dL_law_1132 rfl (lv_at hl 4 rfl) ?_
  refine lv_iload hx hb dL_law_1133 (lv_at hl 0 rfl) ?_
  refine lv_iconst (v := 2) hx hb dL_law_1135 (by decide) ?_
  refine lv_iadd hx hb dL_law_1136 ?_
  refine px_top (v := 2) (by decide) ?_
  refine va_sld hx hb hX hbl hbA hS (i := 2) (px_in (by decide)) dL_law_1137 ?_
  refine px_top (v := xs 2) rfl ?_
  refine lv_aload_n hx hb dL_law_1138 rfl (lv_at hl 4 rfl) ?_
  refine lv_iload hx hb dL_law_1139 (lv_at hl 0 rfl) ?_
  refine lv_iconst (v := 3) hx hb dL_law_1141 (by decide) ?_
  refine lv_iadd hx hb dL_law_1142 ?_
  refine px_top (v := 3) (by decide) ?_
  refine va_sld hx hb hX hbl hbA hS (i := 3) (px_in (by decide)) dL_law_1143 ?_
  refine px_top (v := xs 3) rfl ?_
  refine lv_aload_n hx hb dL_law_1144 rfl (lv_at hl 4 rfl) ?_
  refine lv_iload hx hb dL_law_1145 (lv_at hl 0 rfl) ?_
  refine lv_iconst (v := 4) hx hb dL_law_1147 (by decide) ?_
  refine lv_iadd hx hb dL_law_1148 ?_
  refine px_top (v := 4) (by decide) ?_
  refine va_sld hx hb hX hbl hbA hS (i := 4) (px_in (by decide)) dL_law_1149 ?_
  refine px_top (v := xs 4) rfl ?_
  have hPc_1 := hP.sub (ws' := [px_o x 10 fx, px_o g 2 fg]) [0, 1] rfl
  have hDc_1 := hD.sub (ws' := [px_o x 10 fx, px_o g 2 fg]) [0, 1] (by decide +kernel) rfl
  refine vp_callSi (va_Run.run (va_runV (As := [.int (xs 1), .int (xs 2), .int (xs 3), .int (xs 4)]) (rest := []) ⟨hx, hb, hml, hown, hg⟩ (c_X10_games l D y H.size x fx g fg (xs 1) (xs 2) (xs 3) (xs 4) hx_3 hg_1) (cwV 4 hg (px_gV q_5_61 q_5_62 q_5_63 q_1_1 q_5_64) rfl rfl rfl (by decide +kernel) ⟨Nat.le_of_ble_eq_true rfl, Nat.le_of_ble_eq_true rfl⟩) (px_preV hK hPc_1 hDc_1 (ci := 10) (q0 := 0) rfl rfl) rfl rfl hl.1 rfl (lv_room (Nat.le_of_ble_eq_true rfl)) dL_law_1150 ⟨Nat.le_of_ble_eq_true rfl, Nat.le_of_ble_eq_true rfl⟩)) (fun r_1 hw_1 => ?_)
  clear hPc_1 hDc_1
  obtain rfl : r_1 = (-1) := hw_1
  refine lv_aload_n hx hb dL_law_1153 rfl (lv_at hl 2 rfl) ?_
  refine lv_aload_n hx hb dL_law_1154 rfl (lv_at hl 4 rfl) ?_
  refine lv_iload hx hb dL_law_1155 (lv_at hl 0 rfl) ?_
  refine lv_iconst (v := 1) hx hb dL_law_1157 (by decide) ?_
  refine lv_iadd hx hb dL_law_1158 ?_
  refine px_top (v := 1) (by decide) ?_
  refine va_sld hx hb hX hbl hbA hS (i := 1) (px_in (by decide)) dL_law_1159 ?_
  refine px_top (v := xs 1) rfl ?_
  refine lv_aload_n hx hb dL_law_1160 rfl (lv_at hl 4 rfl) ?_
  refine lv_iload hx hb dL_law_1161 (lv_at hl 0 rfl) ?_
  refine lv_iconst (v := 2) hx hb dL_law_1163 (by decide) ?_
  refine lv_iadd hx hb dL_law_1164 ?_
  refine px_top (v := 2) (by decide) ?_
  refine va_sld hx hb hX hbl hbA hS (i := 2) (px_in (by decide)) dL_law_1165 ?_
  refine px_top (v := xs 2) rfl ?_
  refine lv_aload_n hx hb dL_law_1166 rfl (lv_at hl 4 rfl) ?_
  refine lv_iload hx hb dL_law_1167 (lv_at hl 0 rfl) ?_
  refine lv_iconst (v := 3) hx hb dL_law_1169 (by decide) ?_
  refine lv_iadd hx hb dL_law_1170 ?_
  refine px_top (v := 3) (by decide) ?_
  refine va_sld hx hb hX hbl hbA hS (i := 3) (px_in (by decide)) dL_law_1171 ?_
  refine px_top (v := xs 3) rfl ?_
  refine lv_aload_n hx hb dL_law_1172 rfl (lv_at hl 4 rfl) ?_
  refine lv_iload hx hb dL_law_1173 (lv_at hl 0 rfl) ?_
  refine lv_iconst (v := 4) hx hb dL_law_1175 (by decide) ?_
  refine lv_iadd hx hb dL_law_1176 ?_
  refine px_top (v := 4) (by decide) ?_
  refine va_sld hx hb hX hbl hbA hS (i := 4) (px_in (by decide)) dL_law_1177 ?_
  refine px_top (v := xs 4) rfl ?_
  have hPc_2 := hP.sub (ws' := [px_o mo 11 fmo, px_i ms (y 1) 765 fms]) [2, 3] rfl
  have hDc_2 := hD.sub (ws' := [px_o mo 11 fmo, px_i ms (y 1) 765 fms]) [2, 3] (by decide +kernel) rfl
  have hFc_2 := va_free (wc := [px_o mo 11 fmo, px_i ms (y 1) 765 fms]) hD hS hA [2, 3] rfl
  refine va_calli (va_runV (As := [.int (xs 1), .int (xs 2), .int (xs 3), .int (xs 4)]) (rest := [.int (-1)]) ⟨hx, hb, hml, hown, hg⟩ (c_X11_games l D y H.size mo fmo ms fms (xs 1) (xs 2) (xs 3) (xs 4) hmo_0 hmo_6 hms_e1) (cwV 4 hg (px_gV q_8_160 q_8_161 q_8_162 q_1_15 q_8_163) rfl rfl rfl (by decide +kernel) ⟨Nat.le_of_ble_eq_true rfl, Nat.le_of_ble_eq_true rfl⟩) (px_preV hK hPc_2 hDc_2 (ci := 11) (q0 := 0) rfl rfl) rfl rfl hl.1 rfl (lv_room (Nat.le_of_ble_eq_true rfl)) dL_law_1178 ⟨Nat.le_of_ble_eq_true rfl, Nat.le_of_ble_eq_true rfl⟩) hS (fun q _ h => hFc_2 q h) hFc_2 (fun r_2 u_2 t_2 H_2 locs_2 ht_2 hvm_2 hw_2 hB_2 hz_2 hk_2 hS_2 => ?_)
  refine W.cs (cells' := 77) (slots' := 199433) rfl rfl ?_
  obtain ⟨hP_2, hD_2⟩ := va_join (wr := [px_o x 10 fx, px_o g 2 fg]) (w1 := []) hP hD [2, 3] [0, 1] rfl rfl (by decide +kernel) (by decide +kernel) hk_2 hFc_2 (fun k q h => by simp at h) ⟨fun i j p q h => by simp at h, fun k q h => by simp at h⟩
  clear hP hD hS hPc_2 hDc_2 hFc_2 hz_2 hk_2 hvm_2 ht_2 hB_2
  have hP : va_P D vwCl [px_o x 10 fx, px_o g 2 fg] H_2 := hP_2
  have hD : va_D A [px_o x 10 fx, px_o g 2 fg] := hD_2
  have hS := hS_2
  clear hP_2 hD_2 hS_2
  obtain rfl : r_2 = (-1) := hw_2
  refine lv_icmp_eq (tgt := 1472) hx hb dL_law_1181 (by decide) (fun _ => ?_) (fun c_3 => absurd c_3 (by decide))
  refine W.widen (k := 600002) (n := 7302232) (Nat.le_of_ble_eq_true rfl) (Nat.le_of_ble_eq_true rfl) ?_
  exact law_end C0 hAe hS (lv_sub hl [0, 4] rfl)

set_option maxHeartbeats 4000000 in
set_option maxRecDepth 100000 in
theorem law_27 {p : Program} {l : Launch} {e : Env} {s : State} {m : MethodId} {below : List Frame} {meth : Method} {c : Code} {b : Nat} {xs : Nat → Int32} {D : va_G} {y : Nat → ClassId} {ad : Nat → Nat} {bb : Nat → Int32} (hst : l.stackTraces = false) (C0 : lw_At p s m meth c b 6 xs) (hK : va_K D vwCl (px_tys y) s) (hYY : px_Y ad bb (fun q : Nat => s.heap.size ≤ q) s s.heap) (x : Nat) (mo : Nat) (ou : Nat) (fx : List Value) (g : Nat) (fg : List Value) (fmo : List Value) (ms : Nat) (fms : Nat → Int32) (hx_3 : px_g fx 3 (.ref g)) (hg_1 : px_g fg 1 (.int 0)) (hmo_0 : px_g fmo 0 (.int 0)) (hmo_6 : px_g fmo 6 (.ref ms)) (hms_e1 : fms 1 = 0) {H : Heap} {locs : List Loc} {ls : Array Slot} (hP : va_P D vwCl [px_o x 10 fx, px_o g 2 fg, px_o mo 11 fmo, px_i ms (y 1) 765 fms] H) (hD : va_D (fun q : Nat => s.heap.size ≤ q) [px_o x 10 fx, px_o g 2 fg, px_o mo 11 fmo, px_i ms (y 1) 765 fms]) (hS : va_S (fun q : Nat => s.heap.size ≤ q) s.heap H locs) (hl : lv_has ls 8 [(4, .int 0), (3, .ref ou), (2, .ref mo), (1, .ref x), (0, .ref b)]) : W p l e room_1 s m #[Value.ref b] below meth c H locs 77 199433 (lw_Z below #[Value.ref b] s) (F0 m 1186 ls []) := by
  obtain ⟨hx, hb, hr, hml, hown, hts, hX, hbl, hlocks, hgv⟩ := id C0
  have hg := gw_hts hts
  have hown : s.vm.findClass RL = some m.cls := hown
  have hXX := hYY.x
  generalize hAe : (fun q : Nat => s.heap.size ≤ q) = A at hYY hD hS
  have hA : ∀ q : Nat, s.heap.size ≤ q → A q := fun q h => by rw [← hAe]; exact h
  have hbA : ¬ A b := by rw [← hAe]; exact Nat.not_le.mpr hbl
  refine lv_aload_n hx hb dL_law_1186 rfl (lv_at hl 3 rfl) ?_
  refine lv_aload_n hx hb dL_law_1187 rfl (lv_at hl 4 rfl) ?_
  refine lv_iload hx hb dL_law_1188 (lv_at hl 0 rfl) ?_
  refine lv_iconst (v := 1) hx hb dL_law_1190 (by decide) ?_
  refine lv_iadd hx hb dL_law_1191 ?_
  refine px_top (v := 1) (by decide) ?_
  refine va_sld hx hb hX hbl hbA hS (i := 1) (px_in (by decide)) dL_law_1192 ?_
  refine px_top (v := xs 1) rfl ?_
  refine lv_aload_n hx hb dL_law_1193 rfl (lv_at hl 4 rfl) ?_
  refine lv_iload hx hb dL_law_1194 (lv_at hl 0 rfl) ?_
  refine lv_iconst (v := 2) hx hb dL_law_1196 (by decide) ?_
  refine lv_iadd hx hb dL_law_1197 ?_
  refine px_top (v := 2) (by decide) ?_
  refine va_sld hx hb hX hbl hbA hS (i := 2) (px_in (by decide)) dL_law_1198 ?_
  refine px_top (v := xs 2) rfl ?_
  refine lv_aload_n hx hb dL_law_1199 rfl (lv_at hl 4 rfl) ?_
  refine lv_iload hx hb dL_law_1200 (lv_at hl 0 rfl) ?_
  refine lv_iconst (v := 3) hx hb dL_law_1202 (by decide) ?_
  refine lv_iadd hx hb dL_law_1203 ?_
  refine px_top (v := 3) (by decide) ?_
  refine va_sld hx hb hX hbl hbA hS (i := 3) (px_in (by decide)) dL_law_1204 ?_
  refine px_top (v := xs 3) rfl ?_
  refine lv_aload_n hx hb dL_law_1205 rfl (lv_at hl 4 rfl) ?_
  refine lv_iload hx hb dL_law_1206 (lv_at hl 0 rfl) ?_
  refine lv_iconst (v := 4) hx hb dL_law_1208 (by decide) ?_
  refine lv_iadd hx hb dL_law_1209 ?_
  refine px_top (v := 4) (by decide) ?_
  refine va_sld hx hb hX hbl hbA hS (i := 4) (px_in (by decide)) dL_law_1210 ?_
  refine px_top (v := xs 4) rfl ?_
  have hPc_1 := hP.sub (ws' := [px_o x 10 fx, px_o g 2 fg]) [0, 1] rfl
  have hDc_1 := hD.sub (ws' := [px_o x 10 fx, px_o g 2 fg]) [0, 1] (by decide +kernel) rfl
  refine vp_callSi (va_Run.run (va_runV (As := [.int (xs 1), .int (xs 2), .int (xs 3), .int (xs 4)]) (rest := []) ⟨hx, hb, hml, hown, hg⟩ (c_X10_length l D y H.size x fx g fg (xs 1) (xs 2) (xs 3) (xs 4) hx_3 hg_1) (cwV 4 hg (px_gV q_5_77 q_5_78 q_5_79 q_1_1 q_5_80) rfl rfl rfl (by decide +kernel) ⟨Nat.le_of_ble_eq_true rfl, Nat.le_of_ble_eq_true rfl⟩) (px_preV hK hPc_1 hDc_1 (ci := 10) (q0 := 0) rfl rfl) rfl rfl hl.1 rfl (lv_room (Nat.le_of_ble_eq_true rfl)) dL_law_1211 ⟨Nat.le_of_ble_eq_true rfl, Nat.le_of_ble_eq_true rfl⟩)) (fun r_1 hw_1 => ?_)
  clear hPc_1 hDc_1
  obtain rfl : r_1 = (-1) := hw_1
  refine lv_aload_n hx hb dL_law_1214 rfl (lv_at hl 2 rfl) ?_
  refine lv_aload_n hx hb dL_law_1215 rfl (lv_at hl 4 rfl) ?_
  refine lv_iload hx hb dL_law_1216 (lv_at hl 0 rfl) ?_
  refine lv_iconst (v := 1) hx hb dL_law_1218 (by decide) ?_
  refine lv_iadd hx hb dL_law_1219 ?_
  refine px_top (v := 1) (by decide) ?_
  refine va_sld hx hb hX hbl hbA hS (i := 1) (px_in (by decide)) dL_law_1220 ?_
  refine px_top (v := xs 1) rfl ?_
  refine lv_aload_n hx hb dL_law_1221 rfl (lv_at hl 4 rfl) ?_
  refine lv_iload hx hb dL_law_1222 (lv_at hl 0 rfl) ?_
  refine lv_iconst (v := 2) hx hb dL_law_1224 (by decide) ?_
  refine lv_iadd hx hb dL_law_1225 ?_
  refine px_top (v := 2) (by decide) ?_
  refine va_sld hx hb hX hbl hbA hS (i := 2) (px_in (by decide)) dL_law_1226 ?_
  refine px_top (v := xs 2) rfl ?_
  refine lv_aload_n hx hb dL_law_1227 rfl (lv_at hl 4 rfl) ?_
  refine lv_iload hx hb dL_law_1228 (lv_at hl 0 rfl) ?_
  refine lv_iconst (v := 3) hx hb dL_law_1230 (by decide) ?_
  refine lv_iadd hx hb dL_law_1231 ?_
  refine px_top (v := 3) (by decide) ?_
  refine va_sld hx hb hX hbl hbA hS (i := 3) (px_in (by decide)) dL_law_1232 ?_
  refine px_top (v := xs 3) rfl ?_
  refine lv_aload_n hx hb dL_law_1233 rfl (lv_at hl 4 rfl) ?_
  refine lv_iload hx hb dL_law_1234 (lv_at hl 0 rfl) ?_
  refine lv_iconst (v := 4) hx hb dL_law_1236 (by decide) ?_
  refine lv_iadd hx hb dL_law_1237 ?_
  refine px_top (v := 4) (by decide) ?_
  refine va_sld hx hb hX hbl hbA hS (i := 4) (px_in (by decide)) dL_law_1238 ?_
  refine px_top (v := xs 4) rfl ?_
  have hPc_2 := hP.sub (ws' := [px_o mo 11 fmo, px_i ms (y 1) 765 fms]) [2, 3] rfl
  have hDc_2 := hD.sub (ws' := [px_o mo 11 fmo, px_i ms (y 1) 765 fms]) [2, 3] (by decide +kernel) rfl
  have hFc_2 := va_free (wc := [px_o mo 11 fmo, px_i ms (y 1) 765 fms]) hD hS hA [2, 3] rfl
  refine va_calli (va_runV (As := [.int (xs 1), .int (xs 2), .int (xs 3), .int (xs 4)]) (rest := [.int (-1)]) ⟨hx, hb, hml, hown, hg⟩ (c_X11_length l D y H.size mo fmo ms fms (xs 1) (xs 2) (xs 3) (xs 4) hmo_0 hmo_6 hms_e1) (cwV 4 hg (px_gV q_8_180 q_8_181 q_8_182 q_1_15 q_8_183) rfl rfl rfl (by decide +kernel) ⟨Nat.le_of_ble_eq_true rfl, Nat.le_of_ble_eq_true rfl⟩) (px_preV hK hPc_2 hDc_2 (ci := 11) (q0 := 0) rfl rfl) rfl rfl hl.1 rfl (lv_room (Nat.le_of_ble_eq_true rfl)) dL_law_1239 ⟨Nat.le_of_ble_eq_true rfl, Nat.le_of_ble_eq_true rfl⟩) hS (fun q _ h => hFc_2 q h) hFc_2 (fun r_2 u_2 t_2 H_2 locs_2 ht_2 hvm_2 hw_2 hB_2 hz_2 hk_2 hS_2 => ?_)
  refine W.cs (cells' := 77) (slots' := 199433) rfl rfl ?_
  obtain ⟨hP_2, hD_2⟩ := va_join (wr := [px_o x 10 fx, px_o g 2 fg]) (w1 := []) hP hD [2, 3] [0, 1] rfl rfl (by decide +kernel) (by decide +kernel) hk_2 hFc_2 (fun k q h => by simp at h) ⟨fun i j p q h => by simp at h, fun k q h => by simp at h⟩
  clear hP hD hS hPc_2 hDc_2 hFc_2 hz_2 hk_2 hvm_2 ht_2 hB_2
  have hP : va_P D vwCl [px_o x 10 fx, px_o g 2 fg] H_2 := hP_2
  have hD : va_D A [px_o x 10 fx, px_o g 2 fg] := hD_2
  have hS := hS_2
  clear hP_2 hD_2 hS_2
  obtain rfl : r_2 = (-1) := hw_2
  refine lv_icmp_eq (tgt := 1472) hx hb dL_law_1242 (by decide) (fun _ => ?_) (fun c_3 => absurd c_3 (by decide))
  refine W.widen (k := 600002) (n := 7302232) (Nat.le_of_ble_eq_true rfl) (Nat.le_of_ble_eq_true rfl) ?_
  exact law_end C0 hAe hS (lv_sub hl [0, 4] rfl)

set_option maxHeartbeats 4000000 in
set_option maxRecDepth 100000 in
theorem law_28 {p : Program} {l : Launch} {e : Env} {s : State} {m : MethodId} {below : List Frame} {meth : Method} {c : Code} {b : Nat} {xs : Nat → Int32} {D : va_G} {y : Nat → ClassId} {ad : Nat → Nat} {bb : Nat → Int32} (hst : l.stackTraces = false) (C0 : lw_At p s m meth c b 6 xs) (hK : va_K D vwCl (px_tys y) s) (hYY : px_Y ad bb (fun q : Nat => s.heap.size ≤ q) s s.heap) (x : Nat) (mo : Nat) (ou : Nat) (fx : List Value) (g : Nat) (fg : List Value) (fmo : List Value) (ms : Nat) (fms : Nat → Int32) (hx_3 : px_g fx 3 (.ref g)) (hg_1 : px_g fg 1 (.int 0)) (hmo_0 : px_g fmo 0 (.int 0)) (hmo_6 : px_g fmo 6 (.ref ms)) (hms_e1 : fms 1 = 0) {H : Heap} {locs : List Loc} {ls : Array Slot} (hP : va_P D vwCl [px_o x 10 fx, px_o g 2 fg, px_o mo 11 fmo, px_i ms (y 1) 765 fms] H) (hD : va_D (fun q : Nat => s.heap.size ≤ q) [px_o x 10 fx, px_o g 2 fg, px_o mo 11 fmo, px_i ms (y 1) 765 fms]) (hS : va_S (fun q : Nat => s.heap.size ≤ q) s.heap H locs) (hl : lv_has ls 8 [(4, .int 0), (3, .ref ou), (2, .ref mo), (1, .ref x), (0, .ref b)]) : W p l e room_1 s m #[Value.ref b] below meth c H locs 77 199433 (lw_Z below #[Value.ref b] s) (F0 m 1247 ls []) := by
  obtain ⟨hx, hb, hr, hml, hown, hts, hX, hbl, hlocks, hgv⟩ := id C0
  have hg := gw_hts hts
  have hown : s.vm.findClass RL = some m.cls := hown
  have hXX := hYY.x
  generalize hAe : (fun q : Nat => s.heap.size ≤ q) = A at hYY hD hS
  have hA : ∀ q : Nat, s.heap.size ≤ q → A q := fun q h => by rw [← hAe]; exact h
  have hbA : ¬ A b := by rw [← hAe]; exact Nat.not_le.mpr hbl
  refine lv_aload_n hx hb dL_law_1247 rfl (lv_at hl 3 rfl) ?_
  refine lv_aload_n hx hb dL_law_1248 rfl (lv_at hl 4 rfl) ?_
  refine lv_iload hx hb dL_law_1249 (lv_at hl 0 rfl) ?_
  refine lv_iconst (v := 1) hx hb dL_law_1251 (by decide) ?_
  refine lv_iadd hx hb dL_law_1252 ?_
  refine px_top (v := 1) (by decide) ?_
  refine va_sld hx hb hX hbl hbA hS (i := 1) (px_in (by decide)) dL_law_1253 ?_
  refine px_top (v := xs 1) rfl ?_
  refine lv_aload_n hx hb dL_law_1254 rfl (lv_at hl 4 rfl) ?_
  refine lv_iload hx hb dL_law_1255 (lv_at hl 0 rfl) ?_
  refine lv_iconst (v := 2) hx hb dL_law_1257 (by decide) ?_
  refine lv_iadd hx hb dL_law_1258 ?_
  refine px_top (v := 2) (by decide) ?_
  refine va_sld hx hb hX hbl hbA hS (i := 2) (px_in (by decide)) dL_law_1259 ?_
  refine px_top (v := xs 2) rfl ?_
  refine lv_aload_n hx hb dL_law_1260 rfl (lv_at hl 4 rfl) ?_
  refine lv_iload hx hb dL_law_1261 (lv_at hl 0 rfl) ?_
  refine lv_iconst (v := 3) hx hb dL_law_1263 (by decide) ?_
  refine lv_iadd hx hb dL_law_1264 ?_
  refine px_top (v := 3) (by decide) ?_
  refine va_sld hx hb hX hbl hbA hS (i := 3) (px_in (by decide)) dL_law_1265 ?_
  refine px_top (v := xs 3) rfl ?_
  have hPc_1 := hP.sub (ws' := [px_o x 10 fx, px_o g 2 fg]) [0, 1] rfl
  have hDc_1 := hD.sub (ws' := [px_o x 10 fx, px_o g 2 fg]) [0, 1] (by decide +kernel) rfl
  refine vp_callSi (va_Run.run (va_runV (As := [.int (xs 1), .int (xs 2), .int (xs 3)]) (rest := []) ⟨hx, hb, hml, hown, hg⟩ (c_X10_reply l D y H.size x fx g fg (xs 1) (xs 2) (xs 3) hx_3 hg_1) (cwV 3 hg (px_gV q_5_81 q_5_82 q_5_83 q_1_1 q_5_84) rfl rfl rfl (by decide +kernel) ⟨Nat.le_of_ble_eq_true rfl, Nat.le_of_ble_eq_true rfl⟩) (px_preV hK hPc_1 hDc_1 (ci := 10) (q0 := 0) rfl rfl) rfl rfl hl.1 rfl (lv_room (Nat.le_of_ble_eq_true rfl)) dL_law_1266 ⟨Nat.le_of_ble_eq_true rfl, Nat.le_of_ble_eq_true rfl⟩)) (fun r_1 hw_1 => ?_)
  clear hPc_1 hDc_1
  obtain rfl : r_1 = (-1) := hw_1
  refine lv_aload_n hx hb dL_law_1269 rfl (lv_at hl 2 rfl) ?_
  refine lv_aload_n hx hb dL_law_1270 rfl (lv_at hl 4 rfl) ?_
  refine lv_iload hx hb dL_law_1271 (lv_at hl 0 rfl) ?_
  refine lv_iconst (v := 1) hx hb dL_law_1273 (by decide) ?_
  refine lv_iadd hx hb dL_law_1274 ?_
  refine px_top (v := 1) (by decide) ?_
  refine va_sld hx hb hX hbl hbA hS (i := 1) (px_in (by decide)) dL_law_1275 ?_
  refine px_top (v := xs 1) rfl ?_
  refine lv_aload_n hx hb dL_law_1276 rfl (lv_at hl 4 rfl) ?_
  refine lv_iload hx hb dL_law_1277 (lv_at hl 0 rfl) ?_
  refine lv_iconst (v := 2) hx hb dL_law_1279 (by decide) ?_
  refine lv_iadd hx hb dL_law_1280 ?_
  refine px_top (v := 2) (by decide) ?_
  refine va_sld hx hb hX hbl hbA hS (i := 2) (px_in (by decide)) dL_law_1281 ?_
  refine px_top (v := xs 2) rfl ?_
  refine lv_aload_n hx hb dL_law_1282 rfl (lv_at hl 4 rfl) ?_
  refine lv_iload hx hb dL_law_1283 (lv_at hl 0 rfl) ?_
  refine lv_iconst (v := 3) hx hb dL_law_1285 (by decide) ?_
  refine lv_iadd hx hb dL_law_1286 ?_
  refine px_top (v := 3) (by decide) ?_
  refine va_sld hx hb hX hbl hbA hS (i := 3) (px_in (by decide)) dL_law_1287 ?_
  refine px_top (v := xs 3) rfl ?_
  have hPc_2 := hP.sub (ws' := [px_o mo 11 fmo, px_i ms (y 1) 765 fms]) [2, 3] rfl
  have hDc_2 := hD.sub (ws' := [px_o mo 11 fmo, px_i ms (y 1) 765 fms]) [2, 3] (by decide +kernel) rfl
  have hFc_2 := va_free (wc := [px_o mo 11 fmo, px_i ms (y 1) 765 fms]) hD hS hA [2, 3] rfl
  refine va_calli (va_runV (As := [.int (xs 1), .int (xs 2), .int (xs 3)]) (rest := [.int (-1)]) ⟨hx, hb, hml, hown, hg⟩ (c_X11_reply l D y H.size mo fmo ms fms (xs 1) (xs 2) (xs 3) hmo_0 hmo_6 hms_e1) (cwV 3 hg (px_gV q_8_184 q_8_185 q_8_186 q_1_15 q_8_187) rfl rfl rfl (by decide +kernel) ⟨Nat.le_of_ble_eq_true rfl, Nat.le_of_ble_eq_true rfl⟩) (px_preV hK hPc_2 hDc_2 (ci := 11) (q0 := 0) rfl rfl) rfl rfl hl.1 rfl (lv_room (Nat.le_of_ble_eq_true rfl)) dL_law_1288 ⟨Nat.le_of_ble_eq_true rfl, Nat.le_of_ble_eq_true rfl⟩) hS (fun q _ h => hFc_2 q h) hFc_2 (fun r_2 u_2 t_2 H_2 locs_2 ht_2 hvm_2 hw_2 hB_2 hz_2 hk_2 hS_2 => ?_)
  refine W.cs (cells' := 77) (slots' := 199433) rfl rfl ?_
  obtain ⟨hP_2, hD_2⟩ := va_join (wr := [px_o x 10 fx, px_o g 2 fg]) (w1 := []) hP hD [2, 3] [0, 1] rfl rfl (by decide +kernel) (by decide +kernel) hk_2 hFc_2 (fun k q h => by simp at h) ⟨fun i j p q h => by simp at h, fun k q h => by simp at h⟩
  clear hP hD hS hPc_2 hDc_2 hFc_2 hz_2 hk_2 hvm_2 ht_2 hB_2
  have hP : va_P D vwCl [px_o x 10 fx, px_o g 2 fg] H_2 := hP_2
  have hD : va_D A [px_o x 10 fx, px_o g 2 fg] := hD_2
  have hS := hS_2
  clear hP_2 hD_2 hS_2
  obtain rfl : r_2 = (-1) := hw_2
  refine lv_icmp_eq (tgt := 1472) hx hb dL_law_1291 (by decide) (fun _ => ?_) (fun c_3 => absurd c_3 (by decide))
  refine W.widen (k := 600002) (n := 7302232) (Nat.le_of_ble_eq_true rfl) (Nat.le_of_ble_eq_true rfl) ?_
  exact law_end C0 hAe hS (lv_sub hl [0, 4] rfl)

set_option maxHeartbeats 4000000 in
set_option maxRecDepth 100000 in
theorem law_29 {p : Program} {l : Launch} {e : Env} {s : State} {m : MethodId} {below : List Frame} {meth : Method} {c : Code} {b : Nat} {xs : Nat → Int32} {D : va_G} {y : Nat → ClassId} {ad : Nat → Nat} {bb : Nat → Int32} (hst : l.stackTraces = false) (C0 : lw_At p s m meth c b 6 xs) (hK : va_K D vwCl (px_tys y) s) (hYY : px_Y ad bb (fun q : Nat => s.heap.size ≤ q) s s.heap) (x : Nat) (mo : Nat) (ou : Nat) (fx : List Value) (g : Nat) (fg : List Value) (fmo : List Value) (ms : Nat) (fms : Nat → Int32) (hx_3 : px_g fx 3 (.ref g)) (hg_1 : px_g fg 1 (.int 0)) (hmo_0 : px_g fmo 0 (.int 0)) (hmo_6 : px_g fmo 6 (.ref ms)) (hms_e1 : fms 1 = 0) {H : Heap} {locs : List Loc} {ls : Array Slot} (hP : va_P D vwCl [px_o x 10 fx, px_o g 2 fg, px_o mo 11 fmo, px_i ms (y 1) 765 fms] H) (hD : va_D (fun q : Nat => s.heap.size ≤ q) [px_o x 10 fx, px_o g 2 fg, px_o mo 11 fmo, px_i ms (y 1) 765 fms]) (hS : va_S (fun q : Nat => s.heap.size ≤ q) s.heap H locs) (hl : lv_has ls 8 [(4, .int 0), (3, .ref ou), (2, .ref mo), (1, .ref x), (0, .ref b)]) : W p l e room_1 s m #[Value.ref b] below meth c H locs 77 199433 (lw_Z below #[Value.ref b] s) (F0 m 1296 ls []) := by
  obtain ⟨hx, hb, hr, hml, hown, hts, hX, hbl, hlocks, hgv⟩ := id C0
  have hg := gw_hts hts
  have hown : s.vm.findClass RL = some m.cls := hown
  have hXX := hYY.x
  generalize hAe : (fun q : Nat => s.heap.size ≤ q) = A at hYY hD hS
  have hA : ∀ q : Nat, s.heap.size ≤ q → A q := fun q h => by rw [← hAe]; exact h
  have hbA : ¬ A b := by rw [← hAe]; exact Nat.not_le.mpr hbl
  refine lv_aload_n hx hb dL_law_1296 rfl (lv_at hl 3 rfl) ?_
  have hPc_1 := hP.sub (ws' := [px_o x 10 fx, px_o g 2 fg]) [0, 1] rfl
  have hDc_1 := hD.sub (ws' := [px_o x 10 fx, px_o g 2 fg]) [0, 1] (by decide +kernel) rfl
  refine vp_callSi (va_Run.run (va_runV (As := []) (rest := []) ⟨hx, hb, hml, hown, hg⟩ (c_X10_leader l D y H.size x fx g fg hx_3 hg_1) (cwV 0 hg (px_gV q_5_85 q_5_86 q_5_87 q_1_1 q_5_88) rfl rfl rfl (by decide +kernel) ⟨Nat.le_of_ble_eq_true rfl, Nat.le_of_ble_eq_true rfl⟩) (px_preV hK hPc_1 hDc_1 (ci := 10) (q0 := 0) rfl rfl) rfl rfl hl.1 rfl (lv_room (Nat.le_of_ble_eq_true rfl)) dL_law_1297 ⟨Nat.le_of_ble_eq_true rfl, Nat.le_of_ble_eq_true rfl⟩)) (fun r_1 hw_1 => ?_)
  clear hPc_1 hDc_1
  obtain rfl : r_1 = (-1) := hw_1
  refine lv_aload_n hx hb dL_law_1300 rfl (lv_at hl 2 rfl) ?_
  have hPc_2 := hP.sub (ws' := [px_o mo 11 fmo, px_i ms (y 1) 765 fms]) [2, 3] rfl
  have hDc_2 := hD.sub (ws' := [px_o mo 11 fmo, px_i ms (y 1) 765 fms]) [2, 3] (by decide +kernel) rfl
  have hFc_2 := va_free (wc := [px_o mo 11 fmo, px_i ms (y 1) 765 fms]) hD hS hA [2, 3] rfl
  refine va_calli (va_runV (As := []) (rest := [.int (-1)]) ⟨hx, hb, hml, hown, hg⟩ (c_X11_leader l D y H.size mo fmo ms fms hmo_0 hmo_6 hms_e1) (cwV 0 hg (px_gV q_8_188 q_8_189 q_8_190 q_1_15 q_8_191) rfl rfl rfl (by decide +kernel) ⟨Nat.le_of_ble_eq_true rfl, Nat.le_of_ble_eq_true rfl⟩) (px_preV hK hPc_2 hDc_2 (ci := 11) (q0 := 0) rfl rfl) rfl rfl hl.1 rfl (lv_room (Nat.le_of_ble_eq_true rfl)) dL_law_1301 ⟨Nat.le_of_ble_eq_true rfl, Nat.le_of_ble_eq_true rfl⟩) hS (fun q _ h => hFc_2 q h) hFc_2 (fun r_2 u_2 t_2 H_2 locs_2 ht_2 hvm_2 hw_2 hB_2 hz_2 hk_2 hS_2 => ?_)
  refine W.cs (cells' := 77) (slots' := 199433) rfl rfl ?_
  obtain ⟨hP_2, hD_2⟩ := va_join (wr := [px_o x 10 fx, px_o g 2 fg]) (w1 := []) hP hD [2, 3] [0, 1] rfl rfl (by decide +kernel) (by decide +kernel) hk_2 hFc_2 (fun k q h => by simp at h) ⟨fun i j p q h => by simp at h, fun k q h => by simp at h⟩
  clear hP hD hS hPc_2 hDc_2 hFc_2 hz_2 hk_2 hvm_2 ht_2 hB_2
  have hP : va_P D vwCl [px_o x 10 fx, px_o g 2 fg] H_2 := hP_2
  have hD : va_D A [px_o x 10 fx, px_o g 2 fg] := hD_2
  have hS := hS_2
  clear hP_2 hD_2 hS_2
  obtain rfl : r_2 = (-1) := hw_2
  refine lv_icmp_eq (tgt := 1472) hx hb dL_law_1304 (by decide) (fun _ => ?_) (fun c_3 => absurd c_3 (by decide))
  refine W.widen (k := 600002) (n := 7302232) (Nat.le_of_ble_eq_true rfl) (Nat.le_of_ble_eq_true rfl) ?_
  exact law_end C0 hAe hS (lv_sub hl [0, 4] rfl)

set_option maxHeartbeats 4000000 in
set_option maxRecDepth 100000 in
theorem law_30 {p : Program} {l : Launch} {e : Env} {s : State} {m : MethodId} {below : List Frame} {meth : Method} {c : Code} {b : Nat} {xs : Nat → Int32} {D : va_G} {y : Nat → ClassId} {ad : Nat → Nat} {bb : Nat → Int32} (hst : l.stackTraces = false) (C0 : lw_At p s m meth c b 6 xs) (hK : va_K D vwCl (px_tys y) s) (hYY : px_Y ad bb (fun q : Nat => s.heap.size ≤ q) s s.heap) (x : Nat) (mo : Nat) (ou : Nat) (fx : List Value) (tp : Nat) (g : Nat) (tr : Nat) (rd : Nat) (et : Nat) (ve : Nat) (ftp : Nat → Int32) (fg : List Value) (gn : Nat) (gh : Nat) (gc : Nat) (gp : Nat) (go : Nat) (ga : Nat) (gv : Nat) (gl : Nat) (gk : Nat) (fgn : Nat → Int64) (fgh : Nat → Int32) (fgc : Nat → Int32) (fgp : Nat → Int32) (fgo : Nat → Int32) (fga : Nat → Int32) (fgv : Nat → Int32) (fgl : Nat → Int32) (fgk : List Value) (gs : Nat) (gt : Nat) (gq : Nat) (fgs : Nat → Int32) (fgt : Nat → Int32) (fgq : Nat → Int32) (ftr : List Value) (trn : Nat) (trh : Nat) (trc : Nat) (trp : Nat) (tro : Nat) (tra : Nat) (trv : Nat) (trl : Nat) (trk : Nat) (ftrn : Nat → Int64) (ftrh : Nat → Int32) (ftrc : Nat → Int32) (ftrp : Nat → Int32) (ftro : Nat → Int32) (ftra : Nat → Int32) (ftrv : Nat → Int32) (ftrl : Nat → Int32) (ftrk : List Value) (trs : Nat) (trt : Nat) (trq : Nat) (ftrs : Nat → Int32) (ftrt : Nat → Int32) (ftrq : Nat → Int32) (frd : List Value) (rt : Nat) (fet : List Value) (fve : Nat → Int32) (fmo : List Value) (ms : Nat) (mb : Nat) (me : Nat) (fms : Nat → Int32) (fmb : Nat → Int32) (fme : Nat → Int32) (hx_0 : px_g fx 0 (.ref tp)) (hx_1 : px_g fx 1 (.int 0)) (hx_2 : px_g fx 2 (.int 0)) (hx_3 : px_g fx 3 (.ref g)) (hx_4 : px_g fx 4 (.ref tr)) (hx_6 : px_g fx 6 (.ref rd)) (hx_8 : px_g fx 8 (.ref et)) (hx_15 : px_g fx 15 (.ref ve)) (hg_0 : px_g fg 0 (.int 0)) (hg_1 : px_g fg 1 (.int 0)) (hg_2 : px_g fg 2 (.int 0)) (hg_3 : px_g fg 3 (.int 0)) (hg_4 : px_g fg 4 (.ref gn)) (hg_5 : px_g fg 5 (.ref gh)) (hg_6 : px_g fg 6 (.ref gc)) (hg_7 : px_g fg 7 (.ref gp)) (hg_8 : px_g fg 8 (.int 0)) (hg_9 : px_g fg 9 (.int 0)) (hg_10 : px_g fg 10 (.ref go)) (hg_11 : px_g fg 11 (.ref ga)) (hg_12 : px_g fg 12 (.ref gv)) (hg_13 : px_g fg 13 (.ref gl)) (hg_14 : px_g fg 14 (.int (-1))) (hg_15 : px_g fg 15 (.int 0)) (hg_16 : px_g fg 16 (.int 0)) (hg_17 : px_g fg 17 (.ref gk)) (hgk_0 : px_g fgk 0 (.ref gs)) (hgk_1 : px_g fgk 1 (.ref gt)) (hgk_2 : px_g fgk 2 (.int 0)) (hgk_3 : px_g fgk 3 (.ref gq)) (htr_0 : px_g ftr 0 (.int 0)) (htr_1 : px_g ftr 1 (.int 0)) (htr_2 : px_g ftr 2 (.int 0)) (htr_3 : px_g ftr 3 (.int 0)) (htr_4 : px_g ftr 4 (.ref trn)) (htr_5 : px_g ftr 5 (.ref trh)) (htr_6 : px_g ftr 6 (.ref trc)) (htr_7 : px_g ftr 7 (.ref trp)) (htr_8 : px_g ftr 8 (.int 0)) (htr_9 : px_g ftr 9 (.int 0)) (htr_10 : px_g ftr 10 (.ref tro)) (htr_11 : px_g ftr 11 (.ref tra)) (htr_12 : px_g ftr 12 (.ref trv)) (htr_13 : px_g ftr 13 (.ref trl)) (htr_14 : px_g ftr 14 (.int (-1))) (htr_15 : px_g ftr 15 (.int 0)) (htr_16 : px_g ftr 16 (.int 0)) (htr_17 : px_g ftr 17 (.ref trk)) (htrk_0 : px_g ftrk 0 (.ref trs)) (htrk_1 : px_g ftrk 1 (.ref trt)) (htrk_2 : px_g ftrk 2 (.int 0)) (htrk_3 : px_g ftrk 3 (.ref trq)) (hrd_1 : px_g frd 1 (.ref rt)) (hrd_2 : px_g frd 2 (.int 0)) (hrd_3 : px_g frd 3 (.int 0)) (hrd_4 : px_g frd 4 (.int 0)) (hrd_5 : px_g frd 5 (.int 302)) (hrd_6 : px_g frd 6 (.int 0)) (hrd_9 : px_g frd 9 (.int 0)) (hrd_10 : px_g frd 10 (.int 0)) (het_0 : px_g fet 0 (.ref rd)) (het_2 : px_g fet 2 (.int 0)) (hmo_0 : px_g fmo 0 (.int 0)) (hmo_2 : px_g fmo 2 (.int 0)) (hmo_3 : px_g fmo 3 (.int 0)) (hmo_4 : px_g fmo 4 (.int 0)) (hmo_5 : px_g fmo 5 (.int 0)) (hmo_6 : px_g fmo 6 (.ref ms)) (hmo_11 : px_g fmo 11 (.int 0)) (hmo_12 : px_g fmo 12 (.int 0)) (hmo_13 : px_g fmo 13 (.int 0)) (hmo_15 : px_g fmo 15 (.int 0)) (hmo_26 : px_g fmo 26 (.ref mb)) (hmo_52 : px_g fmo 52 (.int 0)) (hmo_53 : px_g fmo 53 (.ref me)) (hmo_54 : px_g fmo 54 (.int 0)) (hms_e4 : fms 4 = (-1)) (hms_e138 : fms 138 = 0) (hms_e139 : fms 139 = 0) (hms_e140 : fms 140 = 0) (hms_e141 : fms 141 = 0) (hms_e142 : fms 142 = 0) (hms_e143 : fms 143 = 0) (hms_e144 : fms 144 = 0) (hms_e145 : fms 145 = 0) (hms_e146 : fms 146 = 0) (hms_e147 : fms 147 = 0) (hms_e148 : fms 148 = 0) (hms_e149 : fms 149 = 0) (hms_e150 : fms 150 = 0) {H : Heap} {locs : List Loc} {ls : Array Slot} (hP : va_P D vwCl [px_o x 10 fx, px_i tp (y 0) 940 ftp, px_o g 2 fg, px_l gn (y 2) 6 fgn, px_i gh (y 1) 78 fgh, px_i gc (y 1) 6 fgc, px_i gp (y 1) 52 fgp, px_i go (y 1) 13 fgo, px_i ga (y 1) 6 fga, px_i gv (y 1) 6 fgv, px_i gl (y 1) 6 fgl, px_o gk 3 fgk, px_i gs (y 1) 78 fgs, px_i gt (y 1) 52 fgt, px_i gq (y 1) 6 fgq, px_o tr 2 ftr, px_l trn (y 2) 6 ftrn, px_i trh (y 1) 78 ftrh, px_i trc (y 1) 6 ftrc, px_i trp (y 1) 52 ftrp, px_i tro (y 1) 13 ftro, px_i tra (y 1) 6 ftra, px_i trv (y 1) 6 ftrv, px_i trl (y 1) 6 ftrl, px_o trk 3 ftrk, px_i trs (y 1) 78 ftrs, px_i trt (y 1) 52 ftrt, px_i trq (y 1) 6 ftrq, px_o rd 6 frd, px_o et 1 fet, px_i ve (y 1) 4 fve, px_o mo 11 fmo, px_i ms (y 1) 765 fms, px_i mb (y 1) 580 fmb, px_i me (y 1) 4 fme] H) (hD : va_D (fun q : Nat => s.heap.size ≤ q) [px_o x 10 fx, px_i tp (y 0) 940 ftp, px_o g 2 fg, px_l gn (y 2) 6 fgn, px_i gh (y 1) 78 fgh, px_i gc (y 1) 6 fgc, px_i gp (y 1) 52 fgp, px_i go (y 1) 13 fgo, px_i ga (y 1) 6 fga, px_i gv (y 1) 6 fgv, px_i gl (y 1) 6 fgl, px_o gk 3 fgk, px_i gs (y 1) 78 fgs, px_i gt (y 1) 52 fgt, px_i gq (y 1) 6 fgq, px_o tr 2 ftr, px_l trn (y 2) 6 ftrn, px_i trh (y 1) 78 ftrh, px_i trc (y 1) 6 ftrc, px_i trp (y 1) 52 ftrp, px_i tro (y 1) 13 ftro, px_i tra (y 1) 6 ftra, px_i trv (y 1) 6 ftrv, px_i trl (y 1) 6 ftrl, px_o trk 3 ftrk, px_i trs (y 1) 78 ftrs, px_i trt (y 1) 52 ftrt, px_i trq (y 1) 6 ftrq, px_o rd 6 frd, px_o et 1 fet, px_i ve (y 1) 4 fve, px_o mo 11 fmo, px_i ms (y 1) 765 fms, px_i mb (y 1) 580 fmb, px_i me (y 1) 4 fme]) (hS : va_S (fun q : Nat => s.heap.size ≤ q) s.heap H locs) (hl : lv_has ls 8 [(4, .int 0), (3, .ref ou), (2, .ref mo), (1, .ref x), (0, .ref b)]) : W p l e room_1 s m #[Value.ref b] below meth c H locs 77 199433 (lw_Z below #[Value.ref b] s) (F0 m 1309 ls []) := by
  obtain ⟨hx, hb, hr, hml, hown, hts, hX, hbl, hlocks, hgv⟩ := id C0
  have hg := gw_hts hts
  have hown : s.vm.findClass RL = some m.cls := hown
  have hXX := hYY.x
  generalize hAe : (fun q : Nat => s.heap.size ≤ q) = A at hYY hD hS
  have hA : ∀ q : Nat, s.heap.size ≤ q → A q := fun q h => by rw [← hAe]; exact h
  have hbA : ¬ A b := by rw [← hAe]; exact Nat.not_le.mpr hbl
  refine lv_aload_n hx hb dL_law_1309 rfl (lv_at hl 3 rfl) ?_
  refine lv_aload_n hx hb dL_law_1310 rfl (lv_at hl 4 rfl) ?_
  refine lv_iload hx hb dL_law_1311 (lv_at hl 0 rfl) ?_
  refine lv_iconst (v := 1) hx hb dL_law_1313 (by decide) ?_
  refine lv_iadd hx hb dL_law_1314 ?_
  refine px_top (v := 1) (by decide) ?_
  refine va_sld hx hb hX hbl hbA hS (i := 1) (px_in (by decide)) dL_law_1315 ?_
  refine px_top (v := xs 1) rfl ?_
  have hPc_1 := hP.sub (ws' := [px_o x 10 fx, px_i tp (y 0) 940 ftp, px_o g 2 fg, px_l gn (y 2) 6 fgn, px_i gh (y 1) 78 fgh, px_i gc (y 1) 6 fgc, px_i gp (y 1) 52 fgp, px_i go (y 1) 13 fgo, px_i ga (y 1) 6 fga, px_i gv (y 1) 6 fgv, px_i gl (y 1) 6 fgl, px_o gk 3 fgk, px_i gs (y 1) 78 fgs, px_i gt (y 1) 52 fgt, px_i gq (y 1) 6 fgq, px_o tr 2 ftr, px_l trn (y 2) 6 ftrn, px_i trh (y 1) 78 ftrh, px_i trc (y 1) 6 ftrc, px_i trp (y 1) 52 ftrp, px_i tro (y 1) 13 ftro, px_i tra (y 1) 6 ftra, px_i trv (y 1) 6 ftrv, px_i trl (y 1) 6 ftrl, px_o trk 3 ftrk, px_i trs (y 1) 78 ftrs, px_i trt (y 1) 52 ftrt, px_i trq (y 1) 6 ftrq, px_o rd 6 frd, px_o et 1 fet, px_i ve (y 1) 4 fve]) [0, 1, 2, 3, 4, 5, 6, 7, 8, 9, 10, 11, 12, 13, 14, 15, 16, 17, 18, 19, 20, 21, 22, 23, 24, 25, 26, 27, 28, 29, 30] rfl
  have hDc_1 := hD.sub (ws' := [px_o x 10 fx, px_i tp (y 0) 940 ftp, px_o g 2 fg, px_l gn (y 2) 6 fgn, px_i gh (y 1) 78 fgh, px_i gc (y 1) 6 fgc, px_i gp (y 1) 52 fgp, px_i go (y 1) 13 fgo, px_i ga (y 1) 6 fga, px_i gv (y 1) 6 fgv, px_i gl (y 1) 6 fgl, px_o gk 3 fgk, px_i gs (y 1) 78 fgs, px_i gt (y 1) 52 fgt, px_i gq (y 1) 6 fgq, px_o tr 2 ftr, px_l trn (y 2) 6 ftrn, px_i trh (y 1) 78 ftrh, px_i trc (y 1) 6 ftrc, px_i trp (y 1) 52 ftrp, px_i tro (y 1) 13 ftro, px_i tra (y 1) 6 ftra, px_i trv (y 1) 6 ftrv, px_i trl (y 1) 6 ftrl, px_o trk 3 ftrk, px_i trs (y 1) 78 ftrs, px_i trt (y 1) 52 ftrt, px_i trq (y 1) 6 ftrq, px_o rd 6 frd, px_o et 1 fet, px_i ve (y 1) 4 fve]) [0, 1, 2, 3, 4, 5, 6, 7, 8, 9, 10, 11, 12, 13, 14, 15, 16, 17, 18, 19, 20, 21, 22, 23, 24, 25, 26, 27, 28, 29, 30] (by decide +kernel) rfl
  have hFc_1 := va_free (wc := [px_o x 10 fx, px_i tp (y 0) 940 ftp, px_o g 2 fg, px_l gn (y 2) 6 fgn, px_i gh (y 1) 78 fgh, px_i gc (y 1) 6 fgc, px_i gp (y 1) 52 fgp, px_i go (y 1) 13 fgo, px_i ga (y 1) 6 fga, px_i gv (y 1) 6 fgv, px_i gl (y 1) 6 fgl, px_o gk 3 fgk, px_i gs (y 1) 78 fgs, px_i gt (y 1) 52 fgt, px_i gq (y 1) 6 fgq, px_o tr 2 ftr, px_l trn (y 2) 6 ftrn, px_i trh (y 1) 78 ftrh, px_i trc (y 1) 6 ftrc, px_i trp (y 1) 52 ftrp, px_i tro (y 1) 13 ftro, px_i tra (y 1) 6 ftra, px_i trv (y 1) 6 ftrv, px_i trl (y 1) 6 ftrl, px_o trk 3 ftrk, px_i trs (y 1) 78 ftrs, px_i trt (y 1) 52 ftrt, px_i trq (y 1) 6 ftrq, px_o rd 6 frd, px_o et 1 fet, px_i ve (y 1) 4 fve]) hD hS hA [0, 1, 2, 3, 4, 5, 6, 7, 8, 9, 10, 11, 12, 13, 14, 15, 16, 17, 18, 19, 20, 21, 22, 23, 24, 25, 26, 27, 28, 29, 30] rfl
  refine va_calli (va_runV (As := [.int (xs 1)]) (rest := []) ⟨hx, hb, hml, hown, hg⟩ (c_X10_evening l D y H.size x fx tp g tr rd et ve ftp fg gn gh gc gp go ga gv gl gk fgn fgh fgc fgp fgo fga fgv fgl fgk gs gt gq fgs fgt fgq ftr trn trh trc trp tro tra trv trl trk ftrn ftrh ftrc ftrp ftro ftra ftrv ftrl ftrk trs trt trq ftrs ftrt ftrq frd rt fet fve (xs 1) hx_0 hx_1 hx_2 hx_3 hx_4 hx_6 hx_8 hx_15 hg_0 hg_1 hg_2 hg_3 hg_4 hg_5 hg_6 hg_7 hg_8 hg_9 hg_10 hg_11 hg_12 hg_13 hg_14 hg_15 hg_16 hg_17 hgk_0 hgk_1 hgk_2 hgk_3 htr_0 htr_1 htr_2 htr_3 htr_4 htr_5 htr_6 htr_7 htr_8 htr_9 htr_10 htr_11 htr_12 htr_13 htr_14 htr_15 htr_16 htr_17 htrk_0 htrk_1 htrk_2 htrk_3 hrd_1 hrd_2 hrd_3 hrd_4 hrd_5 hrd_6 hrd_9 hrd_10 het_0 het_2) (cwV 1 hg (px_gV q_5_89 q_5_90 q_5_91 q_1_1 q_5_92) rfl rfl rfl (by decide +kernel) ⟨Nat.le_of_ble_eq_true rfl, Nat.le_of_ble_eq_true rfl⟩) (px_preV hK hPc_1 hDc_1 (ci := 10) (q0 := 0) rfl rfl) rfl rfl hl.1 rfl (lv_room (Nat.le_of_ble_eq_true rfl)) dL_law_1316 ⟨Nat.le_of_ble_eq_true rfl, Nat.le_of_ble_eq_true rfl⟩) hS (fun q _ h => hFc_1 q h) hFc_1 (fun r_1 u_1 t_1 H_1 locs_1 ht_1 hvm_1 hw_1 hB_1 hz_1 hk_1 hS_1 => ?_)
  refine W.cs (cells' := 77) (slots' := 199433) rfl rfl ?_
  obtain ⟨hP_1, hD_1⟩ := va_join (wr := [px_o mo 11 fmo, px_i ms (y 1) 765 fms, px_i mb (y 1) 580 fmb, px_i me (y 1) 4 fme]) (w1 := []) hP hD [0, 1, 2, 3, 4, 5, 6, 7, 8, 9, 10, 11, 12, 13, 14, 15, 16, 17, 18, 19, 20, 21, 22, 23, 24, 25, 26, 27, 28, 29, 30] [31, 32, 33, 34] rfl rfl (by decide +kernel) (by decide +kernel) hk_1 hFc_1 (fun k q h => by simp at h) ⟨fun i j p q h => by simp at h, fun k q h => by simp at h⟩
  clear hP hD hS hPc_1 hDc_1 hFc_1 hz_1 hk_1 hvm_1 ht_1 hB_1
  have hP : va_P D vwCl [px_o mo 11 fmo, px_i ms (y 1) 765 fms, px_i mb (y 1) 580 fmb, px_i me (y 1) 4 fme] H_1 := hP_1
  have hD : va_D A [px_o mo 11 fmo, px_i ms (y 1) 765 fms, px_i mb (y 1) 580 fmb, px_i me (y 1) 4 fme] := hD_1
  have hS := hS_1
  clear hP_1 hD_1 hS_1
  obtain rfl : r_1 = px_eve (xs 1) := hw_1
  refine lv_aload_n hx hb dL_law_1319 rfl (lv_at hl 2 rfl) ?_
  refine lv_aload_n hx hb dL_law_1320 rfl (lv_at hl 4 rfl) ?_
  refine lv_iload hx hb dL_law_1321 (lv_at hl 0 rfl) ?_
  refine lv_iconst (v := 1) hx hb dL_law_1323 (by decide) ?_
  refine lv_iadd hx hb dL_law_1324 ?_
  refine px_top (v := 1) (by decide) ?_
  refine va_sld hx hb hX hbl hbA hS (i := 1) (px_in (by decide)) dL_law_1325 ?_
  refine px_top (v := xs 1) rfl ?_
  have hPc_2 := hP.sub (ws' := [px_o mo 11 fmo, px_i ms (y 1) 765 fms, px_i mb (y 1) 580 fmb, px_i me (y 1) 4 fme]) [0, 1, 2, 3] rfl
  have hDc_2 := hD.sub (ws' := [px_o mo 11 fmo, px_i ms (y 1) 765 fms, px_i mb (y 1) 580 fmb, px_i me (y 1) 4 fme]) [0, 1, 2, 3] (by decide +kernel) rfl
  have hFc_2 := va_free (wc := [px_o mo 11 fmo, px_i ms (y 1) 765 fms, px_i mb (y 1) 580 fmb, px_i me (y 1) 4 fme]) hD hS hA [0, 1, 2, 3] rfl
  refine va_calli (va_runV (As := [.int (xs 1)]) (rest := [.int (px_eve (xs 1))]) ⟨hx, hb, hml, hown, hg⟩ (c_X11_evening l D y H_1.size mo fmo ms mb me fms fmb fme (xs 1) hmo_0 hmo_2 hmo_3 hmo_4 hmo_5 hmo_6 hmo_11 hmo_12 hmo_13 hmo_15 hmo_26 hmo_52 hmo_53 hmo_54 hms_e4 hms_e138 hms_e139 hms_e140 hms_e141 hms_e142 hms_e143 hms_e144 hms_e145 hms_e146 hms_e147 hms_e148 hms_e149 hms_e150) (cwV 1 hg (px_gV q_8_192 q_8_193 q_8_194 q_1_15 q_8_195) rfl rfl rfl (by decide +kernel) ⟨Nat.le_of_ble_eq_true rfl, Nat.le_of_ble_eq_true rfl⟩) (px_preV hK hPc_2 hDc_2 (ci := 11) (q0 := 0) rfl rfl) rfl rfl hl.1 rfl (lv_room (Nat.le_of_ble_eq_true rfl)) dL_law_1326 ⟨Nat.le_of_ble_eq_true rfl, Nat.le_of_ble_eq_true rfl⟩) hS (fun q _ h => hFc_2 q h) hFc_2 (fun r_2 u_2 t_2 H_2 locs_2 ht_2 hvm_2 hw_2 hB_2 hz_2 hk_2 hS_2 => ?_)
  refine W.cs (cells' := 77) (slots' := 199433) rfl rfl ?_
  obtain ⟨hP_2, hD_2⟩ := va_join (wr := []) (w1 := []) hP hD [0, 1, 2, 3] [] rfl rfl (by decide +kernel) (by decide +kernel) hk_2 hFc_2 (fun k q h => by simp at h) ⟨fun i j p q h => by simp at h, fun k q h => by simp at h⟩
  clear hP hD hS hPc_2 hDc_2 hFc_2 hz_2 hk_2 hvm_2 ht_2 hB_2
  have hP : va_P D vwCl [] H_2 := hP_2
  have hD : va_D A [] := hD_2
  have hS := hS_2
  clear hP_2 hD_2 hS_2
  obtain rfl : r_2 = px_eve (xs 1) := hw_2
  refine lv_icmp_eq (tgt := 1472) hx hb dL_law_1329 (by decide) (fun _ => ?_) (fun c_3 => absurd rfl c_3)
  refine W.widen (k := 600002) (n := 7302232) (Nat.le_of_ble_eq_true rfl) (Nat.le_of_ble_eq_true rfl) ?_
  exact law_end C0 hAe hS (lv_sub hl [0, 4] rfl)

set_option maxHeartbeats 4000000 in
set_option maxRecDepth 100000 in
theorem law_31 {p : Program} {l : Launch} {e : Env} {s : State} {m : MethodId} {below : List Frame} {meth : Method} {c : Code} {b : Nat} {xs : Nat → Int32} {D : va_G} {y : Nat → ClassId} {ad : Nat → Nat} {bb : Nat → Int32} (hst : l.stackTraces = false) (C0 : lw_At p s m meth c b 6 xs) (hK : va_K D vwCl (px_tys y) s) (hYY : px_Y ad bb (fun q : Nat => s.heap.size ≤ q) s s.heap) (x : Nat) (mo : Nat) (ou : Nat) (fx : List Value) (ve : Nat) (fve : Nat → Int32) (fmo : List Value) (hx_15 : px_g fx 15 (.ref ve)) (hve_e0 : fve 0 = (-1)) (hve_e1 : fve 1 = (-1)) (hve_e2 : fve 2 = (-1)) (hve_e3 : fve 3 = (-1)) (hmo_0 : px_g fmo 0 (.int 0)) (hmo_54 : px_g fmo 54 (.int 0)) {H : Heap} {locs : List Loc} {ls : Array Slot} (hP : va_P D vwCl [px_o x 10 fx, px_i ve (y 1) 4 fve, px_o mo 11 fmo] H) (hD : va_D (fun q : Nat => s.heap.size ≤ q) [px_o x 10 fx, px_i ve (y 1) 4 fve, px_o mo 11 fmo]) (hS : va_S (fun q : Nat => s.heap.size ≤ q) s.heap H locs) (hl : lv_has ls 8 [(4, .int 0), (3, .ref ou), (2, .ref mo), (1, .ref x), (0, .ref b)]) : W p l e room_1 s m #[Value.ref b] below meth c H locs 77 199433 (lw_Z below #[Value.ref b] s) (F0 m 1334 ls []) := by
  obtain ⟨hx, hb, hr, hml, hown, hts, hX, hbl, hlocks, hgv⟩ := id C0
  have hg := gw_hts hts
  have hown : s.vm.findClass RL = some m.cls := hown
  have hXX := hYY.x
  generalize hAe : (fun q : Nat => s.heap.size ≤ q) = A at hYY hD hS
  have hA : ∀ q : Nat, s.heap.size ≤ q → A q := fun q h => by rw [← hAe]; exact h
  have hbA : ¬ A b := by rw [← hAe]; exact Nat.not_le.mpr hbl
  refine lv_aload_n hx hb dL_law_1334 rfl (lv_at hl 3 rfl) ?_
  refine lv_aload_n hx hb dL_law_1335 rfl (lv_at hl 4 rfl) ?_
  refine lv_iload hx hb dL_law_1336 (lv_at hl 0 rfl) ?_
  refine lv_iconst (v := 1) hx hb dL_law_1338 (by decide) ?_
  refine lv_iadd hx hb dL_law_1339 ?_
  refine px_top (v := 1) (by decide) ?_
  refine va_sld hx hb hX hbl hbA hS (i := 1) (px_in (by decide)) dL_law_1340 ?_
  refine px_top (v := xs 1) rfl ?_
  have hPc_1 := hP.sub (ws' := [px_o x 10 fx, px_i ve (y 1) 4 fve]) [0, 1] rfl
  have hDc_1 := hD.sub (ws' := [px_o x 10 fx, px_i ve (y 1) 4 fve]) [0, 1] (by decide +kernel) rfl
  refine vp_callSi (va_Run.run (va_runV (As := [.int (xs 1)]) (rest := []) ⟨hx, hb, hml, hown, hg⟩ (c_X10_heard l D y H.size x fx ve fve (xs 1) hx_15 hve_e0 hve_e1 hve_e2 hve_e3) (cwV 1 hg (px_gV q_5_134 q_5_135 q_5_136 q_1_1 q_5_137) rfl rfl rfl (by decide +kernel) ⟨Nat.le_of_ble_eq_true rfl, Nat.le_of_ble_eq_true rfl⟩) (px_preV hK hPc_1 hDc_1 (ci := 10) (q0 := 0) rfl rfl) rfl rfl hl.1 rfl (lv_room (Nat.le_of_ble_eq_true rfl)) dL_law_1341 ⟨Nat.le_of_ble_eq_true rfl, Nat.le_of_ble_eq_true rfl⟩)) (fun r_1 hw_1 => ?_)
  clear hPc_1 hDc_1
  obtain rfl : r_1 = (-1) := hw_1
  refine lv_aload_n hx hb dL_law_1344 rfl (lv_at hl 2 rfl) ?_
  refine lv_aload_n hx hb dL_law_1345 rfl (lv_at hl 4 rfl) ?_
  refine lv_iload hx hb dL_law_1346 (lv_at hl 0 rfl) ?_
  refine lv_iconst (v := 1) hx hb dL_law_1348 (by decide) ?_
  refine lv_iadd hx hb dL_law_1349 ?_
  refine px_top (v := 1) (by decide) ?_
  refine va_sld hx hb hX hbl hbA hS (i := 1) (px_in (by decide)) dL_law_1350 ?_
  refine px_top (v := xs 1) rfl ?_
  have hPc_2 := hP.sub (ws' := [px_o mo 11 fmo]) [2] rfl
  have hDc_2 := hD.sub (ws' := [px_o mo 11 fmo]) [2] (by decide +kernel) rfl
  have hFc_2 := va_free (wc := [px_o mo 11 fmo]) hD hS hA [2] rfl
  refine va_calli (va_runV (As := [.int (xs 1)]) (rest := [.int (-1)]) ⟨hx, hb, hml, hown, hg⟩ (c_X11_heard l D y H.size mo fmo (xs 1) hmo_0 hmo_54) (cwV 1 hg (px_gV q_8_200 q_8_201 q_8_202 q_1_15 q_8_203) rfl rfl rfl (by decide +kernel) ⟨Nat.le_of_ble_eq_true rfl, Nat.le_of_ble_eq_true rfl⟩) (px_preV hK hPc_2 hDc_2 (ci := 11) (q0 := 0) rfl rfl) rfl rfl hl.1 rfl (lv_room (Nat.le_of_ble_eq_true rfl)) dL_law_1351 ⟨Nat.le_of_ble_eq_true rfl, Nat.le_of_ble_eq_true rfl⟩) hS (fun q _ h => hFc_2 q h) hFc_2 (fun r_2 u_2 t_2 H_2 locs_2 ht_2 hvm_2 hw_2 hB_2 hz_2 hk_2 hS_2 => ?_)
  refine W.cs (cells' := 77) (slots' := 199433) rfl rfl ?_
  obtain ⟨hP_2, hD_2⟩ := va_join (wr := [px_o x 10 fx, px_i ve (y 1) 4 fve]) (w1 := []) hP hD [2] [0, 1] rfl rfl (by decide +kernel) (by decide +kernel) hk_2 hFc_2 (fun k q h => by simp at h) ⟨fun i j p q h => by simp at h, fun k q h => by simp at h⟩
  clear hP hD hS hPc_2 hDc_2 hFc_2 hz_2 hk_2 hvm_2 ht_2 hB_2
  have hP : va_P D vwCl [px_o x 10 fx, px_i ve (y 1) 4 fve] H_2 := hP_2
  have hD : va_D A [px_o x 10 fx, px_i ve (y 1) 4 fve] := hD_2
  have hS := hS_2
  clear hP_2 hD_2 hS_2
  obtain rfl : r_2 = (-1) := hw_2
  refine lv_icmp_eq (tgt := 1472) hx hb dL_law_1354 (by decide) (fun _ => ?_) (fun c_3 => absurd c_3 (by decide))
  refine W.widen (k := 600002) (n := 7302232) (Nat.le_of_ble_eq_true rfl) (Nat.le_of_ble_eq_true rfl) ?_
  exact law_end C0 hAe hS (lv_sub hl [0, 4] rfl)
