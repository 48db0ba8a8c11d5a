set_option maxHeartbeats 4000000 in
set_option maxRecDepth 100000 in
theorem law_8 {p : Program} {l : Launch} {e : Env} {s : State} {m : MethodId} {below : List Frame} {meth : Method} {c : Code} {b : Nat} {xs : Nat → Int32} {D : va_G} {y : Nat → ClassId} {ad : Nat → Nat} {bb : Nat → Int32} (hst : l.stackTraces = false) (C0 : lw_At p s m meth c b 6 xs) (hK : va_K D vwCl (px_tys y) s) (hYY : px_Y ad bb (fun q : Nat => s.heap.size ≤ q) s s.heap) (x : Nat) (mo : Nat) (ou : Nat) (fx : List Value) (g : Nat) (fg : List Value) (fmo : List Value) (ms : Nat) (fms : Nat → Int32) (hx_3 : px_g fx 3 (.ref g)) (hg_0 : px_g fg 0 (.int 0)) (hg_1 : px_g fg 1 (.int 0)) (hg_8 : px_g fg 8 (.int 0)) (hg_9 : px_g fg 9 (.int 0)) (hg_14 : px_g fg 14 (.int (-1))) (hg_15 : px_g fg 15 (.int 0)) (hg_16 : px_g fg 16 (.int 0)) (hmo_0 : px_g fmo 0 (.int 0)) (hmo_6 : px_g fmo 6 (.ref ms)) (hms_e1 : fms 1 = 0) (hms_e4 : fms 4 = (-1)) (hms_e5 : fms 5 = 0) (hms_e6 : fms 6 = 0) (hms_e7 : fms 7 = 0) (hms_e138 : fms 138 = 0) (hms_e139 : fms 139 = 0) (hms_e140 : fms 140 = 0) (hms_e141 : fms 141 = 0) (hms_e142 : fms 142 = 0) (hms_e143 : fms 143 = 0) (hms_e144 : fms 144 = 0) (hms_e145 : fms 145 = 0) (hms_e146 : fms 146 = 0) (hms_e147 : fms 147 = 0) (hms_e148 : fms 148 = 0) (hms_e149 : fms 149 = 0) (hms_e150 : fms 150 = 0) {H : Heap} {locs : List Loc} {ls : Array Slot} (hP : va_P D vwCl [px_o x 10 fx, px_o g 2 fg, px_o mo 11 fmo, px_i ms (y 1) 765 fms] H) (hD : va_D (fun q : Nat => s.heap.size ≤ q) [px_o x 10 fx, px_o g 2 fg, px_o mo 11 fmo, px_i ms (y 1) 765 fms]) (hS : va_S (fun q : Nat => s.heap.size ≤ q) s.heap H locs) (hl : lv_has ls 8 [(4, .int 0), (3, .ref ou), (2, .ref mo), (1, .ref x), (0, .ref b)]) : W p l e room_1 s m #[Value.ref b] below meth c H locs 77 199433 (lw_Z below #[Value.ref b] s) (F0 m 483 ls []) := by
  obtain ⟨hx, hb, hr, hml, hown, hts, hX, hbl, hlocks, hgv⟩ := id C0
  have hg := gw_hts hts
  have hown : s.vm.findClass RL = some m.cls := hown
  have hXX := hYY.x
  generalize hAe : (fun q : Nat => s.heap.size ≤ q) = A at hYY hD hS
  have hA : ∀ q : Nat, s.heap.size ≤ q → A q := fun q h => by rw [← hAe]; exact h
  have hbA : ¬ A b := by rw [← hAe]; exact Nat.not_le.mpr hbl
  refine lv_aload_n hx hb dL_law_483 rfl (lv_at hl 3 rfl) ?_
  refine lv_aload_n hx hb dL_law_484 rfl (lv_at hl 4 rfl) ?_
  refine lv_iload hx hb dL_law_485 (lv_at hl 0 rfl) ?_
  refine lv_iconst (v := 1) hx hb dL_law_487 (by decide) ?_
  refine lv_iadd hx hb dL_law_488 ?_
  refine px_top (v := 1) (by decide) ?_
  refine va_sld hx hb hX hbl hbA hS (i := 1) (px_in (by decide)) dL_law_489 ?_
  refine px_top (v := xs 1) rfl ?_
  have hPc_1 := hP.sub (ws' := [px_o x 10 fx, px_o g 2 fg]) [0, 1] rfl
  have hDc_1 := hD.sub (ws' := [px_o x 10 fx, px_o g 2 fg]) [0, 1] (by decide +kernel) rfl
  refine vp_callSi (va_Run.run (va_runV (As := [.int (xs 1)]) (rest := []) ⟨hx, hb, hml, hown, hg⟩ (c_X10_now l D y H.size x fx g fg (xs 1) hx_3 hg_0 hg_1 hg_8 hg_9 hg_14 hg_15 hg_16) (cwV 1 hg (px_gV q_3_147 q_3_148 q_3_149 q_1_1 q_3_150) rfl rfl rfl (by decide +kernel) ⟨Nat.le_of_ble_eq_true rfl, Nat.le_of_ble_eq_true rfl⟩) (px_preV hK hPc_1 hDc_1 (ci := 10) (q0 := 0) rfl rfl) rfl rfl hl.1 rfl (lv_room (Nat.le_of_ble_eq_true rfl)) dL_law_490 ⟨Nat.le_of_ble_eq_true rfl, Nat.le_of_ble_eq_true rfl⟩)) (fun r_1 hw_1 => ?_)
  clear hPc_1 hDc_1
  obtain rfl : r_1 = px_now (xs 1) := hw_1
  refine lv_aload_n hx hb dL_law_493 rfl (lv_at hl 2 rfl) ?_
  refine lv_aload_n hx hb dL_law_494 rfl (lv_at hl 4 rfl) ?_
  refine lv_iload hx hb dL_law_495 (lv_at hl 0 rfl) ?_
  refine lv_iconst (v := 1) hx hb dL_law_497 (by decide) ?_
  refine lv_iadd hx hb dL_law_498 ?_
  refine px_top (v := 1) (by decide) ?_
  refine va_sld hx hb hX hbl hbA hS (i := 1) (px_in (by decide)) dL_law_499 ?_
  refine px_top (v := xs 1) rfl ?_
  have hPc_2 := hP.sub (ws' := [px_o mo 11 fmo, px_i ms (y 1) 765 fms]) [2, 3] rfl
  have hDc_2 := hD.sub (ws' := [px_o mo 11 fmo, px_i ms (y 1) 765 fms]) [2, 3] (by decide +kernel) rfl
  have hFc_2 := va_free (wc := [px_o mo 11 fmo, px_i ms (y 1) 765 fms]) hD hS hA [2, 3] rfl
  refine va_calli (va_runV (As := [.int (xs 1)]) (rest := [.int (px_now (xs 1))]) ⟨hx, hb, hml, hown, hg⟩ (c_X11_now l D y H.size mo fmo ms fms (xs 1) hmo_0 hmo_6 hms_e1 hms_e4 hms_e5 hms_e6 hms_e7 hms_e138 hms_e139 hms_e140 hms_e141 hms_e142 hms_e143 hms_e144 hms_e145 hms_e146 hms_e147 hms_e148 hms_e149 hms_e150) (cwV 1 hg (px_gV q_7_223 q_7_224 q_7_225 q_1_15 q_7_226) rfl rfl rfl (by decide +kernel) ⟨Nat.le_of_ble_eq_true rfl, Nat.le_of_ble_eq_true rfl⟩) (px_preV hK hPc_2 hDc_2 (ci := 11) (q0 := 0) rfl rfl) rfl rfl hl.1 rfl (lv_room (Nat.le_of_ble_eq_true rfl)) dL_law_500 ⟨Nat.le_of_ble_eq_true rfl, Nat.le_of_ble_eq_true rfl⟩) hS (fun q _ h => hFc_2 q h) hFc_2 (fun r_2 u_2 t_2 H_2 locs_2 ht_2 hvm_2 hw_2 hB_2 hz_2 hk_2 hS_2 => ?_)
  refine W.cs (cells' := 77) (slots' := 199433) rfl rfl ?_
  obtain ⟨hP_2, hD_2⟩ := va_join (wr := [px_o x 10 fx, px_o g 2 fg]) (w1 := []) hP hD [2, 3] [0, 1] rfl rfl (by decide +kernel) (by decide +kernel) hk_2 hFc_2 (fun k q h => by simp at h) ⟨fun i j p q h => by simp at h, fun k q h => by simp at h⟩
  clear hP hD hS hPc_2 hDc_2 hFc_2 hz_2 hk_2 hvm_2 ht_2 hB_2
  have hP : va_P D vwCl [px_o x 10 fx, px_o g 2 fg] H_2 := hP_2
  have hD : va_D A [px_o x 10 fx, px_o g 2 fg] := hD_2
  have hS := hS_2
  clear hP_2 hD_2 hS_2
  obtain rfl : r_2 = px_now (xs 1) := hw_2
  refine lv_icmp_eq (tgt := 1472) hx hb dL_law_503 (by decide) (fun _ => ?_) (fun c_3 => absurd rfl c_3)
  refine W.widen (k := 600002) (n := 7302232) (Nat.le_of_ble_eq_true rfl) (Nat.le_of_ble_eq_true rfl) ?_
  exact law_end C0 hAe hS (lv_sub hl [0, 4] rfl)

set_option maxHeartbeats 4000000 in
set_option maxRecDepth 100000 in
theorem law_9 {p : Program} {l : Launch} {e : Env} {s : State} {m : MethodId} {below : List Frame} {meth : Method} {c : Code} {b : Nat} {xs : Nat → Int32} {D : va_G} {y : Nat → ClassId} {ad : Nat → Nat} {bb : Nat → Int32} (hst : l.stackTraces = false) (C0 : lw_At p s m meth c b 6 xs) (hK : va_K D vwCl (px_tys y) s) (hYY : px_Y ad bb (fun q : Nat => s.heap.size ≤ q) s s.heap) (x : Nat) (mo : Nat) (ou : Nat) (fx : List Value) (g : Nat) (fg : List Value) (fmo : List Value) (ms : Nat) (fms : Nat → Int32) (hx_3 : px_g fx 3 (.ref g)) (hg_1 : px_g fg 1 (.int 0)) (hmo_0 : px_g fmo 0 (.int 0)) (hmo_6 : px_g fmo 6 (.ref ms)) (hms_e1 : fms 1 = 0) {H : Heap} {locs : List Loc} {ls : Array Slot} (hP : va_P D vwCl [px_o x 10 fx, px_o g 2 fg, px_o mo 11 fmo, px_i ms (y 1) 765 fms] H) (hD : va_D (fun q : Nat => s.heap.size ≤ q) [px_o x 10 fx, px_o g 2 fg, px_o mo 11 fmo, px_i ms (y 1) 765 fms]) (hS : va_S (fun q : Nat => s.heap.size ≤ q) s.heap H locs) (hl : lv_has ls 8 [(4, .int 0), (3, .ref ou), (2, .ref mo), (1, .ref x), (0, .ref b)]) : W p l e room_1 s m #[Value.ref b] below meth c H locs 77 199433 (lw_Z below #[Value.ref b] s) (F0 m 508 ls []) := by
  obtain ⟨hx, hb, hr, hml, hown, hts, hX, hbl, hlocks, hgv⟩ := id C0
  have hg := gw_hts hts
  have hown : s.vm.findClass RL = some m.cls := hown
  have hXX := hYY.x
  generalize hAe : (fun q : Nat => s.heap.size ≤ q) = A at hYY hD hS
  have hA : ∀ q : Nat, s.heap.size ≤ q → A q := fun q h => by rw [← hAe]; exact h
  have hbA : ¬ A b := by rw [← hAe]; exact Nat.not_le.mpr hbl
  refine lv_aload_n hx hb dL_law_508 rfl (lv_at hl 3 rfl) ?_
  refine lv_aload_n hx hb dL_law_509 rfl (lv_at hl 4 rfl) ?_
  refine lv_iload hx hb dL_law_510 (lv_at hl 0 rfl) ?_
  refine lv_iconst (v := 1) hx hb dL_law_512 (by decide) ?_
  refine lv_iadd hx hb dL_law_513 ?_
  refine px_top (v := 1) (by decide) ?_
  refine va_sld hx hb hX hbl hbA hS (i := 1) (px_in (by decide)) dL_law_514 ?_
  refine px_top (v := xs 1) rfl ?_
  refine lv_aload_n hx hb dL_law_515 rfl (lv_at hl 4 rfl) ?_
  refine lv_iload hx hb dL_law_516 (lv_at hl 0 rfl) ?_
  refine lv_iconst (v := 2) hx hb dL_law_518 (by decide) ?_
  refine lv_iadd hx hb dL_law_519 ?_
  refine px_top (v := 2) (by decide) ?_
  refine va_sld hx hb hX hbl hbA hS (i := 2) (px_in (by decide)) dL_law_520 ?_
  refine px_top (v := xs 2) rfl ?_
  refine lv_aload_n hx hb dL_law_521 rfl (lv_at hl 4 rfl) ?_
  refine lv_iload hx hb dL_law_522 (lv_at hl 0 rfl) ?_
  refine lv_iconst (v := 3) hx hb dL_law_524 (by decide) ?_
  refine lv_iadd hx hb dL_law_525 ?_
  refine px_top (v := 3) (by decide) ?_
  refine va_sld hx hb hX hbl hbA hS (i := 3) (px_in (by decide)) dL_law_526 ?_
  refine px_top (v := xs 3) rfl ?_
  have hPc_1 := hP.sub (ws' := [px_o x 10 fx, px_o g 2 fg]) [0, 1] rfl
  have hDc_1 := hD.sub (ws' := [px_o x 10 fx, px_o g 2 fg]) [0, 1] (by decide +kernel) rfl
  refine vp_callSi (va_Run.run (va_runV (As := [.int (xs 1), .int (xs 2), .int (xs 3)]) (rest := []) ⟨hx, hb, hml, hown, hg⟩ (c_X10_why l D y H.size x fx g fg (xs 1) (xs 2) (xs 3) hx_3 hg_1) (cwV 3 hg (px_gV q_3_161 q_3_162 q_3_163 q_1_1 q_3_164) rfl rfl rfl (by decide +kernel) ⟨Nat.le_of_ble_eq_true rfl, Nat.le_of_ble_eq_true rfl⟩) (px_preV hK hPc_1 hDc_1 (ci := 10) (q0 := 0) rfl rfl) rfl rfl hl.1 rfl (lv_room (Nat.le_of_ble_eq_true rfl)) dL_law_527 ⟨Nat.le_of_ble_eq_true rfl, Nat.le_of_ble_eq_true rfl⟩)) (fun r_1 hw_1 => ?_)
  clear hPc_1 hDc_1
  obtain rfl : r_1 = (-1) := hw_1
  refine lv_aload_n hx hb dL_law_530 rfl (lv_at hl 2 rfl) ?_
  refine lv_aload_n hx hb dL_law_531 rfl (lv_at hl 4 rfl) ?_
  refine lv_iload hx hb dL_law_532 (lv_at hl 0 rfl) ?_
  refine lv_iconst (v := 1) hx hb dL_law_534 (by decide) ?_
  refine lv_iadd hx hb dL_law_535 ?_
  refine px_top (v := 1) (by decide) ?_
  refine va_sld hx hb hX hbl hbA hS (i := 1) (px_in (by decide)) dL_law_536 ?_
  refine px_top (v := xs 1) rfl ?_
  refine lv_aload_n hx hb dL_law_537 rfl (lv_at hl 4 rfl) ?_
  refine lv_iload hx hb dL_law_538 (lv_at hl 0 rfl) ?_
  refine lv_iconst (v := 2) hx hb dL_law_540 (by decide) ?_
  refine lv_iadd hx hb dL_law_541 ?_
  refine px_top (v := 2) (by decide) ?_
  refine va_sld hx hb hX hbl hbA hS (i := 2) (px_in (by decide)) dL_law_542 ?_
  refine px_top (v := xs 2) rfl ?_
  refine lv_aload_n hx hb dL_law_543 rfl (lv_at hl 4 rfl) ?_
  refine lv_iload hx hb dL_law_544 (lv_at hl 0 rfl) ?_
  refine lv_iconst (v := 3) hx hb dL_law_546 (by decide) ?_
  refine lv_iadd hx hb dL_law_547 ?_
  refine px_top (v := 3) (by decide) ?_
  refine va_sld hx hb hX hbl hbA hS (i := 3) (px_in (by decide)) dL_law_548 ?_
  refine px_top (v := xs 3) rfl ?_
  have hPc_2 := hP.sub (ws' := [px_o mo 11 fmo, px_i ms (y 1) 765 fms]) [2, 3] rfl
  have hDc_2 := hD.sub (ws' := [px_o mo 11 fmo, px_i ms (y 1) 765 fms]) [2, 3] (by decide +kernel) rfl
  have hFc_2 := va_free (wc := [px_o mo 11 fmo, px_i ms (y 1) 765 fms]) hD hS hA [2, 3] rfl
  refine va_calli (va_runV (As := [.int (xs 1), .int (xs 2), .int (xs 3)]) (rest := [.int (-1)]) ⟨hx, hb, hml, hown, hg⟩ (c_X11_why l D y H.size mo fmo ms fms (xs 1) (xs 2) (xs 3) hmo_0 hmo_6 hms_e1) (cwV 3 hg (px_gV q_7_231 q_7_232 q_7_233 q_1_15 q_7_234) rfl rfl rfl (by decide +kernel) ⟨Nat.le_of_ble_eq_true rfl, Nat.le_of_ble_eq_true rfl⟩) (px_preV hK hPc_2 hDc_2 (ci := 11) (q0 := 0) rfl rfl) rfl rfl hl.1 rfl (lv_room (Nat.le_of_ble_eq_true rfl)) dL_law_549 ⟨Nat.le_of_ble_eq_true rfl, Nat.le_of_ble_eq_true rfl⟩) hS (fun q _ h => hFc_2 q h) hFc_2 (fun r_2 u_2 t_2 H_2 locs_2 ht_2 hvm_2 hw_2 hB_2 hz_2 hk_2 hS_2 => ?_)
  refine W.cs (cells' := 77) (slots' := 199433) rfl rfl ?_
  obtain ⟨hP_2, hD_2⟩ := va_join (wr := [px_o x 10 fx, px_o g 2 fg]) (w1 := []) hP hD [2, 3] [0, 1] rfl rfl (by decide +kernel) (by decide +kernel) hk_2 hFc_2 (fun k q h => by simp at h) ⟨fun i j p q h => by simp at h, fun k q h => by simp at h⟩
  clear hP hD hS hPc_2 hDc_2 hFc_2 hz_2 hk_2 hvm_2 ht_2 hB_2
  have hP : va_P D vwCl [px_o x 10 fx, px_o g 2 fg] H_2 := hP_2
  have hD : va_D A [px_o x 10 fx, px_o g 2 fg] := hD_2
  have hS := hS_2
  clear hP_2 hD_2 hS_2
  obtain rfl : r_2 = (-1) := hw_2
  refine lv_icmp_eq (tgt := 1472) hx hb dL_law_552 (by decide) (fun _ => ?_) (fun c_3 => absurd c_3 (by decide))
  refine W.widen (k := 600002) (n := 7302232) (Nat.le_of_ble_eq_true rfl) (Nat.le_of_ble_eq_true rfl) ?_
  exact law_end C0 hAe hS (lv_sub hl [0, 4] rfl)

set_option maxHeartbeats 4000000 in
set_option maxRecDepth 100000 in
theorem law_10 {p : Program} {l : Launch} {e : Env} {s : State} {m : MethodId} {below : List Frame} {meth : Method} {c : Code} {b : Nat} {xs : Nat → Int32} {D : va_G} {y : Nat → ClassId} {ad : Nat → Nat} {bb : Nat → Int32} (hst : l.stackTraces = false) (C0 : lw_At p s m meth c b 6 xs) (hK : va_K D vwCl (px_tys y) s) (hYY : px_Y ad bb (fun q : Nat => s.heap.size ≤ q) s s.heap) (x : Nat) (mo : Nat) (ou : Nat) (fx : List Value) (g : Nat) (fg : List Value) (fmo : List Value) (ms : Nat) (fms : Nat → Int32) (hx_3 : px_g fx 3 (.ref g)) (hg_1 : px_g fg 1 (.int 0)) (hmo_0 : px_g fmo 0 (.int 0)) (hmo_6 : px_g fmo 6 (.ref ms)) (hms_e1 : fms 1 = 0) {H : Heap} {locs : List Loc} {ls : Array Slot} (hP : va_P D vwCl [px_o x 10 fx, px_o g 2 fg, px_o mo 11 fmo, px_i ms (y 1) 765 fms] H) (hD : va_D (fun q : Nat => s.heap.size ≤ q) [px_o x 10 fx, px_o g 2 fg, px_o mo 11 fmo, px_i ms (y 1) 765 fms]) (hS : va_S (fun q : Nat => s.heap.size ≤ q) s.heap H locs) (hl : lv_has ls 8 [(4, .int 0), (3, .ref ou), (2, .ref mo), (1, .ref x), (0, .ref b)]) : W p l e room_1 s m #[Value.ref b] below meth c H locs 77 199433 (lw_Z below #[Value.ref b] s) (F0 m 557 ls []) := by
  obtain ⟨hx, hb, hr, hml, hown, hts, hX, hbl, hlocks, hgv⟩ := id C0
  have hg := gw_hts hts
  have hown : s.vm.findClass RL = some m.cls := hown
  have hXX := hYY.x
  generalize hAe : (fun q : Nat => s.heap.size ≤ q) = A at hYY hD hS
  have hA : ∀ q : Nat, s.heap.size ≤ q → A q := fun q h => by rw [← hAe]; exact h
  have hbA : ¬ A b := by rw [← hAe]; exact Nat.not_le.mpr hbl
  refine lv_aload_n hx hb dL_law_557 rfl (lv_at hl 3 rfl) ?_
  refine lv_aload_n hx hb dL_law_558 rfl (lv_at hl 4 rfl) ?_
  refine lv_iload hx hb dL_law_559 (lv_at hl 0 rfl) ?_
  refine lv_iconst (v := 1) hx hb dL_law_561 (by decide) ?_
  refine lv_iadd hx hb dL_law_562 ?_
  refine px_top (v := 1) (by decide) ?_
  refine va_sld hx hb hX hbl hbA hS (i := 1) (px_in (by decide)) dL_law_563 ?_
  refine px_top (v := xs 1) rfl ?_
  refine lv_aload_n hx hb dL_law_564 rfl (lv_at hl 4 rfl) ?_
  refine lv_iload hx hb dL_law_565 (lv_at hl 0 rfl) ?_
  refine lv_iconst (v := 2) hx hb dL_law_567 (by decide) ?_
  refine lv_iadd hx hb dL_law_568 ?_
  refine px_top (v := 2) (by decide) ?_
  refine va_sld hx hb hX hbl hbA hS (i := 2) (px_in (by decide)) dL_law_569 ?_
  refine px_top (v := xs 2) rfl ?_
  refine lv_aload_n hx hb dL_law_570 rfl (lv_at hl 4 rfl) ?_
  refine lv_iload hx hb dL_law_571 (lv_at hl 0 rfl) ?_
  refine lv_iconst (v := 3) hx hb dL_law_573 (by decide) ?_
  refine lv_iadd hx hb dL_law_574 ?_
  refine px_top (v := 3) (by decide) ?_
  refine va_sld hx hb hX hbl hbA hS (i := 3) (px_in (by decide)) dL_law_575 ?_
  refine px_top (v := xs 3) rfl ?_
  refine lv_aload_n hx hb dL_law_576 rfl (lv_at hl 4 rfl) ?_
  refine lv_iload hx hb dL_law_577 (lv_at hl 0 rfl) ?_
  refine lv_iconst (v := 4) hx hb dL_law_579 (by decide) ?_
  refine lv_iadd hx hb dL_law_580 ?_
  refine px_top (v := 4) (by decide) ?_
  refine va_sld hx hb hX hbl hbA hS (i := 4) (px_in (by decide)) dL_law_581 ?_
  refine px_top (v := xs 4) rfl ?_
  have hPc_1 := hP.sub (ws' := [px_o x 10 fx, px_o g 2 fg]) [0, 1] rfl
  have hDc_1 := hD.sub (ws' := [px_o x 10 fx, px_o g 2 fg]) [0, 1] (by decide +kernel) rfl
  refine vp_callSi (va_Run.run (va_runV (As := [.int (xs 1), .int (xs 2), .int (xs 3), .int (xs 4)]) (rest := []) ⟨hx, hb, hml, hown, hg⟩ (c_X10_ask l D y H.size x fx g fg (xs 1) (xs 2) (xs 3) (xs 4) hx_3 hg_1) (cwV 4 hg (px_gV q_3_173 q_3_174 q_3_175 q_1_1 q_3_176) rfl rfl rfl (by decide +kernel) ⟨Nat.le_of_ble_eq_true rfl, Nat.le_of_ble_eq_true rfl⟩) (px_preV hK hPc_1 hDc_1 (ci := 10) (q0 := 0) rfl rfl) rfl rfl hl.1 rfl (lv_room (Nat.le_of_ble_eq_true rfl)) dL_law_582 ⟨Nat.le_of_ble_eq_true rfl, Nat.le_of_ble_eq_true rfl⟩)) (fun r_1 hw_1 => ?_)
  clear hPc_1 hDc_1
  obtain rfl : r_1 = (-1) := hw_1
  refine lv_aload_n hx hb dL_law_585 rfl (lv_at hl 2 rfl) ?_
  refine lv_aload_n hx hb dL_law_586 rfl (lv_at hl 4 rfl) ?_
  refine lv_iload hx hb dL_law_587 (lv_at hl 0 rfl) ?_
  refine lv_iconst (v := 1) hx hb dL_law_589 (by decide) ?_
  refine lv_iadd hx hb dL_law_590 ?_
  refine px_top (v := 1) (by decide) ?_
  refine va_sld hx hb hX hbl hbA hS (i := 1) (px_in (by decide)) dL_law_591 ?_
  refine px_top (v := xs 1) rfl ?_
  refine lv_aload_n hx hb dL_law_592 rfl (lv_at hl 4 rfl) ?_
  refine lv_iload hx hb dL_law_593 (lv_at hl 0 rfl) ?_
  refine lv_iconst (v := 2) hx hb dL_law_595 (by decide) ?_
  refine lv_iadd hx hb dL_law_596 ?_
  refine px_top (v := 2) (by decide) ?_
  refine va_sld hx hb hX hbl hbA hS (i := 2) (px_in (by decide)) dL_law_597 ?_
  refine px_top (v := xs 2) rfl ?_
  refine lv_aload_n hx hb dL_law_598 rfl (lv_at hl 4 rfl) ?_
  refine lv_iload hx hb dL_law_599 (lv_at hl 0 rfl) ?_
  refine lv_iconst (v := 3) hx hb dL_law_601 (by decide) ?_
  refine lv_iadd hx hb dL_law_602 ?_
  refine px_top (v := 3) (by decide) ?_
  refine va_sld hx hb hX hbl hbA hS (i := 3) (px_in (by decide)) dL_law_603 ?_
  refine px_top (v := xs 3) rfl ?_
  refine lv_aload_n hx hb dL_law_604 rfl (lv_at hl 4 rfl) ?_
  refine lv_iload hx hb dL_law_605 (lv_at hl 0 rfl) ?_
  refine lv_iconst (v := 4) hx hb dL_law_607 (by decide) ?_
  refine lv_iadd hx hb dL_law_608 ?_
  refine px_top (v := 4) (by decide) ?_
  refine va_sld hx hb hX hbl hbA hS (i := 4) (px_in (by decide)) dL_law_609 ?_
  refine px_top (v := xs 4) rfl ?_
  have hPc_2 := hP.sub (ws' := [px_o mo 11 fmo, px_i ms (y 1) 765 fms]) [2, 3] rfl
  have hDc_2 := hD.sub (ws' := [px_o mo 11 fmo, px_i ms (y 1) 765 fms]) [2, 3] (by decide +kernel) rfl
  have hFc_2 := va_free (wc := [px_o mo 11 fmo, px_i ms (y 1) 765 fms]) hD hS hA [2, 3] rfl
  refine va_calli (va_runV (As := [.int (xs 1), .int (xs 2), .int (xs 3), .int (xs 4)]) (rest := [.int (-1)]) ⟨hx, hb, hml, hown, hg⟩ (c_X11_ask l D y H.size mo fmo ms fms (xs 1) (xs 2) (xs 3) (xs 4) hmo_0 hmo_6 hms_e1) (cwV 4 hg (px_gV q_8_3 q_8_4 q_8_5 q_1_15 q_8_6) rfl rfl rfl (by decide +kernel) ⟨Nat.le_of_ble_eq_true rfl, Nat.le_of_ble_eq_true rfl⟩) (px_preV hK hPc_2 hDc_2 (ci := 11) (q0 := 0) rfl rfl) rfl rfl hl.1 rfl (lv_room (Nat.le_of_ble_eq_true rfl)) dL_law_610 ⟨Nat.le_of_ble_eq_true rfl, Nat.le_of_ble_eq_true rfl⟩) hS (fun q _ h => hFc_2 q h) hFc_2 (fun r_2 u_2 t_2 H_2 locs_2 ht_2 hvm_2 hw_2 hB_2 hz_2 hk_2 hS_2 => ?_)
  refine W.cs (cells' := 77) (slots' := 199433) rfl rfl ?_
  obtain ⟨hP_2, hD_2⟩ := va_join (wr := [px_o x 10 fx, px_o g 2 fg]) (w1 := []) hP hD [2, 3] [0, 1] rfl rfl (by decide +kernel) (by decide +kernel) hk_2 hFc_2 (fun k q h => by simp at h) ⟨fun i j p q h => by simp at h, fun k q h => by simp at h⟩
  clear hP hD hS hPc_2 hDc_2 hFc_2 hz_2 hk_2 hvm_2 ht_2 hB_2
  have hP : va_P D vwCl [px_o x 10 fx, px_o g 2 fg] H_2 := hP_2
  have hD : va_D A [px_o x 10 fx, px_o g 2 fg] := hD_2
  have hS := hS_2
  clear hP_2 hD_2 hS_2
  obtain rfl : r_2 = (-1) := hw_2
  refine lv_icmp_eq (tgt := 1472) hx hb dL_law_613 (by decide) (fun _ => ?_) (fun c_3 => absurd c_3 (by decide))
  refine W.widen (k := 600002) (n := 7302232) (Nat.le_of_ble_eq_true rfl) (Nat.le_of_ble_eq_true rfl) ?_
  exact law_end C0 hAe hS (lv_sub hl [0, 4] rfl)

set_option maxHeartbeats 4000000 in
set_option maxRecDepth 100000 in
theorem law_11 {p : Program} {l : Launch} {e : Env} {s : State} {m : MethodId} {below : List Frame} {meth : Method} {c : Code} {b : Nat} {xs : Nat → Int32} {D : va_G} {y : Nat → ClassId} {ad : Nat → Nat} {bb : Nat → Int32} (hst : l.stackTraces = false) (C0 : lw_At p s m meth c b 6 xs) (hK : va_K D vwCl (px_tys y) s) (hYY : px_Y ad bb (fun q : Nat => s.heap.size ≤ q) s s.heap) (x : Nat) (mo : Nat) (ou : Nat) (fx : List Value) (la : Nat) (fla : Nat → Int32) (fmo : List Value) (hx_13 : px_g fx 13 (.ref la)) (hla_e0 : fla 0 = (-1)) (hla_e1 : fla 1 = (-1)) (hla_e2 : fla 2 = (-1)) (hla_e3 : fla 3 = (-1)) (hla_e4 : fla 4 = (-1)) (hla_e5 : fla 5 = (-1)) (hla_e6 : fla 6 = (-1)) (hla_e7 : fla 7 = (-1)) (hmo_0 : px_g fmo 0 (.int 0)) (hmo_24 : px_g fmo 24 (.int 0)) {H : Heap} {locs : List Loc} {ls : Array Slot} (hP : va_P D vwCl [px_o x 10 fx, px_i la (y 1) 8 fla, px_o mo 11 fmo] H) (hD : va_D (fun q : Nat => s.heap.size ≤ q) [px_o x 10 fx, px_i la (y 1) 8 fla, px_o mo 11 fmo]) (hS : va_S (fun q : Nat => s.heap.size ≤ q) s.heap H locs) (hl : lv_has ls 8 [(4, .int 0), (3, .ref ou), (2, .ref mo), (1, .ref x), (0, .ref b)]) : W p l e room_1 s m #[Value.ref b] below meth c H locs 77 199433 (lw_Z below #[Value.ref b] s) (F0 m 618 ls []) := by
  obtain ⟨hx, hb, hr, hml, hown, hts, hX, hbl, hlocks, hgv⟩ := id C0
  have hg := gw_hts hts
  have hown : s.vm.findClass RL = some m.cls := hown
  have hXX := hYY.x
  generalize hAe : (fun q : Nat => s.heap.size ≤ q) = A at hYY hD hS
  have hA : ∀ q : Nat, s.heap.size ≤ q → A q := fun q h => by rw [← hAe]; exact h
  have hbA : ¬ A b := by rw [← hAe]; exact Nat.not_le.mpr hbl
  refine lv_aload_n hx hb dL_law_618 rfl (lv_at hl 3 rfl) ?_
  refine lv_aload_n hx hb dL_law_619 rfl (lv_at hl 4 rfl) ?_
  refine lv_iload hx hb dL_law_620 (lv_at hl 0 rfl) ?_
  refine lv_iconst (v := 1) hx hb dL_law_622 (by decide) ?_
  refine lv_iadd hx hb dL_law_623 ?_
  refine px_top (v := 1) (by decide) ?_
  refine va_sld hx hb hX hbl hbA hS (i := 1) (px_in (by decide)) dL_law_624 ?_
  refine px_top (v := xs 1) rfl ?_
  have hPc_1 := hP.sub (ws' := [px_o x 10 fx, px_i la (y 1) 8 fla]) [0, 1] rfl
  have hDc_1 := hD.sub (ws' := [px_o x 10 fx, px_i la (y 1) 8 fla]) [0, 1] (by decide +kernel) rfl
  refine vp_callSi (va_Run.run (va_runV (As := [.int (xs 1)]) (rest := []) ⟨hx, hb, hml, hown, hg⟩ (c_X10_asked l D y H.size x fx la fla (xs 1) hx_13 hla_e0 hla_e1 hla_e2 hla_e3 hla_e4 hla_e5 hla_e6 hla_e7) (cwV 1 hg (px_gV q_3_212 q_3_213 q_3_214 q_1_1 q_3_215) rfl rfl rfl (by decide +kernel) ⟨Nat.le_of_ble_eq_true rfl, Nat.le_of_ble_eq_true rfl⟩) (px_preV hK hPc_1 hDc_1 (ci := 10) (q0 := 0) rfl rfl) rfl rfl hl.1 rfl (lv_room (Nat.le_of_ble_eq_true rfl)) dL_law_625 ⟨Nat.le_of_ble_eq_true rfl, Nat.le_of_ble_eq_true rfl⟩)) (fun r_1 hw_1 => ?_)
  clear hPc_1 hDc_1
  obtain rfl : r_1 = (-1) := hw_1
  refine lv_aload_n hx hb dL_law_628 rfl (lv_at hl 2 rfl) ?_
  refine lv_aload_n hx hb dL_law_629 rfl (lv_at hl 4 rfl) ?_
  refine lv_iload hx hb dL_law_630 (lv_at hl 0 rfl) ?_
  refine lv_iconst (v := 1) hx hb dL_law_632 (by decide) ?_
  refine lv_iadd hx hb dL_law_633 ?_
  refine px_top (v := 1) (by decide) ?_
  refine va_sld hx hb hX hbl hbA hS (i := 1) (px_in (by decide)) dL_law_634 ?_
  refine px_top (v := xs 1) rfl ?_
  have hPc_2 := hP.sub (ws' := [px_o mo 11 fmo]) [2] rfl
  have hDc_2 := hD.sub (ws' := [px_o mo 11 fmo]) [2] (by decide +kernel) rfl
  have hFc_2 := va_free (wc := [px_o mo 11 fmo]) hD hS hA [2] rfl
  refine va_calli (va_runV (As := [.int (xs 1)]) (rest := [.int (-1)]) ⟨hx, hb, hml, hown, hg⟩ (c_X11_asked l D y H.size mo fmo (xs 1) hmo_0 hmo_24) (cwV 1 hg (px_gV q_8_23 q_8_24 q_8_25 q_1_15 q_8_26) rfl rfl rfl (by decide +kernel) ⟨Nat.le_of_ble_eq_true rfl, Nat.le_of_ble_eq_true rfl⟩) (px_preV hK hPc_2 hDc_2 (ci := 11) (q0 := 0) rfl rfl) rfl rfl hl.1 rfl (lv_room (Nat.le_of_ble_eq_true rfl)) dL_law_635 ⟨Nat.le_of_ble_eq_true rfl, Nat.le_of_ble_eq_true rfl⟩) hS (fun q _ h => hFc_2 q h) hFc_2 (fun r_2 u_2 t_2 H_2 locs_2 ht_2 hvm_2 hw_2 hB_2 hz_2 hk_2 hS_2 => ?_)
  refine W.cs (cells' := 77) (slots' := 199433) rfl rfl ?_
  obtain ⟨hP_2, hD_2⟩ := va_join (wr := [px_o x 10 fx, px_i la (y 1) 8 fla]) (w1 := []) hP hD [2] [0, 1] rfl rfl (by decide +kernel) (by decide +kernel) hk_2 hFc_2 (fun k q h => by simp at h) ⟨fun i j p q h => by simp at h, fun k q h => by simp at h⟩
  clear hP hD hS hPc_2 hDc_2 hFc_2 hz_2 hk_2 hvm_2 ht_2 hB_2
  have hP : va_P D vwCl [px_o x 10 fx, px_i la (y 1) 8 fla] H_2 := hP_2
  have hD : va_D A [px_o x 10 fx, px_i la (y 1) 8 fla] := hD_2
  have hS := hS_2
  clear hP_2 hD_2 hS_2
  obtain rfl : r_2 = (-1) := hw_2
  refine lv_icmp_eq (tgt := 1472) hx hb dL_law_638 (by decide) (fun _ => ?_) (fun c_3 => absurd c_3 (by decide))
  refine W.widen (k := 600002) (n := 7302232) (Nat.le_of_ble_eq_true rfl) (Nat.le_of_ble_eq_true rfl) ?_
  exact law_end C0 hAe hS (lv_sub hl [0, 4] rfl)

set_option maxHeartbeats 4000000 in
set_option maxRecDepth 100000 in
theorem law_12 {p : Program} {l : Launch} {e : Env} {s : State} {m : MethodId} {below : List Frame} {meth : Method} {c : Code} {b : Nat} {xs : Nat → Int32} {D : va_G} {y : Nat → ClassId} {ad : Nat → Nat} {bb : Nat → Int32} (hst : l.stackTraces = false) (C0 : lw_At p s m meth c b 6 xs) (hK : va_K D vwCl (px_tys y) s) (hYY : px_Y ad bb (fun q : Nat => s.heap.size ≤ q) s s.heap) (x : Nat) (mo : Nat) (ou : Nat) (fx : List Value) (g : Nat) (pa : Nat) (fg : List Value) (fpa : List Value) (fmo : List Value) (hx_3 : px_g fx 3 (.ref g)) (hx_10 : px_g fx 10 (.ref pa)) (hpa_1 : px_g fpa 1 (.int 0)) (hpa_2 : px_g fpa 2 (.int 0)) (hmo_0 : px_g fmo 0 (.int 0)) (hmo_27 : px_g fmo 27 (.int 0)) {H : Heap} {locs : List Loc} {ls : Array Slot} (hP : va_P D vwCl [px_o x 10 fx, px_o g 2 fg, px_o pa 5 fpa, px_o mo 11 fmo] H) (hD : va_D (fun q : Nat => s.heap.size ≤ q) [px_o x 10 fx, px_o g 2 fg, px_o pa 5 fpa, px_o mo 11 fmo]) (hS : va_S (fun q : Nat => s.heap.size ≤ q) s.heap H locs) (hl : lv_has ls 8 [(4, .int 0), (3, .ref ou), (2, .ref mo), (1, .ref x), (0, .ref b)]) : W p l e room_1 s m #[Value.ref b] below meth c H locs 77 199433 (lw_Z below #[Value.ref b] s) (F0 m 643 ls []) := by
  obtain ⟨hx, hb, hr, hml, hown, hts, hX, hbl, hlocks, hgv⟩ := id C0
  have hg := gw_hts hts
  have hown : s.vm.findClass RL = some m.cls := hown
  have hXX := hYY.x
  generalize hAe : (fun q : Nat => s.heap.size ≤ q) = A at hYY hD hS
  have hA : ∀ q : Nat, s.heap.size ≤ q → A q := fun q h => by rw [← hAe]; exact h
  have hbA : ¬ A b := by rw [← hAe]; exact Nat.not_le.mpr hbl
  refine lv_aload_n hx hb dL_law_643 rfl (lv_at hl 3 rfl) ?_
  have hPc_1 := hP.sub (ws' := [px_o x 10 fx, px_o g 2 fg, px_o pa 5 fpa]) [0, 1, 2] rfl
  have hDc_1 := hD.sub (ws' := [px_o x 10 fx, px_o g 2 fg, px_o pa 5 fpa]) [0, 1, 2] (by decide +kernel) rfl
  refine vp_callSi (va_Run.run (va_runV (As := []) (rest := []) ⟨hx, hb, hml, hown, hg⟩ (c_X10_undo l D y H.size x fx g pa fg fpa hx_3 hx_10 hpa_1 hpa_2) (cwV 0 hg (px_gV q_3_216 q_3_217 q_3_218 q_1_1 q_3_219) rfl rfl rfl (by decide +kernel) ⟨Nat.le_of_ble_eq_true rfl, Nat.le_of_ble_eq_true rfl⟩) (px_preV hK hPc_1 hDc_1 (ci := 10) (q0 := 0) rfl rfl) rfl rfl hl.1 rfl (lv_room (Nat.le_of_ble_eq_true rfl)) dL_law_644 ⟨Nat.le_of_ble_eq_true rfl, Nat.le_of_ble_eq_true rfl⟩)) (fun r_1 hw_1 => ?_)
  clear hPc_1 hDc_1
  obtain rfl : r_1 = (-1) := hw_1
  refine lv_aload_n hx hb dL_law_647 rfl (lv_at hl 2 rfl) ?_
  have hPc_2 := hP.sub (ws' := [px_o mo 11 fmo]) [3] rfl
  have hDc_2 := hD.sub (ws' := [px_o mo 11 fmo]) [3] (by decide +kernel) rfl
  have hFc_2 := va_free (wc := [px_o mo 11 fmo]) hD hS hA [3] rfl
  refine va_calli (va_runV (As := []) (rest := [.int (-1)]) ⟨hx, hb, hml, hown, hg⟩ (c_X11_undo l D y H.size mo fmo hmo_0 hmo_27) (cwV 0 hg (px_gV q_8_27 q_8_28 q_8_29 q_1_15 q_8_30) rfl rfl rfl (by decide +kernel) ⟨Nat.le_of_ble_eq_true rfl, Nat.le_of_ble_eq_true rfl⟩) (px_preV hK hPc_2 hDc_2 (ci := 11) (q0 := 0) rfl rfl) rfl rfl hl.1 rfl (lv_room (Nat.le_of_ble_eq_true rfl)) dL_law_648 ⟨Nat.le_of_ble_eq_true rfl, Nat.le_of_ble_eq_true rfl⟩) hS (fun q _ h => hFc_2 q h) hFc_2 (fun r_2 u_2 t_2 H_2 locs_2 ht_2 hvm_2 hw_2 hB_2 hz_2 hk_2 hS_2 => ?_)
  refine W.cs (cells' := 77) (slots' := 199433) rfl rfl ?_
  obtain ⟨hP_2, hD_2⟩ := va_join (wr := [px_o x 10 fx, px_o g 2 fg, px_o pa 5 fpa]) (w1 := []) hP hD [3] [0, 1, 2] rfl rfl (by decide +kernel) (by decide +kernel) hk_2 hFc_2 (fun k q h => by simp at h) ⟨fun i j p q h => by simp at h, fun k q h => by simp at h⟩
  clear hP hD hS hPc_2 hDc_2 hFc_2 hz_2 hk_2 hvm_2 ht_2 hB_2
  have hP : va_P D vwCl [px_o x 10 fx, px_o g 2 fg, px_o pa 5 fpa] H_2 := hP_2
  have hD : va_D A [px_o x 10 fx, px_o g 2 fg, px_o pa 5 fpa] := hD_2
  have hS := hS_2
  clear hP_2 hD_2 hS_2
  obtain rfl : r_2 = (-1) := hw_2
  refine lv_icmp_eq (tgt := 1472) hx hb dL_law_651 (by decide) (fun _ => ?_) (fun c_3 => absurd c_3 (by decide))
  refine W.widen (k := 600002) (n := 7302232) (Nat.le_of_ble_eq_true rfl) (Nat.le_of_ble_eq_true rfl) ?_
  exact law_end C0 hAe hS (lv_sub hl [0, 4] rfl)

set_option maxHeartbeats 4000000 in
set_option maxRecDepth 100000 in
theorem law_13 {p : Program} {l : Launch} {e : Env} {s : State} {m : MethodId} {below : List Frame} {meth : Method} {c : Code} {b : Nat} {xs : Nat → Int32} {D : va_G} {y : Nat → ClassId} {ad : Nat → Nat} {bb : Nat → Int32} (hst : l.stackTraces = false) (C0 : lw_At p s m meth c b 6 xs) (hK : va_K D vwCl (px_tys y) s) (hYY : px_Y ad bb (fun q : Nat => s.heap.size ≤ q) s s.heap) (x : Nat) (mo : Nat) (ou : Nat) (fx : List Value) (g : Nat) (fg : List Value) (fmo : List Value) (ms : Nat) (fms : Nat → Int32) (hx_3 : px_g fx 3 (.ref g)) (hg_1 : px_g fg 1 (.int 0)) (hmo_0 : px_g fmo 0 (.int 0)) (hmo_6 : px_g fmo 6 (.ref ms)) (hms_e1 : fms 1 = 0) {H : Heap} {locs : List Loc} {ls : Array Slot} (hP : va_P D vwCl [px_o x 10 fx, px_o g 2 fg, px_o mo 11 fmo, px_i ms (y 1) 765 fms] H) (hD : va_D (fun q : Nat => s.heap.size ≤ q) [px_o x 10 fx, px_o g 2 fg, px_o mo 11 fmo, px_i ms (y 1) 765 fms]) (hS : va_S (fun q : Nat => s.heap.size ≤ q) s.heap H locs) (hl : lv_has ls 8 [(4, .int 0), (3, .ref ou), (2, .ref mo), (1, .ref x), (0, .ref b)]) : W p l e room_1 s m #[Value.ref b] below meth c H locs 77 199433 (lw_Z below #[Value.ref b] s) (F0 m 656 ls []) := by
  obtain ⟨hx, hb, hr, hml, hown, hts, hX, hbl, hlocks, hgv⟩ := id C0
  have hg := gw_hts hts
  have hown : s.vm.findClass RL = some m.cls := hown
  have hXX := hYY.x
  generalize hAe : (fun q : Nat => s.heap.size ≤ q) = A at hYY hD hS
  have hA : ∀ q : Nat, s.heap.size ≤ q → A q := fun q h => by rw [← hAe]; exact h
  have hbA : ¬ A b := by rw [← hAe]; exact Nat.not_le.mpr hbl
  refine lv_aload_n hx hb dL_law_656 rfl (lv_at hl 3 rfl) ?_
  refine lv_aload_n hx hb dL_law_657 rfl (lv_at hl 4 rfl) ?_
  refine lv_iload hx hb dL_law_658 (lv_at hl 0 rfl) ?_
  refine lv_iconst (v := 1) hx hb dL_law_660 (by decide) ?_
  refine lv_iadd hx hb dL_law_661 ?_
  refine px_top (v := 1) (by decide) ?_
  refine va_sld hx hb hX hbl hbA hS (i := 1) (px_in (by decide)) dL_law_662 ?_
  refine px_top (v := xs 1) rfl ?_
  refine lv_aload_n hx hb dL_law_663 rfl (lv_at hl 4 rfl) ?_
  refine lv_iload hx hb dL_law_664 (lv_at hl 0 rfl) ?_
  refine lv_iconst (v := 2) hx hb dL_law_666 (by decide) ?_
  refine lv_iadd hx hb dL_law_667 ?_
  refine px_top (v := 2) (by decide) ?_
  refine va_sld hx hb hX hbl hbA hS (i := 2) (px_in (by decide)) dL_law_668 ?_
  refine px_top (v := xs 2) rfl ?_
  have hPc_1 := hP.sub (ws' := [px_o x 10 fx, px_o g 2 fg]) [0, 1] rfl
  have hDc_1 := hD.sub (ws' := [px_o x 10 fx, px_o g 2 fg]) [0, 1] (by decide +kernel) rfl
  refine vp_callSi (va_Run.run (va_runV (As := [.int (xs 1), .int (xs 2)]) (rest := []) ⟨hx, hb, hml, hown, hg⟩ (c_X10_known l D y H.size x fx g fg (xs 1) (xs 2) hx_3 hg_1) (cwV 2 hg (px_gV q_3_224 q_3_225 q_3_226 q_1_1 q_3_227) rfl rfl rfl (by decide +kernel) ⟨Nat.le_of_ble_eq_true rfl, Nat.le_of_ble_eq_true rfl⟩) (px_preV hK hPc_1 hDc_1 (ci := 10) (q0 := 0) rfl rfl) rfl rfl hl.1 rfl (lv_room (Nat.le_of_ble_eq_true rfl)) dL_law_669 ⟨Nat.le_of_ble_eq_true rfl, Nat.le_of_ble_eq_true rfl⟩)) (fun r_1 hw_1 => ?_)
  clear hPc_1 hDc_1
  obtain rfl : r_1 = (-1) := hw_1
  refine lv_aload_n hx hb dL_law_672 rfl (lv_at hl 2 rfl) ?_
  refine lv_aload_n hx hb dL_law_673 rfl (lv_at hl 4 rfl) ?_
  refine lv_iload hx hb dL_law_674 (lv_at hl 0 rfl) ?_
  refine lv_iconst (v := 1) hx hb dL_law_676 (by decide) ?_
  refine lv_iadd hx hb dL_law_677 ?_
  refine px_top (v := 1) (by decide) ?_
  refine va_sld hx hb hX hbl hbA hS (i := 1) (px_in (by decide)) dL_law_678 ?_
  refine px_top (v := xs 1) rfl ?_
  refine lv_aload_n hx hb dL_law_679 rfl (lv_at hl 4 rfl) ?_
  refine lv_iload hx hb dL_law_680 (lv_at hl 0 rfl) ?_
  refine lv_iconst (v := 2) hx hb dL_law_682 (by decide) ?_
  refine lv_iadd hx hb dL_law_683 ?_
  refine px_top (v := 2) (by decide) ?_
  refine va_sld hx hb hX hbl hbA hS (i := 2) (px_in (by decide)) dL_law_684 ?_
  refine px_top (v := xs 2) rfl ?_
  have hPc_2 := hP.sub (ws' := [px_o mo 11 fmo, px_i ms (y 1) 765 fms]) [2, 3] rfl
  have hDc_2 := hD.sub (ws' := [px_o mo 11 fmo, px_i ms (y 1) 765 fms]) [2, 3] (by decide +kernel) rfl
  have hFc_2 := va_free (wc := [px_o mo 11 fmo, px_i ms (y 1) 765 fms]) hD hS hA [2, 3] rfl
  refine va_calli (va_runV (As := [.int (xs 1), .int (xs 2)]) (rest := [.int (-1)]) ⟨hx, hb, hml, hown, hg⟩ (c_X11_known l D y H.size mo fmo ms fms (xs 1) (xs 2) hmo_0 hmo_6 hms_e1) (cwV 2 hg (px_gV q_8_31 q_8_32 q_8_33 q_1_15 q_8_34) rfl rfl rfl (by decide +kernel) ⟨Nat.le_of_ble_eq_true rfl, Nat.le_of_ble_eq_true rfl⟩) (px_preV hK hPc_2 hDc_2 (ci := 11) (q0 := 0) rfl rfl) rfl rfl hl.1 rfl (lv_room (Nat.le_of_ble_eq_true rfl)) dL_law_685 ⟨Nat.le_of_ble_eq_true rfl, Nat.le_of_ble_eq_true rfl⟩) hS (fun q _ h => hFc_2 q h) hFc_2 (fun r_2 u_2 t_2 H_2 locs_2 ht_2 hvm_2 hw_2 hB_2 hz_2 hk_2 hS_2 => ?_)
  refine W.cs (cells' := 77) (slots' := 199433) rfl rfl ?_
  obtain ⟨hP_2, hD_2⟩ := va_join (wr := [px_o x 10 fx, px_o g 2 fg]) (w1 := []) hP hD [2, 3] [0, 1] rfl rfl (by decide +kernel) (by decide +kernel) hk_2 hFc_2 (fun k q h => by simp at h) ⟨fun i j p q h => by simp at h, fun k q h => by simp at h⟩
  clear hP hD hS hPc_2 hDc_2 hFc_2 hz_2 hk_2 hvm_2 ht_2 hB_2
  have hP : va_P D vwCl [px_o x 10 fx, px_o g 2 fg] H_2 := hP_2
  have hD : va_D A [px_o x 10 fx, px_o g 2 fg] := hD_2
  have hS := hS_2
  clear hP_2 hD_2 hS_2
  obtain rfl : r_2 = (-1) := hw_2
  refine lv_icmp_eq (tgt := 1472) hx hb dL_law_688 (by decide) (fun _ => ?_) (fun c_3 => absurd c_3 (by decide))
  refine W.widen (k := 600002) (n := 7302232) (Nat.le_of_ble_eq_true rfl) (Nat.le_of_ble_eq_true rfl) ?_
  exact law_end C0 hAe hS (lv_sub hl [0, 4] rfl)

set_option maxHeartbeats 4000000 in
set_option maxRecDepth 100000 in
theorem law_14 {p : Program} {l : Launch} {e : Env} {s : State} {m : MethodId} {below : List Frame} {meth : Method} {c : Code} {b : Nat} {xs : Nat → Int32} {D : va_G} {y : Nat → ClassId} {ad : Nat → Nat} {bb : Nat → Int32} (hst : l.stackTraces = false) (C0 : lw_At p s m meth c b 6 xs) (hK : va_K D vwCl (px_tys y) s) (hYY : px_Y ad bb (fun q : Nat => s.heap.size ≤ q) s s.heap) (x : Nat) (mo : Nat) (ou : Nat) (fx : List Value) (g : Nat) (fg : List Value) (fmo : List Value) (ms : Nat) (fms : Nat → Int32) (hx_3 : px_g fx 3 (.ref g)) (hg_1 : px_g fg 1 (.int 0)) (hmo_0 : px_g fmo 0 (.int 0)) (hmo_6 : px_g fmo 6 (.ref ms)) (hms_e1 : fms 1 = 0) {H : Heap} {locs : List Loc} {ls : Array Slot} (hP : va_P D vwCl [px_o x 10 fx, px_o g 2 fg, px_o mo 11 fmo, px_i ms (y 1) 765 fms] H) (hD : va_D (fun q : Nat => s.heap.size ≤ q) [px_o x 10 fx, px_o g 2 fg, px_o mo 11 fmo, px_i ms (y 1) 765 fms]) (hS : va_S (fun q : Nat => s.heap.size ≤ q) s.heap H locs) (hl : lv_has ls 8 [(4, .int 0), (3, .ref ou), (2, .ref mo), (1, .ref x), (0, .ref b)]) : W p l e room_1 s m #[Value.ref b] below meth c H locs 77 199433 (lw_Z below #[Value.ref b] s) (F0 m 693 ls []) := by
  obtain ⟨hx, hb, hr, hml, hown, hts, hX, hbl, hlocks, hgv⟩ := id C0
  have hg := gw_hts hts
  have hown : s.vm.findClass RL = some m.cls := hown
  have hXX := hYY.x
  generalize hAe : (fun q : Nat => s.heap.size ≤ q) = A at hYY hD hS
  have hA : ∀ q : Nat, s.heap.size ≤ q → A q := fun q h => by rw [← hAe]; exact h
  have hbA : ¬ A b := by rw [← hAe]; exact Nat.not_le.mpr hbl
  refine lv_aload_n hx hb dL_law_693 rfl (lv_at hl 3 rfl) ?_
  refine lv_aload_n hx hb dL_law_694 rfl (lv_at hl 4 rfl) ?_
  refine lv_iload hx hb dL_law_695 (lv_at hl 0 rfl) ?_
  refine lv_iconst (v := 1) hx hb dL_law_697 (by decide) ?_
  refine lv_iadd hx hb dL_law_698 ?_
  refine px_top (v := 1) (by decide) ?_
  refine va_sld hx hb hX hbl hbA hS (i := 1) (px_in (by decide)) dL_law_699 ?_
  refine px_top (v := xs 1) rfl ?_
  refine lv_aload_n hx hb dL_law_700 rfl (lv_at hl 4 rfl) ?_
  refine lv_iload hx hb dL_law_701 (lv_at hl 0 rfl) ?_
  refine lv_iconst (v := 2) hx hb dL_law_703 (by decide) ?_
  refine lv_iadd hx hb dL_law_704 ?_
  refine px_top (v := 2) (by decide) ?_
  refine va_sld hx hb hX hbl hbA hS (i := 2) (px_in (by decide)) dL_law_705 ?_
  refine px_top (v := xs 2) rfl ?_
  have hPc_1 := hP.sub (ws' := [px_o x 10 fx, px_o g 2 fg]) [0, 1] rfl
  have hDc_1 := hD.sub (ws' := [px_o x 10 fx, px_o g 2 fg]) [0, 1] (by decide +kernel) rfl
  refine vp_callSi (va_Run.run (va_runV (As := [.int (xs 1), .int (xs 2)]) (rest := []) ⟨hx, hb, hml, hown, hg⟩ (c_X10_can l D y H.size x fx g fg (xs 1) (xs 2) hx_3 hg_1) (cwV 2 hg (px_gV q_3_229 q_3_230 q_3_231 q_1_1 q_3_232) rfl rfl rfl (by decide +kernel) ⟨Nat.le_of_ble_eq_true rfl, Nat.le_of_ble_eq_true rfl⟩) (px_preV hK hPc_1 hDc_1 (ci := 10) (q0 := 0) rfl rfl) rfl rfl hl.1 rfl (lv_room (Nat.le_of_ble_eq_true rfl)) dL_law_706 ⟨Nat.le_of_ble_eq_true rfl, Nat.le_of_ble_eq_true rfl⟩)) (fun r_1 hw_1 => ?_)
  clear hPc_1 hDc_1
  obtain rfl : r_1 = (-1) := hw_1
  refine lv_aload_n hx hb dL_law_709 rfl (lv_at hl 2 rfl) ?_
  refine lv_aload_n hx hb dL_law_710 rfl (lv_at hl 4 rfl) ?_
  refine lv_iload hx hb dL_law_711 (lv_at hl 0 rfl) ?_
  refine lv_iconst (v := 1) hx hb dL_law_713 (by decide) ?_
  refine lv_iadd hx hb dL_law_714 ?_
  refine px_top (v := 1) (by decide) ?_
  refine va_sld hx hb hX hbl hbA hS (i := 1) (px_in (by decide)) dL_law_715 ?_
  refine px_top (v := xs 1) rfl ?_
  refine lv_aload_n hx hb dL_law_716 rfl (lv_at hl 4 rfl) ?_
  refine lv_iload hx hb dL_law_717 (lv_at hl 0 rfl) ?_
  refine lv_iconst (v := 2) hx hb dL_law_719 (by decide) ?_
  refine lv_iadd hx hb dL_law_720 ?_
  refine px_top (v := 2) (by decide) ?_
  refine va_sld hx hb hX hbl hbA hS (i := 2) (px_in (by decide)) dL_law_721 ?_
  refine px_top (v := xs 2) rfl ?_
  have hPc_2 := hP.sub (ws' := [px_o mo 11 fmo, px_i ms (y 1) 765 fms]) [2, 3] rfl
  have hDc_2 := hD.sub (ws' := [px_o mo 11 fmo, px_i ms (y 1) 765 fms]) [2, 3] (by decide +kernel) rfl
  have hFc_2 := va_free (wc := [px_o mo 11 fmo, px_i ms (y 1) 765 fms]) hD hS hA [2, 3] rfl
  refine va_calli (va_runV (As := [.int (xs 1), .int (xs 2)]) (rest := [.int (-1)]) ⟨hx, hb, hml, hown, hg⟩ (c_X11_can l D y H.size mo fmo ms fms (xs 1) (xs 2) hmo_0 hmo_6 hms_e1) (cwV 2 hg (px_gV q_8_35 q_8_36 q_8_37 q_1_15 q_8_38) rfl rfl rfl (by decide +kernel) ⟨Nat.le_of_ble_eq_true rfl, Nat.le_of_ble_eq_true rfl⟩) (px_preV hK hPc_2 hDc_2 (ci := 11) (q0 := 0) rfl rfl) rfl rfl hl.1 rfl (lv_room (Nat.le_of_ble_eq_true rfl)) dL_law_722 ⟨Nat.le_of_ble_eq_true rfl, Nat.le_of_ble_eq_true rfl⟩) hS (fun q _ h => hFc_2 q h) hFc_2 (fun r_2 u_2 t_2 H_2 locs_2 ht_2 hvm_2 hw_2 hB_2 hz_2 hk_2 hS_2 => ?_)
  refine W.cs (cells' := 77) (slots' := 199433) rfl rfl ?_
  obtain ⟨hP_2, hD_2⟩ := va_join (wr := [px_o x 10 fx, px_o g 2 fg]) (w1 := []) hP hD [2, 3] [0, 1] rfl rfl (by decide +kernel) (by decide +kernel) hk_2 hFc_2 (fun k q h => by simp at h) ⟨fun i j p q h => by simp at h, fun k q h => by simp at h⟩
  clear hP hD hS hPc_2 hDc_2 hFc_2 hz_2 hk_2 hvm_2 ht_2 hB_2
  have hP : va_P D vwCl [px_o x 10 fx, px_o g 2 fg] H_2 := hP_2
  have hD : va_D A [px_o x 10 fx, px_o g 2 fg] := hD_2
  have hS := hS_2
  clear hP_2 hD_2 hS_2
  obtain rfl : r_2 = (-1) := hw_2
  refine lv_icmp_eq (tgt := 1472) hx hb dL_law_725 (by decide) (fun _ => ?_) (fun c_3 => absurd c_3 (by decide))
  refine W.widen (k := 600002) (n := 7302232) (Nat.le_of_ble_eq_true rfl) (Nat.le_of_ble_eq_true rfl) ?_
  exact law_end C0 hAe hS (lv_sub hl [0, 4] rfl)

set_option maxHeartbeats 4000000 in
set_option maxRecDepth 100000 in
theorem law_15 {p : Program} {l : Launch} {e : Env} {s : State} {m : MethodId} {below : List Frame} {meth : Method} {c : Code} {b : Nat} {xs : Nat → Int32} {D : va_G} {y : Nat → ClassId} {ad : Nat → Nat} {bb : Nat → Int32} (hst : l.stackTraces = false) (C0 : lw_At p s m meth c b 6 xs) (hK : va_K D vwCl (px_tys y) s) (hYY : px_Y ad bb (fun q : Nat => s.heap.size ≤ q) s s.heap) (x : Nat) (mo : Nat) (ou : Nat) (fx : List Value) (g : Nat) (fg : List Value) (fmo : List Value) (ms : Nat) (fms : Nat → Int32) (hx_3 : px_g fx 3 (.ref g)) (hg_1 : px_g fg 1 (.int 0)) (hmo_0 : px_g fmo 0 (.int 0)) (hmo_6 : px_g fmo 6 (.ref ms)) (hms_e1 : fms 1 = 0) {H : Heap} {locs : List Loc} {ls : Array Slot} (hP : va_P D vwCl [px_o x 10 fx, px_o g 2 fg, px_o mo 11 fmo, px_i ms (y 1) 765 fms] H) (hD : va_D (fun q : Nat => s.heap.size ≤ q) [px_o x 10 fx, px_o g 2 fg, px_o mo 11 fmo, px_i ms (y 1) 765 fms]) (hS : va_S (fun q : Nat => s.heap.size ≤ q) s.heap H locs) (hl : lv_has ls 8 [(4, .int 0), (3, .ref ou), (2, .ref mo), (1, .ref x), (0, .ref b)]) : W p l e room_1 s m #[Value.ref b] below meth c H locs 77 199433 (lw_Z below #[Value.ref b] s) (F0 m 730 ls []) := by
  obtain ⟨hx, hb, hr, hml, hown, hts, hX, hbl, hlocks, hgv⟩ := id C0
  have hg := gw_hts hts
  have hown : s.vm.findClass RL = some m.cls := hown
  have hXX := hYY.x
  generalize hAe : (fun q : Nat => s.heap.size ≤ q) = A at hYY hD hS
  have hA : ∀ q : Nat, s.heap.size ≤ q → A q := fun q h => by rw [← hAe]; exact h
  have hbA : ¬ A b := by rw [← hAe]; exact Nat.not_le.mpr hbl
  refine lv_aload_n hx hb dL_law_730 rfl (lv_at hl 3 rfl) ?_
  refine lv_aload_n hx hb dL_law_731 rfl (lv_at hl 4 rfl) ?_
  refine lv_iload hx hb dL_law_732 (lv_at hl 0 rfl) ?_
  refine lv_iconst (v := 1) hx hb dL_law_734 (by decide) ?_
  refine lv_iadd hx hb dL_law_735 ?_
  refine px_top (v := 1) (by decide) ?_
  refine va_sld hx hb hX hbl hbA hS (i := 1) (px_in (by decide)) dL_law_736 ?_
  refine px_top (v := xs 1) rfl ?_
  refine lv_aload_n hx hb dL_law_737 rfl (lv_at hl 4 rfl) ?_
  refine lv_iload hx hb dL_law_738 (lv_at hl 0 rfl) ?_
  refine lv_iconst (v := 2) hx hb dL_law_740 (by decide) ?_
  refine lv_iadd hx hb dL_law_741 ?_
  refine px_top (v := 2) (by decide) ?_
  refine va_sld hx hb hX hbl hbA hS (i := 2) (px_in (by decide)) dL_law_742 ?_
  refine px_top (v := xs 2) rfl ?_
  refine lv_aload_n hx hb dL_law_743 rfl (lv_at hl 4 rfl) ?_
  refine lv_iload hx hb dL_law_744 (lv_at hl 0 rfl) ?_
  refine lv_iconst (v := 3) hx hb dL_law_746 (by decide) ?_
  refine lv_iadd hx hb dL_law_747 ?_
  refine px_top (v := 3) (by decide) ?_
  refine va_sld hx hb hX hbl hbA hS (i := 3) (px_in (by decide)) dL_law_748 ?_
  refine px_top (v := xs 3) rfl ?_
  refine lv_aload_n hx hb dL_law_749 rfl (lv_at hl 4 rfl) ?_
  refine lv_iload hx hb dL_law_750 (lv_at hl 0 rfl) ?_
  refine lv_iconst (v := 4) hx hb dL_law_752 (by decide) ?_
  refine lv_iadd hx hb dL_law_753 ?_
  refine px_top (v := 4) (by decide) ?_
  refine va_sld hx hb hX hbl hbA hS (i := 4) (px_in (by decide)) dL_law_754 ?_
  refine px_top (v := xs 4) rfl ?_
  refine lv_aload_n hx hb dL_law_755 rfl (lv_at hl 1 rfl) ?_
  have hPc_1 := hP.sub (ws' := [px_o x 10 fx, px_o g 2 fg]) [0, 1] rfl
  have hDc_1 := hD.sub (ws' := [px_o x 10 fx, px_o g 2 fg]) [0, 1] (by decide +kernel) rfl
  have hFc_1 := va_free (wc := [px_o x 10 fx, px_o g 2 fg]) hD hS hA [0, 1] rfl
  refine va_calli (vx_runSW (As := [.ref x, .int (xs 1), .int (xs 2), .int (xs 3), .int (xs 4), .ref ou]) (rest := []) ⟨hx, hb, hml, hown, hg⟩ (c_L_odds l D y H.size ad bb hst x ou fx g fg (xs 1) (xs 2) (xs 3) (xs 4) hx_3 hg_1) (vx_cwSW 6 hg (px_gSW q_6_58 q_6_59 q_1_0 q_6_60) rfl rfl rfl (by decide +kernel) ⟨Nat.le_of_ble_eq_true rfl, Nat.le_of_ble_eq_true rfl⟩) (px_preSY hK hPc_1 hDc_1 hYY hS hFc_1) rfl rfl hl.1 rfl (lv_room (Nat.le_of_ble_eq_true rfl)) dL_law_756 ⟨Nat.le_of_ble_eq_true rfl, Nat.le_of_ble_eq_true rfl⟩) hS (fun q _ h => hFc_1 q h) hFc_1 (fun r_1 u_1 t_1 H_1 locs_1 ht_1 hvm_1 hw_1 hB_1 hz_1 hk_1 hS_1 => ?_)
  refine W.cs (cells' := 78) (slots' := 199439) rfl rfl ?_
  obtain ⟨hP_1, hD_1⟩ := va_join (wr := [px_o mo 11 fmo, px_i ms (y 1) 765 fms]) (w1 := []) hP hD [0, 1] [2, 3] rfl rfl (by decide +kernel) (by decide +kernel) hk_1 hFc_1 (fun k q h => by simp at h) ⟨fun i j p q h => by simp at h, fun k q h => by simp at h⟩
  clear hP hD hS hPc_1 hDc_1 hFc_1 hz_1 hk_1 hvm_1 ht_1 hB_1
  have hP : va_P D vwCl [px_o mo 11 fmo, px_i ms (y 1) 765 fms] H_1 := hP_1
  have hD : va_D A [px_o mo 11 fmo, px_i ms (y 1) 765 fms] := hD_1
  have hS := hS_1
  clear hP_1 hD_1 hS_1
  obtain rfl : r_1 = 1 := hw_1
  refine lv_istore (lv' := [(5, .int 1), (4, .int 0), (3, .ref ou), (2, .ref mo), (1, .ref x), (0, .ref b)]) hx hb dL_law_759 hl (by decide) rfl (fun ls hl => ?_)
  refine lv_aload_n hx hb dL_law_761 rfl (lv_at hl 3 rfl) ?_
  refine lv_aload_n hx hb dL_law_762 rfl (lv_at hl 5 rfl) ?_
  refine lv_iload hx hb dL_law_763 (lv_at hl 1 rfl) ?_
  refine lv_iconst (v := 1) hx hb dL_law_765 (by decide) ?_
  refine lv_iadd hx hb dL_law_766 ?_
  refine px_top (v := 1) (by decide) ?_
  refine va_sld hx hb hX hbl hbA hS (i := 1) (px_in (by decide)) dL_law_767 ?_
  refine px_top (v := xs 1) rfl ?_
  refine lv_aload_n hx hb dL_law_768 rfl (lv_at hl 5 rfl) ?_
  refine lv_iload hx hb dL_law_769 (lv_at hl 1 rfl) ?_
  refine lv_iconst (v := 2) hx hb dL_law_771 (by decide) ?_
  refine lv_iadd hx hb dL_law_772 ?_
  refine px_top (v := 2) (by decide) ?_
  refine va_sld hx hb hX hbl hbA hS (i := 2) (px_in (by decide)) dL_law_773 ?_
  refine px_top (v := xs 2) rfl ?_
  refine lv_aload_n hx hb dL_law_774 rfl (lv_at hl 5 rfl) ?_
  refine lv_iload hx hb dL_law_775 (lv_at hl 1 rfl) ?_
  refine lv_iconst (v := 3) hx hb dL_law_777 (by decide) ?_
  refine lv_iadd hx hb dL_law_778 ?_
  refine px_top (v := 3) (by decide) ?_
  refine va_sld hx hb hX hbl hbA hS (i := 3) (px_in (by decide)) dL_law_779 ?_
  refine px_top (v := xs 3) rfl ?_
  refine lv_aload_n hx hb dL_law_780 rfl (lv_at hl 5 rfl) ?_
  refine lv_iload hx hb dL_law_781 (lv_at hl 1 rfl) ?_
  refine lv_iconst (v := 4) hx hb dL_law_783 (by decide) ?_
  refine lv_iadd hx hb dL_law_784 ?_
  refine px_top (v := 4) (by decide) ?_
  refine va_sld hx hb hX hbl hbA hS (i := 4) (px_in (by decide)) dL_law_785 ?_
  refine px_top (v := xs 4) rfl ?_
  have hPc_2 := hP.sub (ws' := [px_o mo 11 fmo, px_i ms (y 1) 765 fms]) [0, 1] rfl
  have hDc_2 := hD.sub (ws' := [px_o mo 11 fmo, px_i ms (y 1) 765 fms]) [0, 1] (by decide +kernel) rfl
  have hFc_2 := va_free (wc := [px_o mo 11 fmo, px_i ms (y 1) 765 fms]) hD hS hA [0, 1] rfl
  refine va_calll (va_runV (As := [.int (xs 1), .int (xs 2), .int (xs 3), .int (xs 4)]) (rest := []) ⟨hx, hb, hml, hown, hg⟩ (c_X11_odds l D y H_1.size mo fmo ms fms (xs 1) (xs 2) (xs 3) (xs 4) hmo_0 hmo_6 hms_e1) (cwV 4 hg (px_gV q_8_39 q_8_40 q_8_41 q_1_15 q_8_42) rfl rfl rfl (by decide +kernel) ⟨Nat.le_of_ble_eq_true rfl, Nat.le_of_ble_eq_true rfl⟩) (px_preV hK hPc_2 hDc_2 (ci := 11) (q0 := 0) rfl rfl) rfl rfl hl.1 rfl (lv_room (Nat.le_of_ble_eq_true rfl)) dL_law_786 ⟨Nat.le_of_ble_eq_true rfl, Nat.le_of_ble_eq_true rfl⟩) hS (fun q _ h => hFc_2 q h) hFc_2 (fun r_2 u_2 t_2 H_2 locs_2 ht_2 hvm_2 hw_2 hB_2 hz_2 hk_2 hS_2 => ?_)
  refine W.cs (cells' := 78) (slots' := 199439) rfl rfl ?_
  obtain ⟨hP1_2, hD1_2⟩ := hB_2
  rw [ht_2] at hP1_2
  obtain ⟨hP_2, hD_2⟩ := va_join (wr := []) (w1 := [px_o mo 11 (fmo.set 0 (.int 1)), px_i ms (y 1) 765 fms]) hP hD [0, 1] [] rfl rfl (by decide +kernel) (by decide +kernel) hk_2 hFc_2 hP1_2 hD1_2
  clear hP hD hS hPc_2 hDc_2 hFc_2 hz_2 hk_2 hvm_2 ht_2 hP1_2 hD1_2
  have hP : va_P D vwCl [px_o mo 11 (fmo.set 0 (.int 1)), px_i ms (y 1) 765 fms] H_2 := hP_2
  have hD : va_D A [px_o mo 11 (fmo.set 0 (.int 1)), px_i ms (y 1) 765 fms] := hD_2
  have hS := hS_2
  clear hP_2 hD_2 hS_2
  obtain rfl : r_2 = 0 := hw_2
  refine lv_lstore (lv' := [(6, .long 0), (5, .int 1), (4, .int 0), (3, .ref ou), (2, .ref mo), (1, .ref x), (0, .ref b)]) hx hb dL_law_789 hl (by decide) rfl (fun ls hl => ?_)
  refine lv_aload_n hx hb dL_law_791 rfl (lv_at hl 4 rfl) ?_
  have hPc_3 := hP.sub (ws' := [px_o mo 11 (fmo.set 0 (.int 1))]) [0] rfl
  have hDc_3 := hD.sub (ws' := [px_o mo 11 (fmo.set 0 (.int 1))]) [0] (by decide +kernel) rfl
  refine vp_callSi (va_Run.run (va_runV (As := []) (rest := []) ⟨hx, hb, hml, hown, hg⟩ (c_X11_thrown_1 l D y H_2.size mo (fmo.set 0 (.int 1)) (px_ss hmo_0)) (cwV 0 hg (px_gV q_6_84 q_6_85 q_6_86 q_1_15 q_6_87) rfl rfl rfl (by decide +kernel) ⟨Nat.le_of_ble_eq_true rfl, Nat.le_of_ble_eq_true rfl⟩) (px_preV hK hPc_3 hDc_3 (ci := 11) (q0 := 0) rfl rfl) rfl rfl hl.1 rfl (lv_room (Nat.le_of_ble_eq_true rfl)) dL_law_792 ⟨Nat.le_of_ble_eq_true rfl, Nat.le_of_ble_eq_true rfl⟩)) (fun r_3 hw_3 => ?_)
  clear hPc_3 hDc_3
  obtain rfl : r_3 = 1 := hw_3
  refine lv_iload hx hb dL_law_795 (lv_at hl 1 rfl) ?_
  refine lv_icmp_eq (tgt := 802) hx hb dL_law_797 (by decide) (fun _ => ?_) (fun c_4 => absurd c_4 (by decide))
  refine lv_iload hx hb dL_law_802 (lv_at hl 1 rfl) ?_
  refine lv_if_ne (tgt := 818) hx hb dL_law_804 (by decide) (fun _ => ?_) (fun c_5 => absurd c_5 (by decide))
  refine lv_goto (tgt := 1472) hx hb dL_law_818 (by decide) ?_
  refine W.widen (k := 600002) (n := 7302232) (Nat.le_of_ble_eq_true rfl) (Nat.le_of_ble_eq_true rfl) ?_
  exact law_end C0 hAe hS (lv_sub hl [2, 6] rfl)
