set_option maxHeartbeats 4000000 in
set_option maxRecDepth 100000 in
theorem law_32 {p : Program} {l : Launch} {e : Env} {s : State} {m : MethodId} {below : List Frame} {meth : Method} {c : Code} {b : Nat} {xs : Nat → Int32} {D : va_G} {y : Nat → ClassId} {ad : Nat → Nat} {bb : Nat → Int32} (hst : l.stackTraces = false) (C0 : lw_At p s m meth c b 6 xs) (hK : va_K D vwCl (px_tys y) s) (hYY : px_Y ad bb (fun q : Nat => s.heap.size ≤ q) s s.heap) (x : Nat) (mo : Nat) (ou : Nat) (fx : List Value) (tp : Nat) (g : Nat) (rd : Nat) (se : Nat) (ftp : Nat → Int32) (fg : List Value) (frd : List Value) (rt : Nat) (fse : List Value) (sm : Nat) (fsm : List Value) (fmo : List Value) (hx_0 : px_g fx 0 (.ref tp)) (hx_1 : px_g fx 1 (.int 0)) (hx_2 : px_g fx 2 (.int 0)) (hx_3 : px_g fx 3 (.ref g)) (hx_6 : px_g fx 6 (.ref rd)) (hx_9 : px_g fx 9 (.ref se)) (hrd_1 : px_g frd 1 (.ref rt)) (hrd_2 : px_g frd 2 (.int 0)) (hrd_3 : px_g frd 3 (.int 0)) (hrd_4 : px_g frd 4 (.int 0)) (hrd_5 : px_g frd 5 (.int 302)) (hrd_6 : px_g frd 6 (.int 0)) (hrd_9 : px_g frd 9 (.int 0)) (hrd_10 : px_g frd 10 (.int 0)) (hse_0 : px_g fse 0 (.ref rd)) (hse_1 : px_g fse 1 (.ref sm)) (hse_2 : px_g fse 2 (.int 0)) (hsm_1 : px_g fsm 1 (.int 0)) (hmo_0 : px_g fmo 0 (.int 0)) (hmo_2 : px_g fmo 2 (.int 0)) (hmo_3 : px_g fmo 3 (.int 0)) (hmo_4 : px_g fmo 4 (.int 0)) (hmo_5 : px_g fmo 5 (.int 0)) (hmo_11 : px_g fmo 11 (.int 0)) (hmo_12 : px_g fmo 12 (.int 0)) (hmo_13 : px_g fmo 13 (.int 0)) (hmo_15 : px_g fmo 15 (.int 0)) (hmo_16 : px_g fmo 16 (.int 0)) (hmo_56 : px_g fmo 56 (.int 0)) (hmo_57 : px_g fmo 57 (.int 0)) (hmo_58 : px_g fmo 58 (.int 0)) (hmo_59 : px_g fmo 59 (.int 0)) (hmo_60 : px_g fmo 60 (.int 0)) {H : Heap} {locs : List Loc} {ls : Array Slot} (hP : va_P D vwCl [px_o x 10 fx, px_i tp (y 0) 940 ftp, px_o g 2 fg, px_o rd 6 frd, px_o se 8 fse, px_o sm 7 fsm, px_o mo 11 fmo] H) (hD : va_D (fun q : Nat => s.heap.size ≤ q) [px_o x 10 fx, px_i tp (y 0) 940 ftp, px_o g 2 fg, px_o rd 6 frd, px_o se 8 fse, px_o sm 7 fsm, px_o mo 11 fmo]) (hS : va_S (fun q : Nat => s.heap.size ≤ q) s.heap H locs) (hl : lv_has ls 8 [(4, .int 0), (3, .ref ou), (2, .ref mo), (1, .ref x), (0, .ref b)]) : W p l e room_1 s m #[Value.ref b] below meth c H locs 77 199433 (lw_Z below #[Value.ref b] s) (F0 m 1359 ls []) := by
  obtain ⟨hx, hb, hr, hml, hown, hts, hX, hbl, hlocks, hgv⟩ := id C0
  have hg := gw_hts hts
  have hown : s.vm.findClass RL = some m.cls := hown
  have hXX := hYY.x
  generalize hAe : (fun q : Nat => s.heap.size ≤ q) = A at hYY hD hS
  have hA : ∀ q : Nat, s.heap.size ≤ q → A q := fun q h => by rw [← hAe]; exact h
  have hbA : ¬ A b := by rw [← hAe]; exact Nat.not_le.mpr hbl
  refine lv_aload_n hx hb dL_law_1359 rfl (lv_at hl 3 rfl) ?_
  have hPc_1 := hP.sub (ws' := [px_o x 10 fx, px_i tp (y 0) 940 ftp, px_o g 2 fg, px_o rd 6 frd, px_o se 8 fse, px_o sm 7 fsm]) [0, 1, 2, 3, 4, 5] rfl
  have hDc_1 := hD.sub (ws' := [px_o x 10 fx, px_i tp (y 0) 940 ftp, px_o g 2 fg, px_o rd 6 frd, px_o se 8 fse, px_o sm 7 fsm]) [0, 1, 2, 3, 4, 5] (by decide +kernel) rfl
  have hFc_1 := va_free (wc := [px_o x 10 fx, px_i tp (y 0) 940 ftp, px_o g 2 fg, px_o rd 6 frd, px_o se 8 fse, px_o sm 7 fsm]) hD hS hA [0, 1, 2, 3, 4, 5] rfl
  refine va_calli (va_runV (As := []) (rest := []) ⟨hx, hb, hml, hown, hg⟩ (c_X10_sentence l D y H.size x fx tp g rd se ftp fg frd rt fse sm fsm hx_0 hx_1 hx_2 hx_3 hx_6 hx_9 hrd_1 hrd_2 hrd_3 hrd_4 hrd_5 hrd_6 hrd_9 hrd_10 hse_0 hse_1 hse_2 hsm_1) (cwV 0 hg (px_gV q_5_138 q_5_139 q_5_140 q_1_1 q_5_141) rfl rfl rfl (by decide +kernel) ⟨Nat.le_of_ble_eq_true rfl, Nat.le_of_ble_eq_true rfl⟩) (px_preV hK hPc_1 hDc_1 (ci := 10) (q0 := 0) rfl rfl) rfl rfl hl.1 rfl (lv_room (Nat.le_of_ble_eq_true rfl)) dL_law_1360 ⟨Nat.le_of_ble_eq_true rfl, Nat.le_of_ble_eq_true rfl⟩) hS (fun q _ h => hFc_1 q h) hFc_1 (fun r_1 u_1 t_1 H_1 locs_1 ht_1 hvm_1 hw_1 hB_1 hz_1 hk_1 hS_1 => ?_)
  refine W.cs (cells' := 77) (slots' := 199433) rfl rfl ?_
  obtain ⟨hP_1, hD_1⟩ := va_join (wr := [px_o mo 11 fmo]) (w1 := []) hP hD [0, 1, 2, 3, 4, 5] [6] rfl rfl (by decide +kernel) (by decide +kernel) hk_1 hFc_1 (fun k q h => by simp at h) ⟨fun i j p q h => by simp at h, fun k q h => by simp at h⟩
  clear hP hD hS hPc_1 hDc_1 hFc_1 hz_1 hk_1 hvm_1 ht_1 hB_1
  have hP : va_P D vwCl [px_o mo 11 fmo] H_1 := hP_1
  have hD : va_D A [px_o mo 11 fmo] := hD_1
  have hS := hS_1
  clear hP_1 hD_1 hS_1
  obtain rfl : r_1 = (-1) := hw_1
  refine lv_aload_n hx hb dL_law_1363 rfl (lv_at hl 2 rfl) ?_
  have hPc_2 := hP.sub (ws' := [px_o mo 11 fmo]) [0] rfl
  have hDc_2 := hD.sub (ws' := [px_o mo 11 fmo]) [0] (by decide +kernel) rfl
  have hFc_2 := va_free (wc := [px_o mo 11 fmo]) hD hS hA [0] rfl
  refine va_calli (va_runV (As := []) (rest := [.int (-1)]) ⟨hx, hb, hml, hown, hg⟩ (c_X11_sentence l D y H_1.size mo fmo hmo_0 hmo_2 hmo_3 hmo_4 hmo_5 hmo_11 hmo_12 hmo_13 hmo_15 hmo_16 hmo_56 hmo_57 hmo_58 hmo_59 hmo_60) (cwV 0 hg (px_gV q_8_204 q_8_205 q_8_206 q_1_15 q_8_207) rfl rfl rfl (by decide +kernel) ⟨Nat.le_of_ble_eq_true rfl, Nat.le_of_ble_eq_true rfl⟩) (px_preV hK hPc_2 hDc_2 (ci := 11) (q0 := 0) rfl rfl) rfl rfl hl.1 rfl (lv_room (Nat.le_of_ble_eq_true rfl)) dL_law_1364 ⟨Nat.le_of_ble_eq_true rfl, Nat.le_of_ble_eq_true rfl⟩) hS (fun q _ h => hFc_2 q h) hFc_2 (fun r_2 u_2 t_2 H_2 locs_2 ht_2 hvm_2 hw_2 hB_2 hz_2 hk_2 hS_2 => ?_)
  refine W.cs (cells' := 77) (slots' := 199433) rfl rfl ?_
  obtain ⟨hP_2, hD_2⟩ := va_join (wr := []) (w1 := []) hP hD [0] [] rfl rfl (by decide +kernel) (by decide +kernel) hk_2 hFc_2 (fun k q h => by simp at h) ⟨fun i j p q h => by simp at h, fun k q h => by simp at h⟩
  clear hP hD hS hPc_2 hDc_2 hFc_2 hz_2 hk_2 hvm_2 ht_2 hB_2
  have hP : va_P D vwCl [] H_2 := hP_2
  have hD : va_D A [] := hD_2
  have hS := hS_2
  clear hP_2 hD_2 hS_2
  obtain rfl : r_2 = (-1) := hw_2
  refine lv_icmp_eq (tgt := 1472) hx hb dL_law_1367 (by decide) (fun _ => ?_) (fun c_3 => absurd c_3 (by decide))
  refine W.widen (k := 600002) (n := 7302232) (Nat.le_of_ble_eq_true rfl) (Nat.le_of_ble_eq_true rfl) ?_
  exact law_end C0 hAe hS (lv_sub hl [0, 4] rfl)

set_option maxHeartbeats 4000000 in
set_option maxRecDepth 100000 in
theorem law_33 {p : Program} {l : Launch} {e : Env} {s : State} {m : MethodId} {below : List Frame} {meth : Method} {c : Code} {b : Nat} {xs : Nat → Int32} {D : va_G} {y : Nat → ClassId} {ad : Nat → Nat} {bb : Nat → Int32} (hst : l.stackTraces = false) (C0 : lw_At p s m meth c b 6 xs) (hK : va_K D vwCl (px_tys y) s) (hYY : px_Y ad bb (fun q : Nat => s.heap.size ≤ q) s s.heap) (x : Nat) (mo : Nat) (ou : Nat) (fx : List Value) (td : Nat) (ftd : List Value) (fmo : List Value) (ms : Nat) (fms : Nat → Int32) (hx_5 : px_g fx 5 (.ref td)) (htd_1 : px_g ftd 1 (.int 0)) (hmo_0 : px_g fmo 0 (.int 0)) (hmo_6 : px_g fmo 6 (.ref ms)) (hms_e584 : fms 584 = 0) {H : Heap} {locs : List Loc} {ls : Array Slot} (hP : va_P D vwCl [px_o x 10 fx, px_o td 7 ftd, px_o mo 11 fmo, px_i ms (y 1) 765 fms] H) (hD : va_D (fun q : Nat => s.heap.size ≤ q) [px_o x 10 fx, px_o td 7 ftd, px_o mo 11 fmo, px_i ms (y 1) 765 fms]) (hS : va_S (fun q : Nat => s.heap.size ≤ q) s.heap H locs) (hl : lv_has ls 8 [(4, .int 0), (3, .ref ou), (2, .ref mo), (1, .ref x), (0, .ref b)]) : W p l e room_1 s m #[Value.ref b] below meth c H locs 77 199433 (lw_Z below #[Value.ref b] s) (F0 m 1372 ls []) := by
  obtain ⟨hx, hb, hr, hml, hown, hts, hX, hbl, hlocks, hgv⟩ := id C0
  have hg := gw_hts hts
  have hown : s.vm.findClass RL = some m.cls := hown
  have hXX := hYY.x
  generalize hAe : (fun q : Nat => s.heap.size ≤ q) = A at hYY hD hS
  have hA : ∀ q : Nat, s.heap.size ≤ q → A q := fun q h => by rw [← hAe]; exact h
  have hbA : ¬ A b := by rw [← hAe]; exact Nat.not_le.mpr hbl
  refine lv_aload_n hx hb dL_law_1372 rfl (lv_at hl 3 rfl) ?_
  refine lv_aload_n hx hb dL_law_1373 rfl (lv_at hl 4 rfl) ?_
  refine lv_iload hx hb dL_law_1374 (lv_at hl 0 rfl) ?_
  refine lv_iconst (v := 1) hx hb dL_law_1376 (by decide) ?_
  refine lv_iadd hx hb dL_law_1377 ?_
  refine px_top (v := 1) (by decide) ?_
  refine va_sld hx hb hX hbl hbA hS (i := 1) (px_in (by decide)) dL_law_1378 ?_
  refine px_top (v := xs 1) rfl ?_
  have hPc_1 := hP.sub (ws' := [px_o x 10 fx, px_o td 7 ftd]) [0, 1] rfl
  have hDc_1 := hD.sub (ws' := [px_o x 10 fx, px_o td 7 ftd]) [0, 1] (by decide +kernel) rfl
  refine vp_callSi (va_Run.run (va_runV (As := [.int (xs 1)]) (rest := []) ⟨hx, hb, hml, hown, hg⟩ (c_X10_said l D y H.size x fx td ftd (xs 1) hx_5 htd_1) (cwV 1 hg (px_gV q_5_187 q_5_188 q_5_189 q_1_1 q_5_190) rfl rfl rfl (by decide +kernel) ⟨Nat.le_of_ble_eq_true rfl, Nat.le_of_ble_eq_true rfl⟩) (px_preV hK hPc_1 hDc_1 (ci := 10) (q0 := 0) rfl rfl) rfl rfl hl.1 rfl (lv_room (Nat.le_of_ble_eq_true rfl)) dL_law_1379 ⟨Nat.le_of_ble_eq_true rfl, Nat.le_of_ble_eq_true rfl⟩)) (fun r_1 hw_1 => ?_)
  clear hPc_1 hDc_1
  obtain rfl : r_1 = (-1) := hw_1
  refine lv_aload_n hx hb dL_law_1382 rfl (lv_at hl 2 rfl) ?_
  refine lv_aload_n hx hb dL_law_1383 rfl (lv_at hl 4 rfl) ?_
  refine lv_iload hx hb dL_law_1384 (lv_at hl 0 rfl) ?_
  refine lv_iconst (v := 1) hx hb dL_law_1386 (by decide) ?_
  refine lv_iadd hx hb dL_law_1387 ?_
  refine px_top (v := 1) (by decide) ?_
  refine va_sld hx hb hX hbl hbA hS (i := 1) (px_in (by decide)) dL_law_1388 ?_
  refine px_top (v := xs 1) rfl ?_
  have hPc_2 := hP.sub (ws' := [px_o mo 11 fmo, px_i ms (y 1) 765 fms]) [2, 3] rfl
  have hDc_2 := hD.sub (ws' := [px_o mo 11 fmo, px_i ms (y 1) 765 fms]) [2, 3] (by decide +kernel) rfl
  have hFc_2 := va_free (wc := [px_o mo 11 fmo, px_i ms (y 1) 765 fms]) hD hS hA [2, 3] rfl
  refine va_calli (va_runV (As := [.int (xs 1)]) (rest := [.int (-1)]) ⟨hx, hb, hml, hown, hg⟩ (c_X11_said l D y H.size mo fmo ms fms (xs 1) hmo_0 hmo_6 hms_e584) (cwV 1 hg (px_gV q_8_232 q_8_233 q_8_234 q_1_15 q_8_235) rfl rfl rfl (by decide +kernel) ⟨Nat.le_of_ble_eq_true rfl, Nat.le_of_ble_eq_true rfl⟩) (px_preV hK hPc_2 hDc_2 (ci := 11) (q0 := 0) rfl rfl) rfl rfl hl.1 rfl (lv_room (Nat.le_of_ble_eq_true rfl)) dL_law_1389 ⟨Nat.le_of_ble_eq_true rfl, Nat.le_of_ble_eq_true rfl⟩) hS (fun q _ h => hFc_2 q h) hFc_2 (fun r_2 u_2 t_2 H_2 locs_2 ht_2 hvm_2 hw_2 hB_2 hz_2 hk_2 hS_2 => ?_)
  refine W.cs (cells' := 77) (slots' := 199433) rfl rfl ?_
  obtain ⟨hP_2, hD_2⟩ := va_join (wr := [px_o x 10 fx, px_o td 7 ftd]) (w1 := []) hP hD [2, 3] [0, 1] rfl rfl (by decide +kernel) (by decide +kernel) hk_2 hFc_2 (fun k q h => by simp at h) ⟨fun i j p q h => by simp at h, fun k q h => by simp at h⟩
  clear hP hD hS hPc_2 hDc_2 hFc_2 hz_2 hk_2 hvm_2 ht_2 hB_2
  have hP : va_P D vwCl [px_o x 10 fx, px_o td 7 ftd] H_2 := hP_2
  have hD : va_D A [px_o x 10 fx, px_o td 7 ftd] := hD_2
  have hS := hS_2
  clear hP_2 hD_2 hS_2
  obtain rfl : r_2 = (-1) := hw_2
  refine lv_icmp_eq (tgt := 1472) hx hb dL_law_1392 (by decide) (fun _ => ?_) (fun c_3 => absurd c_3 (by decide))
  refine W.widen (k := 600002) (n := 7302232) (Nat.le_of_ble_eq_true rfl) (Nat.le_of_ble_eq_true rfl) ?_
  exact law_end C0 hAe hS (lv_sub hl [0, 4] rfl)

set_option maxHeartbeats 4000000 in
set_option maxRecDepth 100000 in
theorem law_34 {p : Program} {l : Launch} {e : Env} {s : State} {m : MethodId} {below : List Frame} {meth : Method} {c : Code} {b : Nat} {xs : Nat → Int32} {D : va_G} {y : Nat → ClassId} {ad : Nat → Nat} {bb : Nat → Int32} (hst : l.stackTraces = false) (C0 : lw_At p s m meth c b 6 xs) (hK : va_K D vwCl (px_tys y) s) (hYY : px_Y ad bb (fun q : Nat => s.heap.size ≤ q) s s.heap) (x : Nat) (mo : Nat) (ou : Nat) (fx : List Value) (g : Nat) (td : Nat) (kg : Nat) (ks : Nat) (fg : List Value) (gn : Nat) (gh : Nat) (gc : Nat) (gp : Nat) (go : Nat) (ga : Nat) (gv : Nat) (gl : Nat) (gk : Nat) (fgn : Nat → Int64) (fgh : Nat → Int32) (fgc : Nat → Int32) (fgp : Nat → Int32) (fgo : Nat → Int32) (fga : Nat → Int32) (fgv : Nat → Int32) (fgl : Nat → Int32) (fgk : List Value) (gs : Nat) (gt : Nat) (gq : Nat) (fgs : Nat → Int32) (fgt : Nat → Int32) (fgq : Nat → Int32) (ftd : List Value) (tdc : Nat) (ftdc : Nat → Int32) (fmo : List Value) (ms : Nat) (mn : Nat) (mi : Nat) (mj : Nat) (mk : Nat) (fms : Nat → Int32) (fmn : Nat → Int64) (fmi : Nat → Int32) (fmj : Nat → Int64) (fmk : Nat → Int32) (hx_3 : px_g fx 3 (.ref g)) (hx_5 : px_g fx 5 (.ref td)) (hx_11 : px_g fx 11 (.ref kg)) (hx_12 : px_g fx 12 (.ref ks)) (hg_0 : px_g fg 0 (.int 0)) (hg_1 : px_g fg 1 (.int 0)) (hg_2 : px_g fg 2 (.int 0)) (hg_3 : px_g fg 3 (.int 0)) (hg_4 : px_g fg 4 (.ref gn)) (hg_5 : px_g fg 5 (.ref gh)) (hg_6 : px_g fg 6 (.ref gc)) (hg_7 : px_g fg 7 (.ref gp)) (hg_8 : px_g fg 8 (.int 0)) (hg_9 : px_g fg 9 (.int 0)) (hg_10 : px_g fg 10 (.ref go)) (hg_11 : px_g fg 11 (.ref ga)) (hg_12 : px_g fg 12 (.ref gv)) (hg_13 : px_g fg 13 (.ref gl)) (hg_14 : px_g fg 14 (.int (-1))) (hg_15 : px_g fg 15 (.int 0)) (hg_16 : px_g fg 16 (.int 0)) (hg_17 : px_g fg 17 (.ref gk)) (hgk_0 : px_g fgk 0 (.ref gs)) (hgk_1 : px_g fgk 1 (.ref gt)) (hgk_2 : px_g fgk 2 (.int 0)) (hgk_3 : px_g fgk 3 (.ref gq)) (htd_0 : px_g ftd 0 (.ref tdc)) (htd_1 : px_g ftd 1 (.int 0)) (hmo_0 : px_g fmo 0 (.int 0)) (hmo_6 : px_g fmo 6 (.ref ms)) (hmo_9 : px_g fmo 9 (.ref mn)) (hmo_62 : px_g fmo 62 (.ref mi)) (hmo_63 : px_g fmo 63 (.ref mj)) (hmo_64 : px_g fmo 64 (.ref mk)) {H : Heap} {locs : List Loc} {ls : Array Slot} (hP : va_P D vwCl [px_o x 10 fx, px_o g 2 fg, px_l gn (y 2) 6 fgn, px_i gh (y 1) 78 fgh, px_i gc (y 1) 6 fgc, px_i gp (y 1) 52 fgp, px_i go (y 1) 13 fgo, px_i ga (y 1) 6 fga, px_i gv (y 1) 6 fgv, px_i gl (y 1) 6 fgl, px_o gk 3 fgk, px_i gs (y 1) 78 fgs, px_i gt (y 1) 52 fgt, px_i gq (y 1) 6 fgq, px_o td 7 ftd, px_i tdc (y 1) 40 ftdc, px_q kg (y 4) 2 (fun _ => none), px_q ks (y 5) 2 (fun _ => none), px_o mo 11 fmo, px_i ms (y 1) 765 fms, px_l mn (y 2) 12 fmn, px_i mi (y 1) 1530 fmi, px_l mj (y 2) 12 fmj, px_i mk (y 3) 2 fmk] H) (hD : va_D (fun q : Nat => s.heap.size ≤ q) [px_o x 10 fx, px_o g 2 fg, px_l gn (y 2) 6 fgn, px_i gh (y 1) 78 fgh, px_i gc (y 1) 6 fgc, px_i gp (y 1) 52 fgp, px_i go (y 1) 13 fgo, px_i ga (y 1) 6 fga, px_i gv (y 1) 6 fgv, px_i gl (y 1) 6 fgl, px_o gk 3 fgk, px_i gs (y 1) 78 fgs, px_i gt (y 1) 52 fgt, px_i gq (y 1) 6 fgq, px_o td 7 ftd, px_i tdc (y 1) 40 ftdc, px_q kg (y 4) 2 (fun _ => none), px_q ks (y 5) 2 (fun _ => none), px_o mo 11 fmo, px_i ms (y 1) 765 fms, px_l mn (y 2) 12 fmn, px_i mi (y 1) 1530 fmi, px_l mj (y 2) 12 fmj, px_i mk (y 3) 2 fmk]) (hS : va_S (fun q : Nat => s.heap.size ≤ q) s.heap H locs) (hl : lv_has ls 8 [(4, .int 0), (3, .ref ou), (2, .ref mo), (1, .ref x), (0, .ref b)]) : W p l e room_1 s m #[Value.ref b] below meth c H locs 77 199433 (lw_Z below #[Value.ref b] s) (F0 m 1397 ls []) := by
  obtain ⟨hx, hb, hr, hml, hown, hts, hX, hbl, hlocks, hgv⟩ := id C0
  have hg := gw_hts hts
  have hown : s.vm.findClass RL = some m.cls := hown
  have hXX := hYY.x
  generalize hAe : (fun q : Nat => s.heap.size ≤ q) = A at hYY hD hS
  have hA : ∀ q : Nat, s.heap.size ≤ q → A q := fun q h => by rw [← hAe]; exact h
  have hbA : ¬ A b := by rw [← hAe]; exact Nat.not_le.mpr hbl
  refine lv_aload_n hx hb dL_law_1397 rfl (lv_at hl 3 rfl) ?_
  refine lv_aload_n hx hb dL_law_1398 rfl (lv_at hl 4 rfl) ?_
  refine lv_iload hx hb dL_law_1399 (lv_at hl 0 rfl) ?_
  refine lv_iconst (v := 1) hx hb dL_law_1401 (by decide) ?_
  refine lv_iadd hx hb dL_law_1402 ?_
  refine px_top (v := 1) (by decide) ?_
  refine va_sld hx hb hX hbl hbA hS (i := 1) (px_in (by decide)) dL_law_1403 ?_
  refine px_top (v := xs 1) rfl ?_
  have hPc_1 := hP.sub (ws' := [px_o x 10 fx, px_o g 2 fg, px_l gn (y 2) 6 fgn, px_i gh (y 1) 78 fgh, px_i gc (y 1) 6 fgc, px_i gp (y 1) 52 fgp, px_i go (y 1) 13 fgo, px_i ga (y 1) 6 fga, px_i gv (y 1) 6 fgv, px_i gl (y 1) 6 fgl, px_o gk 3 fgk, px_i gs (y 1) 78 fgs, px_i gt (y 1) 52 fgt, px_i gq (y 1) 6 fgq, px_o td 7 ftd, px_i tdc (y 1) 40 ftdc, px_q kg (y 4) 2 (fun _ => none), px_q ks (y 5) 2 (fun _ => none)]) [0, 1, 2, 3, 4, 5, 6, 7, 8, 9, 10, 11, 12, 13, 14, 15, 16, 17] rfl
  have hDc_1 := hD.sub (ws' := [px_o x 10 fx, px_o g 2 fg, px_l gn (y 2) 6 fgn, px_i gh (y 1) 78 fgh, px_i gc (y 1) 6 fgc, px_i gp (y 1) 52 fgp, px_i go (y 1) 13 fgo, px_i ga (y 1) 6 fga, px_i gv (y 1) 6 fgv, px_i gl (y 1) 6 fgl, px_o gk 3 fgk, px_i gs (y 1) 78 fgs, px_i gt (y 1) 52 fgt, px_i gq (y 1) 6 fgq, px_o td 7 ftd, px_i tdc (y 1) 40 ftdc, px_q kg (y 4) 2 (fun _ => none), px_q ks (y 5) 2 (fun _ => none)]) [0, 1, 2, 3, 4, 5, 6, 7, 8, 9, 10, 11, 12, 13, 14, 15, 16, 17] (by decide +kernel) rfl
  have hFc_1 := va_free (wc := [px_o x 10 fx, px_o g 2 fg, px_l gn (y 2) 6 fgn, px_i gh (y 1) 78 fgh, px_i gc (y 1) 6 fgc, px_i gp (y 1) 52 fgp, px_i go (y 1) 13 fgo, px_i ga (y 1) 6 fga, px_i gv (y 1) 6 fgv, px_i gl (y 1) 6 fgl, px_o gk 3 fgk, px_i gs (y 1) 78 fgs, px_i gt (y 1) 52 fgt, px_i gq (y 1) 6 fgq, px_o td 7 ftd, px_i tdc (y 1) 40 ftdc, px_q kg (y 4) 2 (fun _ => none), px_q ks (y 5) 2 (fun _ => none)]) hD hS hA [0, 1, 2, 3, 4, 5, 6, 7, 8, 9, 10, 11, 12, 13, 14, 15, 16, 17] rfl
  refine va_calli (va_runV (As := [.int (xs 1)]) (rest := []) ⟨hx, hb, hml, hown, hg⟩ (c_X10_image l D y H.size x fx g td kg ks fg gn gh gc gp go ga gv gl gk fgn fgh fgc fgp fgo fga fgv fgl fgk gs gt gq fgs fgt fgq ftd tdc ftdc (xs 1) hx_3 hx_5 hx_11 hx_12 hg_0 hg_1 hg_2 hg_3 hg_4 hg_5 hg_6 hg_7 hg_8 hg_9 hg_10 hg_11 hg_12 hg_13 hg_14 hg_15 hg_16 hg_17 hgk_0 hgk_1 hgk_2 hgk_3 htd_0 htd_1) (cwV 1 hg (px_gV q_5_213 q_5_214 q_5_215 q_1_1 q_5_216) rfl rfl rfl (by decide +kernel) ⟨Nat.le_of_ble_eq_true rfl, Nat.le_of_ble_eq_true rfl⟩) (px_preVao hK hPc_1 hDc_1 hXX (ci := 10) (q0 := 0) rfl rfl) rfl rfl hl.1 rfl (lv_room (Nat.le_of_ble_eq_true rfl)) dL_law_1404 ⟨Nat.le_of_ble_eq_true rfl, Nat.le_of_ble_eq_true rfl⟩) hS (fun q _ h => hFc_1 q h) hFc_1 (fun r_1 u_1 t_1 H_1 locs_1 ht_1 hvm_1 hw_1 hB_1 hz_1 hk_1 hS_1 => ?_)
  refine W.cs (cells' := 92) (slots' := 199806) rfl rfl ?_
  obtain ⟨hP_1, hD_1⟩ := va_join (wr := [px_o mo 11 fmo, px_i ms (y 1) 765 fms, px_l mn (y 2) 12 fmn, px_i mi (y 1) 1530 fmi, px_l mj (y 2) 12 fmj, px_i mk (y 3) 2 fmk]) (w1 := []) hP hD [0, 1, 2, 3, 4, 5, 6, 7, 8, 9, 10, 11, 12, 13, 14, 15, 16, 17] [18, 19, 20, 21, 22, 23] rfl rfl (by decide +kernel) (by decide +kernel) hk_1 hFc_1 (fun k q h => by simp at h) ⟨fun i j p q h => by simp at h, fun k q h => by simp at h⟩
  clear hP hD hS hPc_1 hDc_1 hFc_1 hz_1 hk_1 hvm_1 ht_1 hB_1
  have hP : va_P D vwCl [px_o mo 11 fmo, px_i ms (y 1) 765 fms, px_l mn (y 2) 12 fmn, px_i mi (y 1) 1530 fmi, px_l mj (y 2) 12 fmj, px_i mk (y 3) 2 fmk] H_1 := hP_1
  have hD : va_D A [px_o mo 11 fmo, px_i ms (y 1) 765 fms, px_l mn (y 2) 12 fmn, px_i mi (y 1) 1530 fmi, px_l mj (y 2) 12 fmj, px_i mk (y 3) 2 fmk] := hD_1
  have hS := hS_1
  clear hP_1 hD_1 hS_1
  obtain rfl : r_1 = px_is01 (xs 1) := hw_1
  refine lv_aload_n hx hb dL_law_1407 rfl (lv_at hl 2 rfl) ?_
  refine lv_aload_n hx hb dL_law_1408 rfl (lv_at hl 4 rfl) ?_
  refine lv_iload hx hb dL_law_1409 (lv_at hl 0 rfl) ?_
  refine lv_iconst (v := 1) hx hb dL_law_1411 (by decide) ?_
  refine lv_iadd hx hb dL_law_1412 ?_
  refine px_top (v := 1) (by decide) ?_
  refine va_sld hx hb hX hbl hbA hS (i := 1) (px_in (by decide)) dL_law_1413 ?_
  refine px_top (v := xs 1) rfl ?_
  have hPc_2 := hP.sub (ws' := [px_o mo 11 fmo, px_i ms (y 1) 765 fms, px_l mn (y 2) 12 fmn, px_i mi (y 1) 1530 fmi, px_l mj (y 2) 12 fmj, px_i mk (y 3) 2 fmk]) [0, 1, 2, 3, 4, 5] rfl
  have hDc_2 := hD.sub (ws' := [px_o mo 11 fmo, px_i ms (y 1) 765 fms, px_l mn (y 2) 12 fmn, px_i mi (y 1) 1530 fmi, px_l mj (y 2) 12 fmj, px_i mk (y 3) 2 fmk]) [0, 1, 2, 3, 4, 5] (by decide +kernel) rfl
  have hFc_2 := va_free (wc := [px_o mo 11 fmo, px_i ms (y 1) 765 fms, px_l mn (y 2) 12 fmn, px_i mi (y 1) 1530 fmi, px_l mj (y 2) 12 fmj, px_i mk (y 3) 2 fmk]) hD hS hA [0, 1, 2, 3, 4, 5] rfl
  refine va_calli (va_runV (As := [.int (xs 1)]) (rest := [.int (px_is01 (xs 1))]) ⟨hx, hb, hml, hown, hg⟩ (c_X11_image l D y H_1.size mo fmo ms mn mi mj mk fms fmn fmi fmj fmk (xs 1) hmo_0 hmo_6 hmo_9 hmo_62 hmo_63 hmo_64) (cwV 1 hg (px_gV q_9_4 q_9_5 q_9_6 q_1_15 q_9_7) rfl rfl rfl (by decide +kernel) ⟨Nat.le_of_ble_eq_true rfl, Nat.le_of_ble_eq_true rfl⟩) (px_preV hK hPc_2 hDc_2 (ci := 11) (q0 := 0) rfl rfl) rfl rfl hl.1 rfl (lv_room (Nat.le_of_ble_eq_true rfl)) dL_law_1414 ⟨Nat.le_of_ble_eq_true rfl, Nat.le_of_ble_eq_true rfl⟩) hS (fun q _ h => hFc_2 q h) hFc_2 (fun r_2 u_2 t_2 H_2 locs_2 ht_2 hvm_2 hw_2 hB_2 hz_2 hk_2 hS_2 => ?_)
  refine W.cs (cells' := 92) (slots' := 199806) rfl rfl ?_
  obtain ⟨hP_2, hD_2⟩ := va_join (wr := []) (w1 := []) hP hD [0, 1, 2, 3, 4, 5] [] rfl rfl (by decide +kernel) (by decide +kernel) hk_2 hFc_2 (fun k q h => by simp at h) ⟨fun i j p q h => by simp at h, fun k q h => by simp at h⟩
  clear hP hD hS hPc_2 hDc_2 hFc_2 hz_2 hk_2 hvm_2 ht_2 hB_2
  have hP : va_P D vwCl [] H_2 := hP_2
  have hD : va_D A [] := hD_2
  have hS := hS_2
  clear hP_2 hD_2 hS_2
  obtain rfl : r_2 = px_is01 (xs 1) := hw_2
  refine lv_icmp_eq (tgt := 1472) hx hb dL_law_1417 (by decide) (fun _ => ?_) (fun c_3 => absurd rfl c_3)
  refine W.widen (k := 600002) (n := 7302232) (Nat.le_of_ble_eq_true rfl) (Nat.le_of_ble_eq_true rfl) ?_
  exact law_end C0 hAe hS (lv_sub hl [0, 4] rfl)

set_option maxHeartbeats 4000000 in
set_option maxRecDepth 100000 in
theorem law_35 {p : Program} {l : Launch} {e : Env} {s : State} {m : MethodId} {below : List Frame} {meth : Method} {c : Code} {b : Nat} {xs : Nat → Int32} {D : va_G} {y : Nat → ClassId} {ad : Nat → Nat} {bb : Nat → Int32} (hst : l.stackTraces = false) (C0 : lw_At p s m meth c b 6 xs) (hK : va_K D vwCl (px_tys y) s) (hYY : px_Y ad bb (fun q : Nat => s.heap.size ≤ q) s s.heap) (x : Nat) (mo : Nat) (ou : Nat) (fx : List Value) (kg : Nat) (fmo : List Value) (mk : Nat) (fmk : Nat → Int32) (hx_11 : px_g fx 11 (.ref kg)) (hmo_0 : px_g fmo 0 (.int 0)) (hmo_64 : px_g fmo 64 (.ref mk)) (hmk_e0 : fmk 0 = 0) (hmk_e1 : fmk 1 = 0) {H : Heap} {locs : List Loc} {ls : Array Slot} (hP : va_P D vwCl [px_o x 10 fx, px_q kg (y 4) 2 (fun _ => none), px_o mo 11 fmo, px_i mk (y 3) 2 fmk] H) (hD : va_D (fun q : Nat => s.heap.size ≤ q) [px_o x 10 fx, px_q kg (y 4) 2 (fun _ => none), px_o mo 11 fmo, px_i mk (y 3) 2 fmk]) (hS : va_S (fun q : Nat => s.heap.size ≤ q) s.heap H locs) (hl : lv_has ls 8 [(4, .int 0), (3, .ref ou), (2, .ref mo), (1, .ref x), (0, .ref b)]) : W p l e room_1 s m #[Value.ref b] below meth c H locs 77 199433 (lw_Z below #[Value.ref b] s) (F0 m 1422 ls []) := by
  obtain ⟨hx, hb, hr, hml, hown, hts, hX, hbl, hlocks, hgv⟩ := id C0
  have hg := gw_hts hts
  have hown : s.vm.findClass RL = some m.cls := hown
  have hXX := hYY.x
  generalize hAe : (fun q : Nat => s.heap.size ≤ q) = A at hYY hD hS
  have hA : ∀ q : Nat, s.heap.size ≤ q → A q := fun q h => by rw [← hAe]; exact h
  have hbA : ¬ A b := by rw [← hAe]; exact Nat.not_le.mpr hbl
  refine lv_aload_n hx hb dL_law_1422 rfl (lv_at hl 3 rfl) ?_
  refine lv_aload_n hx hb dL_law_1423 rfl (lv_at hl 4 rfl) ?_
  refine lv_iload hx hb dL_law_1424 (lv_at hl 0 rfl) ?_
  refine lv_iconst (v := 1) hx hb dL_law_1426 (by decide) ?_
  refine lv_iadd hx hb dL_law_1427 ?_
  refine px_top (v := 1) (by decide) ?_
  refine va_sld hx hb hX hbl hbA hS (i := 1) (px_in (by decide)) dL_law_1428 ?_
  refine px_top (v := xs 1) rfl ?_
  have hPc_1 := hP.sub (ws' := [px_o x 10 fx, px_q kg (y 4) 2 (fun _ => none)]) [0, 1] rfl
  have hDc_1 := hD.sub (ws' := [px_o x 10 fx, px_q kg (y 4) 2 (fun _ => none)]) [0, 1] (by decide +kernel) rfl
  refine vp_callSi (va_Run.run (va_runV (As := [.int (xs 1)]) (rest := []) ⟨hx, hb, hml, hown, hg⟩ (c_X10_restore l D y H.size x fx kg (xs 1) hx_11) (cwV 1 hg (px_gV q_5_217 q_5_218 q_5_219 q_1_1 q_5_220) rfl rfl rfl (by decide +kernel) ⟨Nat.le_of_ble_eq_true rfl, Nat.le_of_ble_eq_true rfl⟩) (px_preV hK hPc_1 hDc_1 (ci := 10) (q0 := 0) rfl rfl) rfl rfl hl.1 rfl (lv_room (Nat.le_of_ble_eq_true rfl)) dL_law_1429 ⟨Nat.le_of_ble_eq_true rfl, Nat.le_of_ble_eq_true rfl⟩)) (fun r_1 hw_1 => ?_)
  clear hPc_1 hDc_1
  obtain rfl : r_1 = 0 := hw_1
  refine lv_aload_n hx hb dL_law_1432 rfl (lv_at hl 2 rfl) ?_
  refine lv_aload_n hx hb dL_law_1433 rfl (lv_at hl 4 rfl) ?_
  refine lv_iload hx hb dL_law_1434 (lv_at hl 0 rfl) ?_
  refine lv_iconst (v := 1) hx hb dL_law_1436 (by decide) ?_
  refine lv_iadd hx hb dL_law_1437 ?_
  refine px_top (v := 1) (by decide) ?_
  refine va_sld hx hb hX hbl hbA hS (i := 1) (px_in (by decide)) dL_law_1438 ?_
  refine px_top (v := xs 1) rfl ?_
  have hPc_2 := hP.sub (ws' := [px_o mo 11 fmo, px_i mk (y 3) 2 fmk]) [2, 3] rfl
  have hDc_2 := hD.sub (ws' := [px_o mo 11 fmo, px_i mk (y 3) 2 fmk]) [2, 3] (by decide +kernel) rfl
  have hFc_2 := va_free (wc := [px_o mo 11 fmo, px_i mk (y 3) 2 fmk]) hD hS hA [2, 3] rfl
  refine va_calli (va_runV (As := [.int (xs 1)]) (rest := [.int 0]) ⟨hx, hb, hml, hown, hg⟩ (c_X11_restore l D y H.size mo fmo mk fmk (xs 1) hmo_0 hmo_64 hmk_e0 hmk_e1) (cwV 1 hg (px_gV q_9_8 q_9_9 q_9_10 q_1_15 q_9_11) rfl rfl rfl (by decide +kernel) ⟨Nat.le_of_ble_eq_true rfl, Nat.le_of_ble_eq_true rfl⟩) (px_preV hK hPc_2 hDc_2 (ci := 11) (q0 := 0) rfl rfl) rfl rfl hl.1 rfl (lv_room (Nat.le_of_ble_eq_true rfl)) dL_law_1439 ⟨Nat.le_of_ble_eq_true rfl, Nat.le_of_ble_eq_true rfl⟩) hS (fun q _ h => hFc_2 q h) hFc_2 (fun r_2 u_2 t_2 H_2 locs_2 ht_2 hvm_2 hw_2 hB_2 hz_2 hk_2 hS_2 => ?_)
  refine W.cs (cells' := 77) (slots' := 199433) rfl rfl ?_
  obtain ⟨hP_2, hD_2⟩ := va_join (wr := [px_o x 10 fx, px_q kg (y 4) 2 (fun _ => none)]) (w1 := []) hP hD [2, 3] [0, 1] rfl rfl (by decide +kernel) (by decide +kernel) hk_2 hFc_2 (fun k q h => by simp at h) ⟨fun i j p q h => by simp at h, fun k q h => by simp at h⟩
  clear hP hD hS hPc_2 hDc_2 hFc_2 hz_2 hk_2 hvm_2 ht_2 hB_2
  have hP : va_P D vwCl [px_o x 10 fx, px_q kg (y 4) 2 (fun _ => none)] H_2 := hP_2
  have hD : va_D A [px_o x 10 fx, px_q kg (y 4) 2 (fun _ => none)] := hD_2
  have hS := hS_2
  clear hP_2 hD_2 hS_2
  obtain rfl : r_2 = 0 := hw_2
  refine lv_icmp_eq (tgt := 1472) hx hb dL_law_1442 (by decide) (fun _ => ?_) (fun c_3 => absurd c_3 (by decide))
  refine W.widen (k := 600002) (n := 7302232) (Nat.le_of_ble_eq_true rfl) (Nat.le_of_ble_eq_true rfl) ?_
  exact law_end C0 hAe hS (lv_sub hl [0, 4] rfl)

set_option maxHeartbeats 4000000 in
set_option maxRecDepth 100000 in
theorem law_36 {p : Program} {l : Launch} {e : Env} {s : State} {m : MethodId} {below : List Frame} {meth : Method} {c : Code} {b : Nat} {xs : Nat → Int32} {D : va_G} {y : Nat → ClassId} {ad : Nat → Nat} {bb : Nat → Int32} (hst : l.stackTraces = false) (C0 : lw_At p s m meth c b 6 xs) (hK : va_K D vwCl (px_tys y) s) (hYY : px_Y ad bb (fun q : Nat => s.heap.size ≤ q) s s.heap) (x : Nat) (mo : Nat) (ou : Nat) (fx : List Value) (g : Nat) (fg : List Value) (fmo : List Value) (ms : Nat) (fms : Nat → Int32) (hx_1 : px_g fx 1 (.int 0)) (hx_3 : px_g fx 3 (.ref g)) (hg_0 : px_g fg 0 (.int 0)) (hg_1 : px_g fg 1 (.int 0)) (hg_2 : px_g fg 2 (.int 0)) (hg_3 : px_g fg 3 (.int 0)) (hmo_0 : px_g fmo 0 (.int 0)) (hmo_2 : px_g fmo 2 (.int 0)) (hmo_6 : px_g fmo 6 (.ref ms)) (hms_e0 : fms 0 = 0) (hms_e1 : fms 1 = 0) (hms_e2 : fms 2 = 0) (hms_e3 : fms 3 = 0) {H : Heap} {locs : List Loc} {ls : Array Slot} (hP : va_P D vwCl [px_o x 10 fx, px_o g 2 fg, px_o mo 11 fmo, px_i ms (y 1) 765 fms] H) (hD : va_D (fun q : Nat => s.heap.size ≤ q) [px_o x 10 fx, px_o g 2 fg, px_o mo 11 fmo, px_i ms (y 1) 765 fms]) (hS : va_S (fun q : Nat => s.heap.size ≤ q) s.heap H locs) (hl : lv_has ls 8 [(4, .int 0), (3, .ref ou), (2, .ref mo), (1, .ref x), (0, .ref b)]) : W p l e room_1 s m #[Value.ref b] below meth c H locs 77 199433 (lw_Z below #[Value.ref b] s) (F0 m 1447 ls []) := by
  obtain ⟨hx, hb, hr, hml, hown, hts, hX, hbl, hlocks, hgv⟩ := id C0
  have hg := gw_hts hts
  have hown : s.vm.findClass RL = some m.cls := hown
  have hXX := hYY.x
  generalize hAe : (fun q : Nat => s.heap.size ≤ q) = A at hYY hD hS
  have hA : ∀ q : Nat, s.heap.size ≤ q → A q := fun q h => by rw [← hAe]; exact h
  have hbA : ¬ A b := by rw [← hAe]; exact Nat.not_le.mpr hbl
  refine lv_aload_n hx hb dL_law_1447 rfl (lv_at hl 3 rfl) ?_
  refine lv_aload_n hx hb dL_law_1448 rfl (lv_at hl 4 rfl) ?_
  refine lv_iload hx hb dL_law_1449 (lv_at hl 0 rfl) ?_
  refine lv_iconst (v := 1) hx hb dL_law_1451 (by decide) ?_
  refine lv_iadd hx hb dL_law_1452 ?_
  refine px_top (v := 1) (by decide) ?_
  refine va_sld hx hb hX hbl hbA hS (i := 1) (px_in (by decide)) dL_law_1453 ?_
  refine px_top (v := xs 1) rfl ?_
  have hPc_1 := hP.sub (ws' := [px_o x 10 fx, px_o g 2 fg]) [0, 1] rfl
  have hDc_1 := hD.sub (ws' := [px_o x 10 fx, px_o g 2 fg]) [0, 1] (by decide +kernel) rfl
  refine vp_callSi (va_Run.run (va_runV (As := [.int (xs 1)]) (rest := []) ⟨hx, hb, hml, hown, hg⟩ (c_X10_count l D y H.size x fx g fg (xs 1) hx_1 hx_3 hg_0 hg_1 hg_2 hg_3) (cwV 1 hg (px_gV q_5_221 q_5_222 q_5_223 q_1_1 q_5_224) rfl rfl rfl (by decide +kernel) ⟨Nat.le_of_ble_eq_true rfl, Nat.le_of_ble_eq_true rfl⟩) (px_preV hK hPc_1 hDc_1 (ci := 10) (q0 := 0) rfl rfl) rfl rfl hl.1 rfl (lv_room (Nat.le_of_ble_eq_true rfl)) dL_law_1454 ⟨Nat.le_of_ble_eq_true rfl, Nat.le_of_ble_eq_true rfl⟩)) (fun r_1 hw_1 => ?_)
  clear hPc_1 hDc_1
  obtain rfl : r_1 = px_cnt (xs 1) := hw_1
  refine lv_aload_n hx hb dL_law_1457 rfl (lv_at hl 2 rfl) ?_
  refine lv_aload_n hx hb dL_law_1458 rfl (lv_at hl 4 rfl) ?_
  refine lv_iload hx hb dL_law_1459 (lv_at hl 0 rfl) ?_
  refine lv_iconst (v := 1) hx hb dL_law_1461 (by decide) ?_
  refine lv_iadd hx hb dL_law_1462 ?_
  refine px_top (v := 1) (by decide) ?_
  refine va_sld hx hb hX hbl hbA hS (i := 1) (px_in (by decide)) dL_law_1463 ?_
  refine px_top (v := xs 1) rfl ?_
  have hPc_2 := hP.sub (ws' := [px_o mo 11 fmo, px_i ms (y 1) 765 fms]) [2, 3] rfl
  have hDc_2 := hD.sub (ws' := [px_o mo 11 fmo, px_i ms (y 1) 765 fms]) [2, 3] (by decide +kernel) rfl
  have hFc_2 := va_free (wc := [px_o mo 11 fmo, px_i ms (y 1) 765 fms]) hD hS hA [2, 3] rfl
  refine va_calli (va_runV (As := [.int (xs 1)]) (rest := [.int (px_cnt (xs 1))]) ⟨hx, hb, hml, hown, hg⟩ (c_X11_count l D y H.size mo fmo ms fms (xs 1) hmo_0 hmo_2 hmo_6 hms_e0 hms_e1 hms_e2 hms_e3) (cwV 1 hg (px_gV q_9_12 q_9_13 q_9_14 q_1_15 q_9_15) rfl rfl rfl (by decide +kernel) ⟨Nat.le_of_ble_eq_true rfl, Nat.le_of_ble_eq_true rfl⟩) (px_preV hK hPc_2 hDc_2 (ci := 11) (q0 := 0) rfl rfl) rfl rfl hl.1 rfl (lv_room (Nat.le_of_ble_eq_true rfl)) dL_law_1464 ⟨Nat.le_of_ble_eq_true rfl, Nat.le_of_ble_eq_true rfl⟩) hS (fun q _ h => hFc_2 q h) hFc_2 (fun r_2 u_2 t_2 H_2 locs_2 ht_2 hvm_2 hw_2 hB_2 hz_2 hk_2 hS_2 => ?_)
  refine W.cs (cells' := 77) (slots' := 199433) rfl rfl ?_
  obtain ⟨hP_2, hD_2⟩ := va_join (wr := [px_o x 10 fx, px_o g 2 fg]) (w1 := []) hP hD [2, 3] [0, 1] rfl rfl (by decide +kernel) (by decide +kernel) hk_2 hFc_2 (fun k q h => by simp at h) ⟨fun i j p q h => by simp at h, fun k q h => by simp at h⟩
  clear hP hD hS hPc_2 hDc_2 hFc_2 hz_2 hk_2 hvm_2 ht_2 hB_2
  have hP : va_P D vwCl [px_o x 10 fx, px_o g 2 fg] H_2 := hP_2
  have hD : va_D A [px_o x 10 fx, px_o g 2 fg] := hD_2
  have hS := hS_2
  clear hP_2 hD_2 hS_2
  obtain rfl : r_2 = px_cnt (xs 1) := hw_2
  refine lv_icmp_eq (tgt := 1472) hx hb dL_law_1467 (by decide) (fun _ => ?_) (fun c_3 => absurd rfl c_3)
  refine W.widen (k := 600002) (n := 7302232) (Nat.le_of_ble_eq_true rfl) (Nat.le_of_ble_eq_true rfl) ?_
  exact law_end C0 hAe hS (lv_sub hl [0, 4] rfl)
