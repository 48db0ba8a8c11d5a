set_option maxHeartbeats 4000000 in
set_option maxRecDepth 100000 in
theorem law_0 {p : Program} {l : Launch} {e : Env} {s : State} {m : MethodId} {below : List Frame} {meth : Method} {c : Code} {b : Nat} {xs : Nat → Int32} {D : va_G} {y : Nat → ClassId} {ad : Nat → Nat} {bb : Nat → Int32} (hst : l.stackTraces = false) (C0 : lw_At p s m meth c b 6 xs) (hK : va_K D vwCl (px_tys y) s) (hYY : px_Y ad bb (fun q : Nat => s.heap.size ≤ q) s s.heap) (x : Nat) (mo : Nat) (ou : Nat) (fx : List Value) (tp : Nat) (ftp : Nat → Int32) (fmo : List Value) (mt : Nat) (fmt : Nat → Int32) (hx_0 : px_g fx 0 (.ref tp)) (hx_1 : px_g fx 1 (.int 0)) (hmo_0 : px_g fmo 0 (.int 0)) (hmo_1 : px_g fmo 1 (.ref mt)) (hmo_2 : px_g fmo 2 (.int 0)) {H : Heap} {locs : List Loc} {ls : Array Slot} (hP : va_P D vwCl [px_o x 10 fx, px_i tp (y 0) 940 ftp, px_o mo 11 fmo, px_i mt (y 0) 940 fmt] H) (hD : va_D (fun q : Nat => s.heap.size ≤ q) [px_o x 10 fx, px_i tp (y 0) 940 ftp, px_o mo 11 fmo, px_i mt (y 0) 940 fmt]) (hS : va_S (fun q : Nat => s.heap.size ≤ q) s.heap H locs) (hl : lv_has ls 8 [(4, .int 0), (3, .ref ou), (2, .ref mo), (1, .ref x), (0, .ref b)]) : W p l e room_1 s m #[Value.ref b] below meth c H locs 77 199433 (lw_Z below #[Value.ref b] s) (F0 m 204 ls []) := by
  obtain ⟨hx, hb, hr, hml, hown, hts, hX, hbl, hlocks, hgv⟩ := id C0
  have hg := gw_hts hts
  have hown : s.vm.findClass RL = some m.cls := hown
  have hXX := hYY.x
  generalize hAe : (fun q : Nat => s.heap.size ≤ q) = A at hYY hD hS
  have hA : ∀ q : Nat, s.heap.size ≤ q → A q := fun q h => by rw [← hAe]; exact h
  have hbA : ¬ A b := by rw [← hAe]; exact Nat.not_le.mpr hbl
  refine lv_aload_n hx hb dL_law_204 rfl (lv_at hl 3 rfl) ?_
  refine lv_aload_n hx hb dL_law_205 rfl (lv_at hl 4 rfl) ?_
  refine lv_iload hx hb dL_law_206 (lv_at hl 0 rfl) ?_
  refine lv_iconst (v := 1) hx hb dL_law_208 (by decide) ?_
  refine lv_iadd hx hb dL_law_209 ?_
  refine px_top (v := 1) (by decide) ?_
  refine va_sld hx hb hX hbl hbA hS (i := 1) (px_in (by decide)) dL_law_210 ?_
  refine px_top (v := xs 1) rfl ?_
  refine lv_aload_n hx hb dL_law_211 rfl (lv_at hl 4 rfl) ?_
  refine lv_iload hx hb dL_law_212 (lv_at hl 0 rfl) ?_
  refine lv_iconst (v := 2) hx hb dL_law_214 (by decide) ?_
  refine lv_iadd hx hb dL_law_215 ?_
  refine px_top (v := 2) (by decide) ?_
  refine va_sld hx hb hX hbl hbA hS (i := 2) (px_in (by decide)) dL_law_216 ?_
  refine px_top (v := xs 2) rfl ?_
  refine lv_aload_n hx hb dL_law_217 rfl (lv_at hl 4 rfl) ?_
  refine lv_iload hx hb dL_law_218 (lv_at hl 0 rfl) ?_
  refine lv_iconst (v := 3) hx hb dL_law_220 (by decide) ?_
  refine lv_iadd hx hb dL_law_221 ?_
  refine px_top (v := 3) (by decide) ?_
  refine va_sld hx hb hX hbl hbA hS (i := 3) (px_in (by decide)) dL_law_222 ?_
  refine px_top (v := xs 3) rfl ?_
  refine lv_aload_n hx hb dL_law_223 rfl (lv_at hl 4 rfl) ?_
  refine lv_iload hx hb dL_law_224 (lv_at hl 0 rfl) ?_
  refine lv_iconst (v := 4) hx hb dL_law_226 (by decide) ?_
  refine lv_iadd hx hb dL_law_227 ?_
  refine px_top (v := 4) (by decide) ?_
  refine va_sld hx hb hX hbl hbA hS (i := 4) (px_in (by decide)) dL_law_228 ?_
  refine px_top (v := xs 4) rfl ?_
  refine lv_aload_n hx hb dL_law_229 rfl (lv_at hl 4 rfl) ?_
  refine lv_iload hx hb dL_law_230 (lv_at hl 0 rfl) ?_
  refine lv_iconst (v := 5) hx hb dL_law_232 (by decide) ?_
  refine lv_iadd hx hb dL_law_233 ?_
  refine px_top (v := 5) (by decide) ?_
  refine va_sld hx hb hX hbl hbA hS (i := 5) (px_in (by decide)) dL_law_234 ?_
  refine px_top (v := xs 5) rfl ?_
  have hPc_1 := hP.sub (ws' := [px_o x 10 fx, px_i tp (y 0) 940 ftp]) [0, 1] rfl
  have hDc_1 := hD.sub (ws' := [px_o x 10 fx, px_i tp (y 0) 940 ftp]) [0, 1] (by decide +kernel) rfl
  have hFc_1 := va_free (wc := [px_o x 10 fx, px_i tp (y 0) 940 ftp]) hD hS hA [0, 1] rfl
  refine va_calli (va_runV (As := [.int (xs 1), .int (xs 2), .int (xs 3), .int (xs 4), .int (xs 5)]) (rest := []) ⟨hx, hb, hml, hown, hg⟩ (c_X10_feed l D y H.size x fx tp ftp (xs 1) (xs 2) (xs 3) (xs 4) (xs 5) hx_0 hx_1) (cwV 5 hg (px_gV q_2_164 q_2_165 q_2_166 q_1_1 q_2_167) rfl rfl rfl (by decide +kernel) ⟨Nat.le_of_ble_eq_true rfl, Nat.le_of_ble_eq_true rfl⟩) (px_preV hK hPc_1 hDc_1 (ci := 10) (q0 := 0) rfl rfl) rfl rfl hl.1 rfl (lv_room (Nat.le_of_ble_eq_true rfl)) dL_law_235 ⟨Nat.le_of_ble_eq_true rfl, Nat.le_of_ble_eq_true rfl⟩) hS (fun q _ h => hFc_1 q h) hFc_1 (fun r_1 u_1 t_1 H_1 locs_1 ht_1 hvm_1 hw_1 hB_1 hz_1 hk_1 hS_1 => ?_)
  refine W.cs (cells' := 77) (slots' := 199433) rfl rfl ?_
  obtain ⟨hP_1, hD_1⟩ := va_join (wr := [px_o mo 11 fmo, px_i mt (y 0) 940 fmt]) (w1 := []) hP hD [0, 1] [2, 3] rfl rfl (by decide +kernel) (by decide +kernel) hk_1 hFc_1 (fun k q h => by simp at h) ⟨fun i j p q h => by simp at h, fun k q h => by simp at h⟩
  clear hP hD hS hPc_1 hDc_1 hFc_1 hz_1 hk_1 hvm_1 ht_1 hB_1
  have hP : va_P D vwCl [px_o mo 11 fmo, px_i mt (y 0) 940 fmt] H_1 := hP_1
  have hD : va_D A [px_o mo 11 fmo, px_i mt (y 0) 940 fmt] := hD_1
  have hS := hS_1
  clear hP_1 hD_1 hS_1
  obtain rfl : r_1 = 20 := hw_1
  refine lv_aload_n hx hb dL_law_238 rfl (lv_at hl 2 rfl) ?_
  refine lv_aload_n hx hb dL_law_239 rfl (lv_at hl 4 rfl) ?_
  refine lv_iload hx hb dL_law_240 (lv_at hl 0 rfl) ?_
  refine lv_iconst (v := 1) hx hb dL_law_242 (by decide) ?_
  refine lv_iadd hx hb dL_law_243 ?_
  refine px_top (v := 1) (by decide) ?_
  refine va_sld hx hb hX hbl hbA hS (i := 1) (px_in (by decide)) dL_law_244 ?_
  refine px_top (v := xs 1) rfl ?_
  refine lv_aload_n hx hb dL_law_245 rfl (lv_at hl 4 rfl) ?_
  refine lv_iload hx hb dL_law_246 (lv_at hl 0 rfl) ?_
  refine lv_iconst (v := 2) hx hb dL_law_248 (by decide) ?_
  refine lv_iadd hx hb dL_law_249 ?_
  refine px_top (v := 2) (by decide) ?_
  refine va_sld hx hb hX hbl hbA hS (i := 2) (px_in (by decide)) dL_law_250 ?_
  refine px_top (v := xs 2) rfl ?_
  refine lv_aload_n hx hb dL_law_251 rfl (lv_at hl 4 rfl) ?_
  refine lv_iload hx hb dL_law_252 (lv_at hl 0 rfl) ?_
  refine lv_iconst (v := 3) hx hb dL_law_254 (by decide) ?_
  refine lv_iadd hx hb dL_law_255 ?_
  refine px_top (v := 3) (by decide) ?_
  refine va_sld hx hb hX hbl hbA hS (i := 3) (px_in (by decide)) dL_law_256 ?_
  refine px_top (v := xs 3) rfl ?_
  refine lv_aload_n hx hb dL_law_257 rfl (lv_at hl 4 rfl) ?_
  refine lv_iload hx hb dL_law_258 (lv_at hl 0 rfl) ?_
  refine lv_iconst (v := 4) hx hb dL_law_260 (by decide) ?_
  refine lv_iadd hx hb dL_law_261 ?_
  refine px_top (v := 4) (by decide) ?_
  refine va_sld hx hb hX hbl hbA hS (i := 4) (px_in (by decide)) dL_law_262 ?_
  refine px_top (v := xs 4) rfl ?_
  refine lv_aload_n hx hb dL_law_263 rfl (lv_at hl 4 rfl) ?_
  refine lv_iload hx hb dL_law_264 (lv_at hl 0 rfl) ?_
  refine lv_iconst (v := 5) hx hb dL_law_266 (by decide) ?_
  refine lv_iadd hx hb dL_law_267 ?_
  refine px_top (v := 5) (by decide) ?_
  refine va_sld hx hb hX hbl hbA hS (i := 5) (px_in (by decide)) dL_law_268 ?_
  refine px_top (v := xs 5) rfl ?_
  have hPc_2 := hP.sub (ws' := [px_o mo 11 fmo, px_i mt (y 0) 940 fmt]) [0, 1] rfl
  have hDc_2 := hD.sub (ws' := [px_o mo 11 fmo, px_i mt (y 0) 940 fmt]) [0, 1] (by decide +kernel) rfl
  have hFc_2 := va_free (wc := [px_o mo 11 fmo, px_i mt (y 0) 940 fmt]) hD hS hA [0, 1] rfl
  refine va_calli (va_runV (As := [.int (xs 1), .int (xs 2), .int (xs 3), .int (xs 4), .int (xs 5)]) (rest := [.int 20]) ⟨hx, hb, hml, hown, hg⟩ (c_X11_feed l D y H_1.size mo fmo mt fmt (xs 1) (xs 2) (xs 3) (xs 4) (xs 5) hmo_0 hmo_1 hmo_2) (cwV 5 hg (px_gV q_6_88 q_6_89 q_6_90 q_1_15 q_6_91) rfl rfl rfl (by decide +kernel) ⟨Nat.le_of_ble_eq_true rfl, Nat.le_of_ble_eq_true rfl⟩) (px_preV hK hPc_2 hDc_2 (ci := 11) (q0 := 0) rfl rfl) rfl rfl hl.1 rfl (lv_room (Nat.le_of_ble_eq_true rfl)) dL_law_269 ⟨Nat.le_of_ble_eq_true rfl, Nat.le_of_ble_eq_true rfl⟩) hS (fun q _ h => hFc_2 q h) hFc_2 (fun r_2 u_2 t_2 H_2 locs_2 ht_2 hvm_2 hw_2 hB_2 hz_2 hk_2 hS_2 => ?_)
  refine W.cs (cells' := 77) (slots' := 199433) rfl rfl ?_
  obtain ⟨hP_2, hD_2⟩ := va_join (wr := []) (w1 := []) hP hD [0, 1] [] rfl rfl (by decide +kernel) (by decide +kernel) hk_2 hFc_2 (fun k q h => by simp at h) ⟨fun i j p q h => by simp at h, fun k q h => by simp at h⟩
  clear hP hD hS hPc_2 hDc_2 hFc_2 hz_2 hk_2 hvm_2 ht_2 hB_2
  have hP : va_P D vwCl [] H_2 := hP_2
  have hD : va_D A [] := hD_2
  have hS := hS_2
  clear hP_2 hD_2 hS_2
  obtain rfl : r_2 = 20 := hw_2
  refine lv_icmp_eq (tgt := 1472) hx hb dL_law_272 (by decide) (fun _ => ?_) (fun c_3 => absurd c_3 (by decide))
  refine W.widen (k := 600002) (n := 7302232) (Nat.le_of_ble_eq_true rfl) (Nat.le_of_ble_eq_true rfl) ?_
  exact law_end C0 hAe hS (lv_sub hl [0, 4] rfl)

set_option maxHeartbeats 4000000 in
set_option maxRecDepth 100000 in
theorem law_1 {p : Program} {l : Launch} {e : Env} {s : State} {m : MethodId} {below : List Frame} {meth : Method} {c : Code} {b : Nat} {xs : Nat → Int32} {D : va_G} {y : Nat → ClassId} {ad : Nat → Nat} {bb : Nat → Int32} (hst : l.stackTraces = false) (C0 : lw_At p s m meth c b 6 xs) (hK : va_K D vwCl (px_tys y) s) (hYY : px_Y ad bb (fun q : Nat => s.heap.size ≤ q) s s.heap) (x : Nat) (mo : Nat) (ou : Nat) (fx : List Value) (fmo : List Value) (hx_1 : px_g fx 1 (.int 0)) (hmo_0 : px_g fmo 0 (.int 0)) (hmo_2 : px_g fmo 2 (.int 0)) {H : Heap} {locs : List Loc} {ls : Array Slot} (hP : va_P D vwCl [px_o x 10 fx, px_o mo 11 fmo] H) (hD : va_D (fun q : Nat => s.heap.size ≤ q) [px_o x 10 fx, px_o mo 11 fmo]) (hS : va_S (fun q : Nat => s.heap.size ≤ q) s.heap H locs) (hl : lv_has ls 8 [(4, .int 0), (3, .ref ou), (2, .ref mo), (1, .ref x), (0, .ref b)]) : W p l e room_1 s m #[Value.ref b] below meth c H locs 77 199433 (lw_Z below #[Value.ref b] s) (F0 m 277 ls []) := by
  obtain ⟨hx, hb, hr, hml, hown, hts, hX, hbl, hlocks, hgv⟩ := id C0
  have hg := gw_hts hts
  have hown : s.vm.findClass RL = some m.cls := hown
  have hXX := hYY.x
  generalize hAe : (fun q : Nat => s.heap.size ≤ q) = A at hYY hD hS
  have hA : ∀ q : Nat, s.heap.size ≤ q → A q := fun q h => by rw [← hAe]; exact h
  have hbA : ¬ A b := by rw [← hAe]; exact Nat.not_le.mpr hbl
  refine lv_aload_n hx hb dL_law_277 rfl (lv_at hl 3 rfl) ?_
  refine lv_aload_n hx hb dL_law_278 rfl (lv_at hl 4 rfl) ?_
  refine lv_iload hx hb dL_law_279 (lv_at hl 0 rfl) ?_
  refine lv_iconst (v := 1) hx hb dL_law_281 (by decide) ?_
  refine lv_iadd hx hb dL_law_282 ?_
  refine px_top (v := 1) (by decide) ?_
  refine va_sld hx hb hX hbl hbA hS (i := 1) (px_in (by decide)) dL_law_283 ?_
  refine px_top (v := xs 1) rfl ?_
  have hPc_1 := hP.sub (ws' := [px_o x 10 fx]) [0] rfl
  have hDc_1 := hD.sub (ws' := [px_o x 10 fx]) [0] (by decide +kernel) rfl
  have hFc_1 := va_free (wc := [px_o x 10 fx]) hD hS hA [0] rfl
  refine va_calli (va_runV (As := [.int (xs 1)]) (rest := []) ⟨hx, hb, hml, hown, hg⟩ (c_X10_end l D y H.size x fx (xs 1) hx_1) (cwV 1 hg (px_gV q_2_172 q_2_173 q_2_174 q_1_1 q_2_175) rfl rfl rfl (by decide +kernel) ⟨Nat.le_of_ble_eq_true rfl, Nat.le_of_ble_eq_true rfl⟩) (px_preV hK hPc_1 hDc_1 (ci := 10) (q0 := 0) rfl rfl) rfl rfl hl.1 rfl (lv_room (Nat.le_of_ble_eq_true rfl)) dL_law_284 ⟨Nat.le_of_ble_eq_true rfl, Nat.le_of_ble_eq_true rfl⟩) hS (fun q _ h => hFc_1 q h) hFc_1 (fun r_1 u_1 t_1 H_1 locs_1 ht_1 hvm_1 hw_1 hB_1 hz_1 hk_1 hS_1 => ?_)
  refine W.cs (cells' := 77) (slots' := 199433) rfl rfl ?_
  obtain ⟨hP_1, hD_1⟩ := va_join (wr := [px_o mo 11 fmo]) (w1 := []) hP hD [0] [1] rfl rfl (by decide +kernel) (by decide +kernel) hk_1 hFc_1 (fun k q h => by simp at h) ⟨fun i j p q h => by simp at h, fun k q h => by simp at h⟩
  clear hP hD hS hPc_1 hDc_1 hFc_1 hz_1 hk_1 hvm_1 ht_1 hB_1
  have hP : va_P D vwCl [px_o mo 11 fmo] H_1 := hP_1
  have hD : va_D A [px_o mo 11 fmo] := hD_1
  have hS := hS_1
  clear hP_1 hD_1 hS_1
  obtain rfl : r_1 = px_is0 (xs 1) := hw_1
  refine lv_aload_n hx hb dL_law_287 rfl (lv_at hl 2 rfl) ?_
  refine lv_aload_n hx hb dL_law_288 rfl (lv_at hl 4 rfl) ?_
  refine lv_iload hx hb dL_law_289 (lv_at hl 0 rfl) ?_
  refine lv_iconst (v := 1) hx hb dL_law_291 (by decide) ?_
  refine lv_iadd hx hb dL_law_292 ?_
  refine px_top (v := 1) (by decide) ?_
  refine va_sld hx hb hX hbl hbA hS (i := 1) (px_in (by decide)) dL_law_293 ?_
  refine px_top (v := xs 1) rfl ?_
  have hPc_2 := hP.sub (ws' := [px_o mo 11 fmo]) [0] rfl
  have hDc_2 := hD.sub (ws' := [px_o mo 11 fmo]) [0] (by decide +kernel) rfl
  have hFc_2 := va_free (wc := [px_o mo 11 fmo]) hD hS hA [0] rfl
  refine va_calli (va_runV (As := [.int (xs 1)]) (rest := [.int (px_is0 (xs 1))]) ⟨hx, hb, hml, hown, hg⟩ (c_X11_end l D y H_1.size mo fmo (xs 1) hmo_0 hmo_2) (cwV 1 hg (px_gV q_6_97 q_6_98 q_6_99 q_1_15 q_6_100) rfl rfl rfl (by decide +kernel) ⟨Nat.le_of_ble_eq_true rfl, Nat.le_of_ble_eq_true rfl⟩) (px_preV hK hPc_2 hDc_2 (ci := 11) (q0 := 0) rfl rfl) rfl rfl hl.1 rfl (lv_room (Nat.le_of_ble_eq_true rfl)) dL_law_294 ⟨Nat.le_of_ble_eq_true rfl, Nat.le_of_ble_eq_true rfl⟩) hS (fun q _ h => hFc_2 q h) hFc_2 (fun r_2 u_2 t_2 H_2 locs_2 ht_2 hvm_2 hw_2 hB_2 hz_2 hk_2 hS_2 => ?_)
  refine W.cs (cells' := 77) (slots' := 199433) rfl rfl ?_
  obtain ⟨hP_2, hD_2⟩ := va_join (wr := []) (w1 := []) hP hD [0] [] rfl rfl (by decide +kernel) (by decide +kernel) hk_2 hFc_2 (fun k q h => by simp at h) ⟨fun i j p q h => by simp at h, fun k q h => by simp at h⟩
  clear hP hD hS hPc_2 hDc_2 hFc_2 hz_2 hk_2 hvm_2 ht_2 hB_2
  have hP : va_P D vwCl [] H_2 := hP_2
  have hD : va_D A [] := hD_2
  have hS := hS_2
  clear hP_2 hD_2 hS_2
  obtain rfl : r_2 = px_is0 (xs 1) := hw_2
  refine lv_icmp_eq (tgt := 1472) hx hb dL_law_297 (by decide) (fun _ => ?_) (fun c_3 => absurd rfl c_3)
  refine W.widen (k := 600002) (n := 7302232) (Nat.le_of_ble_eq_true rfl) (Nat.le_of_ble_eq_true rfl) ?_
  exact law_end C0 hAe hS (lv_sub hl [0, 4] rfl)

set_option maxHeartbeats 4000000 in
set_option maxRecDepth 100000 in
theorem law_2 {p : Program} {l : Launch} {e : Env} {s : State} {m : MethodId} {below : List Frame} {meth : Method} {c : Code} {b : Nat} {xs : Nat → Int32} {D : va_G} {y : Nat → ClassId} {ad : Nat → Nat} {bb : Nat → Int32} (hst : l.stackTraces = false) (C0 : lw_At p s m meth c b 6 xs) (hK : va_K D vwCl (px_tys y) s) (hYY : px_Y ad bb (fun q : Nat => s.heap.size ≤ q) s s.heap) (x : Nat) (mo : Nat) (ou : Nat) (fx : List Value) (tp : Nat) (g : Nat) (tr : Nat) (td : Nat) (rd : Nat) (tt : Nat) (pa : Nat) (ftp : Nat → Int32) (fg : List Value) (gn : Nat) (gh : Nat) (gc : Nat) (gp : Nat) (go : Nat) (ga : Nat) (gv : Nat) (gl : Nat) (gk : Nat) (fgn : Nat → Int64) (fgh : Nat → Int32) (fgc : Nat → Int32) (fgp : Nat → Int32) (fgo : Nat → Int32) (fga : Nat → Int32) (fgv : Nat → Int32) (fgl : Nat → Int32) (fgk : List Value) (gs : Nat) (gt : Nat) (gq : Nat) (fgs : Nat → Int32) (fgt : Nat → Int32) (fgq : Nat → Int32) (ftr : List Value) (trn : Nat) (trh : Nat) (trc : Nat) (trp : Nat) (tro : Nat) (tra : Nat) (trv : Nat) (trl : Nat) (trk : Nat) (ftrn : Nat → Int64) (ftrh : Nat → Int32) (ftrc : Nat → Int32) (ftrp : Nat → Int32) (ftro : Nat → Int32) (ftra : Nat → Int32) (ftrv : Nat → Int32) (ftrl : Nat → Int32) (ftrk : List Value) (trs : Nat) (trt : Nat) (trq : Nat) (ftrs : Nat → Int32) (ftrt : Nat → Int32) (ftrq : Nat → Int32) (ftd : List Value) (frd : List Value) (rt : Nat) (ftt : List Value) (ti : Nat) (fti : Nat → Int32) (fpa : List Value) (fmo : List Value) (ms : Nat) (mh : Nat) (mn : Nat) (fms : Nat → Int32) (fmn : Nat → Int64) (hx_0 : px_g fx 0 (.ref tp)) (hx_1 : px_g fx 1 (.int 0)) (hx_2 : px_g fx 2 (.int 0)) (hx_3 : px_g fx 3 (.ref g)) (hx_4 : px_g fx 4 (.ref tr)) (hx_5 : px_g fx 5 (.ref td)) (hx_6 : px_g fx 6 (.ref rd)) (hx_7 : px_g fx 7 (.ref tt)) (hx_10 : px_g fx 10 (.ref pa)) (hg_0 : px_g fg 0 (.int 0)) (hg_1 : px_g fg 1 (.int 0)) (hg_2 : px_g fg 2 (.int 0)) (hg_3 : px_g fg 3 (.int 0)) (hg_4 : px_g fg 4 (.ref gn)) (hg_5 : px_g fg 5 (.ref gh)) (hg_6 : px_g fg 6 (.ref gc)) (hg_7 : px_g fg 7 (.ref gp)) (hg_8 : px_g fg 8 (.int 0)) (hg_9 : px_g fg 9 (.int 0)) (hg_10 : px_g fg 10 (.ref go)) (hg_11 : px_g fg 11 (.ref ga)) (hg_12 : px_g fg 12 (.ref gv)) (hg_13 : px_g fg 13 (.ref gl)) (hg_14 : px_g fg 14 (.int (-1))) (hg_15 : px_g fg 15 (.int 0)) (hg_16 : px_g fg 16 (.int 0)) (hg_17 : px_g fg 17 (.ref gk)) (hgk_0 : px_g fgk 0 (.ref gs)) (hgk_1 : px_g fgk 1 (.ref gt)) (hgk_2 : px_g fgk 2 (.int 0)) (hgk_3 : px_g fgk 3 (.ref gq)) (htr_0 : px_g ftr 0 (.int 0)) (htr_1 : px_g ftr 1 (.int 0)) (htr_2 : px_g ftr 2 (.int 0)) (htr_3 : px_g ftr 3 (.int 0)) (htr_4 : px_g ftr 4 (.ref trn)) (htr_5 : px_g ftr 5 (.ref trh)) (htr_6 : px_g ftr 6 (.ref trc)) (htr_7 : px_g ftr 7 (.ref trp)) (htr_8 : px_g ftr 8 (.int 0)) (htr_9 : px_g ftr 9 (.int 0)) (htr_10 : px_g ftr 10 (.ref tro)) (htr_11 : px_g ftr 11 (.ref tra)) (htr_12 : px_g ftr 12 (.ref trv)) (htr_13 : px_g ftr 13 (.ref trl)) (htr_14 : px_g ftr 14 (.int (-1))) (htr_15 : px_g ftr 15 (.int 0)) (htr_16 : px_g ftr 16 (.int 0)) (htr_17 : px_g ftr 17 (.ref trk)) (htrk_0 : px_g ftrk 0 (.ref trs)) (htrk_1 : px_g ftrk 1 (.ref trt)) (htrk_2 : px_g ftrk 2 (.int 0)) (htrk_3 : px_g ftrk 3 (.ref trq)) (htd_1 : px_g ftd 1 (.int 0)) (hrd_1 : px_g frd 1 (.ref rt)) (hrd_2 : px_g frd 2 (.int 0)) (hrd_3 : px_g frd 3 (.int 0)) (hrd_4 : px_g frd 4 (.int 0)) (hrd_5 : px_g frd 5 (.int 302)) (hrd_6 : px_g frd 6 (.int 0)) (hrd_9 : px_g frd 9 (.int 0)) (hrd_10 : px_g frd 10 (.int 0)) (htt_0 : px_g ftt 0 (.ref rd)) (htt_1 : px_g ftt 1 (.ref ti)) (htt_2 : px_g ftt 2 (.int 0)) (htt_3 : px_g ftt 3 (.int 0)) (hpa_2 : px_g fpa 2 (.int 0)) (hmo_0 : px_g fmo 0 (.int 0)) (hmo_2 : px_g fmo 2 (.int 0)) (hmo_3 : px_g fmo 3 (.int 0)) (hmo_4 : px_g fmo 4 (.int 0)) (hmo_5 : px_g fmo 5 (.int 0)) (hmo_6 : px_g fmo 6 (.ref ms)) (hmo_7 : px_g fmo 7 (.ref mh)) (hmo_9 : px_g fmo 9 (.ref mn)) (hmo_11 : px_g fmo 11 (.int 0)) (hmo_12 : px_g fmo 12 (.int 0)) (hmo_13 : px_g fmo 13 (.int 0)) (hmo_15 : px_g fmo 15 (.int 0)) (hmo_19 : px_g fmo 19 (.int 0)) (hmo_20 : px_g fmo 20 (.int 0)) (hmo_21 : px_g fmo 21 (.int 0)) (hmo_22 : px_g fmo 22 (.int 0)) (hmo_27 : px_g fmo 27 (.int 0)) (hms_e1 : fms 1 = 0) {H : Heap} {locs : List Loc} {ls : Array Slot} (hP : va_P D vwCl [px_o x 10 fx, px_i tp (y 0) 940 ftp, px_o g 2 fg, px_l gn (y 2) 6 fgn, px_i gh (y 1) 78 fgh, px_i gc (y 1) 6 fgc, px_i gp (y 1) 52 fgp, px_i go (y 1) 13 fgo, px_i ga (y 1) 6 fga, px_i gv (y 1) 6 fgv, px_i gl (y 1) 6 fgl, px_o gk 3 fgk, px_i gs (y 1) 78 fgs, px_i gt (y 1) 52 fgt, px_i gq (y 1) 6 fgq, px_o tr 2 ftr, px_l trn (y 2) 6 ftrn, px_i trh (y 1) 78 ftrh, px_i trc (y 1) 6 ftrc, px_i trp (y 1) 52 ftrp, px_i tro (y 1) 13 ftro, px_i tra (y 1) 6 ftra, px_i trv (y 1) 6 ftrv, px_i trl (y 1) 6 ftrl, px_o trk 3 ftrk, px_i trs (y 1) 78 ftrs, px_i trt (y 1) 52 ftrt, px_i trq (y 1) 6 ftrq, px_o td 7 ftd, px_o rd 6 frd, px_o tt 9 ftt, px_i ti (y 1) 13 fti, px_o pa 5 fpa, px_o mo 11 fmo, px_i ms (y 1) 765 fms, px_i mh (y 1) 584 (fun _ => 0), px_l mn (y 2) 12 fmn] H) (hD : va_D (fun q : Nat => s.heap.size ≤ q) [px_o x 10 fx, px_i tp (y 0) 940 ftp, px_o g 2 fg, px_l gn (y 2) 6 fgn, px_i gh (y 1) 78 fgh, px_i gc (y 1) 6 fgc, px_i gp (y 1) 52 fgp, px_i go (y 1) 13 fgo, px_i ga (y 1) 6 fga, px_i gv (y 1) 6 fgv, px_i gl (y 1) 6 fgl, px_o gk 3 fgk, px_i gs (y 1) 78 fgs, px_i gt (y 1) 52 fgt, px_i gq (y 1) 6 fgq, px_o tr 2 ftr, px_l trn (y 2) 6 ftrn, px_i trh (y 1) 78 ftrh, px_i trc (y 1) 6 ftrc, px_i trp (y 1) 52 ftrp, px_i tro (y 1) 13 ftro, px_i tra (y 1) 6 ftra, px_i trv (y 1) 6 ftrv, px_i trl (y 1) 6 ftrl, px_o trk 3 ftrk, px_i trs (y 1) 78 ftrs, px_i trt (y 1) 52 ftrt, px_i trq (y 1) 6 ftrq, px_o td 7 ftd, px_o rd 6 frd, px_o tt 9 ftt, px_i ti (y 1) 13 fti, px_o pa 5 fpa, px_o mo 11 fmo, px_i ms (y 1) 765 fms, px_i mh (y 1) 584 (fun _ => 0), px_l mn (y 2) 12 fmn]) (hS : va_S (fun q : Nat => s.heap.size ≤ q) s.heap H locs) (hl : lv_has ls 8 [(4, .int 0), (3, .ref ou), (2, .ref mo), (1, .ref x), (0, .ref b)]) : W p l e room_1 s m #[Value.ref b] below meth c H locs 77 199433 (lw_Z below #[Value.ref b] s) (F0 m 302 ls []) := by
  obtain ⟨hx, hb, hr, hml, hown, hts, hX, hbl, hlocks, hgv⟩ := id C0
  have hg := gw_hts hts
  have hown : s.vm.findClass RL = some m.cls := hown
  have hXX := hYY.x
  generalize hAe : (fun q : Nat => s.heap.size ≤ q) = A at hYY hD hS
  have hA : ∀ q : Nat, s.heap.size ≤ q → A q := fun q h => by rw [← hAe]; exact h
  have hbA : ¬ A b := by rw [← hAe]; exact Nat.not_le.mpr hbl
  refine lv_aload_n hx hb dL_law_302 rfl (lv_at hl 3 rfl) ?_
  have hPc_1 := hP.sub (ws' := [px_o x 10 fx, px_i tp (y 0) 940 ftp, px_o g 2 fg, px_l gn (y 2) 6 fgn, px_i gh (y 1) 78 fgh, px_i gc (y 1) 6 fgc, px_i gp (y 1) 52 fgp, px_i go (y 1) 13 fgo, px_i ga (y 1) 6 fga, px_i gv (y 1) 6 fgv, px_i gl (y 1) 6 fgl, px_o gk 3 fgk, px_i gs (y 1) 78 fgs, px_i gt (y 1) 52 fgt, px_i gq (y 1) 6 fgq, px_o tr 2 ftr, px_l trn (y 2) 6 ftrn, px_i trh (y 1) 78 ftrh, px_i trc (y 1) 6 ftrc, px_i trp (y 1) 52 ftrp, px_i tro (y 1) 13 ftro, px_i tra (y 1) 6 ftra, px_i trv (y 1) 6 ftrv, px_i trl (y 1) 6 ftrl, px_o trk 3 ftrk, px_i trs (y 1) 78 ftrs, px_i trt (y 1) 52 ftrt, px_i trq (y 1) 6 ftrq, px_o td 7 ftd, px_o rd 6 frd, px_o tt 9 ftt, px_i ti (y 1) 13 fti, px_o pa 5 fpa]) [0, 1, 2, 3, 4, 5, 6, 7, 8, 9, 10, 11, 12, 13, 14, 15, 16, 17, 18, 19, 20, 21, 22, 23, 24, 25, 26, 27, 28, 29, 30, 31, 32] rfl
  have hDc_1 := hD.sub (ws' := [px_o x 10 fx, px_i tp (y 0) 940 ftp, px_o g 2 fg, px_l gn (y 2) 6 fgn, px_i gh (y 1) 78 fgh, px_i gc (y 1) 6 fgc, px_i gp (y 1) 52 fgp, px_i go (y 1) 13 fgo, px_i ga (y 1) 6 fga, px_i gv (y 1) 6 fgv, px_i gl (y 1) 6 fgl, px_o gk 3 fgk, px_i gs (y 1) 78 fgs, px_i gt (y 1) 52 fgt, px_i gq (y 1) 6 fgq, px_o tr 2 ftr, px_l trn (y 2) 6 ftrn, px_i trh (y 1) 78 ftrh, px_i trc (y 1) 6 ftrc, px_i trp (y 1) 52 ftrp, px_i tro (y 1) 13 ftro, px_i tra (y 1) 6 ftra, px_i trv (y 1) 6 ftrv, px_i trl (y 1) 6 ftrl, px_o trk 3 ftrk, px_i trs (y 1) 78 ftrs, px_i trt (y 1) 52 ftrt, px_i trq (y 1) 6 ftrq, px_o td 7 ftd, px_o rd 6 frd, px_o tt 9 ftt, px_i ti (y 1) 13 fti, px_o pa 5 fpa]) [0, 1, 2, 3, 4, 5, 6, 7, 8, 9, 10, 11, 12, 13, 14, 15, 16, 17, 18, 19, 20, 21, 22, 23, 24, 25, 26, 27, 28, 29, 30, 31, 32] (by decide +kernel) rfl
  have hFc_1 := va_free (wc := [px_o x 10 fx, px_i tp (y 0) 940 ftp, px_o g 2 fg, px_l gn (y 2) 6 fgn, px_i gh (y 1) 78 fgh, px_i gc (y 1) 6 fgc, px_i gp (y 1) 52 fgp, px_i go (y 1) 13 fgo, px_i ga (y 1) 6 fga, px_i gv (y 1) 6 fgv, px_i gl (y 1) 6 fgl, px_o gk 3 fgk, px_i gs (y 1) 78 fgs, px_i gt (y 1) 52 fgt, px_i gq (y 1) 6 fgq, px_o tr 2 ftr, px_l trn (y 2) 6 ftrn, px_i trh (y 1) 78 ftrh, px_i trc (y 1) 6 ftrc, px_i trp (y 1) 52 ftrp, px_i tro (y 1) 13 ftro, px_i tra (y 1) 6 ftra, px_i trv (y 1) 6 ftrv, px_i trl (y 1) 6 ftrl, px_o trk 3 ftrk, px_i trs (y 1) 78 ftrs, px_i trt (y 1) 52 ftrt, px_i trq (y 1) 6 ftrq, px_o td 7 ftd, px_o rd 6 frd, px_o tt 9 ftt, px_i ti (y 1) 13 fti, px_o pa 5 fpa]) hD hS hA [0, 1, 2, 3, 4, 5, 6, 7, 8, 9, 10, 11, 12, 13, 14, 15, 16, 17, 18, 19, 20, 21, 22, 23, 24, 25, 26, 27, 28, 29, 30, 31, 32] rfl
  refine va_calli (va_runV (As := []) (rest := []) ⟨hx, hb, hml, hown, hg⟩ (c_X10_table l D y H.size x fx tp g tr td rd tt pa ftp fg gn gh gc gp go ga gv gl gk fgn fgh fgc fgp fgo fga fgv fgl fgk gs gt gq fgs fgt fgq ftr trn trh trc trp tro tra trv trl trk ftrn ftrh ftrc ftrp ftro ftra ftrv ftrl ftrk trs trt trq ftrs ftrt ftrq ftd frd rt ftt ti fti fpa hx_0 hx_1 hx_2 hx_3 hx_4 hx_5 hx_6 hx_7 hx_10 hg_0 hg_1 hg_2 hg_3 hg_4 hg_5 hg_6 hg_7 hg_8 hg_9 hg_10 hg_11 hg_12 hg_13 hg_14 hg_15 hg_16 hg_17 hgk_0 hgk_1 hgk_2 hgk_3 htr_0 htr_1 htr_2 htr_3 htr_4 htr_5 htr_6 htr_7 htr_8 htr_9 htr_10 htr_11 htr_12 htr_13 htr_14 htr_15 htr_16 htr_17 htrk_0 htrk_1 htrk_2 htrk_3 htd_1 hrd_1 hrd_2 hrd_3 hrd_4 hrd_5 hrd_6 hrd_9 hrd_10 htt_0 htt_1 htt_2 htt_3 hpa_2) (cwV 0 hg (px_gV q_2_176 q_2_177 q_2_178 q_1_1 q_2_179) rfl rfl rfl (by decide +kernel) ⟨Nat.le_of_ble_eq_true rfl, Nat.le_of_ble_eq_true rfl⟩) (px_preV hK hPc_1 hDc_1 (ci := 10) (q0 := 0) rfl rfl) rfl rfl hl.1 rfl (lv_room (Nat.le_of_ble_eq_true rfl)) dL_law_303 ⟨Nat.le_of_ble_eq_true rfl, Nat.le_of_ble_eq_true rfl⟩) hS (fun q _ h => hFc_1 q h) hFc_1 (fun r_1 u_1 t_1 H_1 locs_1 ht_1 hvm_1 hw_1 hB_1 hz_1 hk_1 hS_1 => ?_)
  refine W.cs (cells' := 77) (slots' := 199433) rfl rfl ?_
  obtain ⟨hP_1, hD_1⟩ := va_join (wr := [px_o mo 11 fmo, px_i ms (y 1) 765 fms, px_i mh (y 1) 584 (fun _ => 0), px_l mn (y 2) 12 fmn]) (w1 := []) hP hD [0, 1, 2, 3, 4, 5, 6, 7, 8, 9, 10, 11, 12, 13, 14, 15, 16, 17, 18, 19, 20, 21, 22, 23, 24, 25, 26, 27, 28, 29, 30, 31, 32] [33, 34, 35, 36] rfl rfl (by decide +kernel) (by decide +kernel) hk_1 hFc_1 (fun k q h => by simp at h) ⟨fun i j p q h => by simp at h, fun k q h => by simp at h⟩
  clear hP hD hS hPc_1 hDc_1 hFc_1 hz_1 hk_1 hvm_1 ht_1 hB_1
  have hP : va_P D vwCl [px_o mo 11 fmo, px_i ms (y 1) 765 fms, px_i mh (y 1) 584 (fun _ => 0), px_l mn (y 2) 12 fmn] H_1 := hP_1
  have hD : va_D A [px_o mo 11 fmo, px_i ms (y 1) 765 fms, px_i mh (y 1) 584 (fun _ => 0), px_l mn (y 2) 12 fmn] := hD_1
  have hS := hS_1
  clear hP_1 hD_1 hS_1
  obtain rfl : r_1 = 0 := hw_1
  refine lv_aload_n hx hb dL_law_306 rfl (lv_at hl 2 rfl) ?_
  have hPc_2 := hP.sub (ws' := [px_o mo 11 fmo, px_i ms (y 1) 765 fms, px_i mh (y 1) 584 (fun _ => 0), px_l mn (y 2) 12 fmn]) [0, 1, 2, 3] rfl
  have hDc_2 := hD.sub (ws' := [px_o mo 11 fmo, px_i ms (y 1) 765 fms, px_i mh (y 1) 584 (fun _ => 0), px_l mn (y 2) 12 fmn]) [0, 1, 2, 3] (by decide +kernel) rfl
  have hFc_2 := va_free (wc := [px_o mo 11 fmo, px_i ms (y 1) 765 fms, px_i mh (y 1) 584 (fun _ => 0), px_l mn (y 2) 12 fmn]) hD hS hA [0, 1, 2, 3] rfl
  refine va_calli (va_runV (As := []) (rest := [.int 0]) ⟨hx, hb, hml, hown, hg⟩ (c_X11_table l D y H_1.size mo fmo ms mh mn fms fmn hmo_0 hmo_2 hmo_3 hmo_4 hmo_5 hmo_6 hmo_7 hmo_9 hmo_11 hmo_12 hmo_13 hmo_15 hmo_19 hmo_20 hmo_21 hmo_22 hmo_27 hms_e1) (cwV 0 hg (px_gV q_7_83 q_7_84 q_7_85 q_1_15 q_7_86) rfl rfl rfl (by decide +kernel) ⟨Nat.le_of_ble_eq_true rfl, Nat.le_of_ble_eq_true rfl⟩) (px_preV hK hPc_2 hDc_2 (ci := 11) (q0 := 0) rfl rfl) rfl rfl hl.1 rfl (lv_room (Nat.le_of_ble_eq_true rfl)) dL_law_307 ⟨Nat.le_of_ble_eq_true rfl, Nat.le_of_ble_eq_true rfl⟩) hS (fun q _ h => hFc_2 q h) hFc_2 (fun r_2 u_2 t_2 H_2 locs_2 ht_2 hvm_2 hw_2 hB_2 hz_2 hk_2 hS_2 => ?_)
  refine W.cs (cells' := 77) (slots' := 199433) rfl rfl ?_
  obtain ⟨hP_2, hD_2⟩ := va_join (wr := []) (w1 := []) hP hD [0, 1, 2, 3] [] rfl rfl (by decide +kernel) (by decide +kernel) hk_2 hFc_2 (fun k q h => by simp at h) ⟨fun i j p q h => by simp at h, fun k q h => by simp at h⟩
  clear hP hD hS hPc_2 hDc_2 hFc_2 hz_2 hk_2 hvm_2 ht_2 hB_2
  have hP : va_P D vwCl [] H_2 := hP_2
  have hD : va_D A [] := hD_2
  have hS := hS_2
  clear hP_2 hD_2 hS_2
  obtain rfl : r_2 = 0 := hw_2
  refine lv_icmp_eq (tgt := 1472) hx hb dL_law_310 (by decide) (fun _ => ?_) (fun c_3 => absurd c_3 (by decide))
  refine W.widen (k := 600002) (n := 7302232) (Nat.le_of_ble_eq_true rfl) (Nat.le_of_ble_eq_true rfl) ?_
  exact law_end C0 hAe hS (lv_sub hl [0, 4] rfl)

set_option maxHeartbeats 4000000 in
set_option maxRecDepth 100000 in
theorem law_3 {p : Program} {l : Launch} {e : Env} {s : State} {m : MethodId} {below : List Frame} {meth : Method} {c : Code} {b : Nat} {xs : Nat → Int32} {D : va_G} {y : Nat → ClassId} {ad : Nat → Nat} {bb : Nat → Int32} (hst : l.stackTraces = false) (C0 : lw_At p s m meth c b 6 xs) (hK : va_K D vwCl (px_tys y) s) (hYY : px_Y ad bb (fun q : Nat => s.heap.size ≤ q) s s.heap) (x : Nat) (mo : Nat) (ou : Nat) (fx : List Value) (fmo : List Value) (hx_2 : px_g fx 2 (.int 0)) (hmo_0 : px_g fmo 0 (.int 0)) (hmo_15 : px_g fmo 15 (.int 0)) {H : Heap} {locs : List Loc} {ls : Array Slot} (hP : va_P D vwCl [px_o x 10 fx, px_o mo 11 fmo] H) (hD : va_D (fun q : Nat => s.heap.size ≤ q) [px_o x 10 fx, px_o mo 11 fmo]) (hS : va_S (fun q : Nat => s.heap.size ≤ q) s.heap H locs) (hl : lv_has ls 8 [(4, .int 0), (3, .ref ou), (2, .ref mo), (1, .ref x), (0, .ref b)]) : W p l e room_1 s m #[Value.ref b] below meth c H locs 77 199433 (lw_Z below #[Value.ref b] s) (F0 m 315 ls []) := by
  obtain ⟨hx, hb, hr, hml, hown, hts, hX, hbl, hlocks, hgv⟩ := id C0
  have hg := gw_hts hts
  have hown : s.vm.findClass RL = some m.cls := hown
  have hXX := hYY.x
  generalize hAe : (fun q : Nat => s.heap.size ≤ q) = A at hYY hD hS
  have hA : ∀ q : Nat, s.heap.size ≤ q → A q := fun q h => by rw [← hAe]; exact h
  have hbA : ¬ A b := by rw [← hAe]; exact Nat.not_le.mpr hbl
  refine lv_aload_n hx hb dL_law_315 rfl (lv_at hl 3 rfl) ?_
  have hPc_1 := hP.sub (ws' := [px_o x 10 fx]) [0] rfl
  have hDc_1 := hD.sub (ws' := [px_o x 10 fx]) [0] (by decide +kernel) rfl
  refine vp_callSi (va_Run.run (va_runV (As := []) (rest := []) ⟨hx, hb, hml, hown, hg⟩ (c_X10_fault l D y H.size x fx hx_2) (cwV 0 hg (px_gV q_3_107 q_3_108 q_3_109 q_1_1 q_3_110) rfl rfl rfl (by decide +kernel) ⟨Nat.le_of_ble_eq_true rfl, Nat.le_of_ble_eq_true rfl⟩) (px_preV hK hPc_1 hDc_1 (ci := 10) (q0 := 0) rfl rfl) rfl rfl hl.1 rfl (lv_room (Nat.le_of_ble_eq_true rfl)) dL_law_316 ⟨Nat.le_of_ble_eq_true rfl, Nat.le_of_ble_eq_true rfl⟩)) (fun r_1 hw_1 => ?_)
  clear hPc_1 hDc_1
  obtain rfl : r_1 = 0 := hw_1
  refine lv_aload_n hx hb dL_law_319 rfl (lv_at hl 2 rfl) ?_
  have hPc_2 := hP.sub (ws' := [px_o mo 11 fmo]) [1] rfl
  have hDc_2 := hD.sub (ws' := [px_o mo 11 fmo]) [1] (by decide +kernel) rfl
  have hFc_2 := va_free (wc := [px_o mo 11 fmo]) hD hS hA [1] rfl
  refine va_calli (va_runV (As := []) (rest := [.int 0]) ⟨hx, hb, hml, hown, hg⟩ (c_X11_fault l D y H.size mo fmo hmo_0 hmo_15) (cwV 0 hg (px_gV q_7_187 q_7_188 q_7_189 q_1_15 q_7_190) rfl rfl rfl (by decide +kernel) ⟨Nat.le_of_ble_eq_true rfl, Nat.le_of_ble_eq_true rfl⟩) (px_preV hK hPc_2 hDc_2 (ci := 11) (q0 := 0) rfl rfl) rfl rfl hl.1 rfl (lv_room (Nat.le_of_ble_eq_true rfl)) dL_law_320 ⟨Nat.le_of_ble_eq_true rfl, Nat.le_of_ble_eq_true rfl⟩) hS (fun q _ h => hFc_2 q h) hFc_2 (fun r_2 u_2 t_2 H_2 locs_2 ht_2 hvm_2 hw_2 hB_2 hz_2 hk_2 hS_2 => ?_)
  refine W.cs (cells' := 77) (slots' := 199433) rfl rfl ?_
  obtain ⟨hP_2, hD_2⟩ := va_join (wr := [px_o x 10 fx]) (w1 := []) hP hD [1] [0] rfl rfl (by decide +kernel) (by decide +kernel) hk_2 hFc_2 (fun k q h => by simp at h) ⟨fun i j p q h => by simp at h, fun k q h => by simp at h⟩
  clear hP hD hS hPc_2 hDc_2 hFc_2 hz_2 hk_2 hvm_2 ht_2 hB_2
  have hP : va_P D vwCl [px_o x 10 fx] H_2 := hP_2
  have hD : va_D A [px_o x 10 fx] := hD_2
  have hS := hS_2
  clear hP_2 hD_2 hS_2
  obtain rfl : r_2 = 0 := hw_2
  refine lv_icmp_eq (tgt := 1472) hx hb dL_law_323 (by decide) (fun _ => ?_) (fun c_3 => absurd c_3 (by decide))
  refine W.widen (k := 600002) (n := 7302232) (Nat.le_of_ble_eq_true rfl) (Nat.le_of_ble_eq_true rfl) ?_
  exact law_end C0 hAe hS (lv_sub hl [0, 4] rfl)

set_option maxHeartbeats 4000000 in
set_option maxRecDepth 100000 in
theorem law_4 {p : Program} {l : Launch} {e : Env} {s : State} {m : MethodId} {below : List Frame} {meth : Method} {c : Code} {b : Nat} {xs : Nat → Int32} {D : va_G} {y : Nat → ClassId} {ad : Nat → Nat} {bb : Nat → Int32} (hst : l.stackTraces = false) (C0 : lw_At p s m meth c b 6 xs) (hK : va_K D vwCl (px_tys y) s) (hYY : px_Y ad bb (fun q : Nat => s.heap.size ≤ q) s s.heap) (x : Nat) (mo : Nat) (ou : Nat) (fx : List Value) (g : Nat) (fg : List Value) (fmo : List Value) (ms : Nat) (fms : Nat → Int32) (hx_3 : px_g fx 3 (.ref g)) (hg_1 : px_g fg 1 (.int 0)) (hmo_0 : px_g fmo 0 (.int 0)) (hmo_6 : px_g fmo 6 (.ref ms)) (hms_e1 : fms 1 = 0) {H : Heap} {locs : List Loc} {ls : Array Slot} (hP : va_P D vwCl [px_o x 10 fx, px_o g 2 fg, px_o mo 11 fmo, px_i ms (y 1) 765 fms] H) (hD : va_D (fun q : Nat => s.heap.size ≤ q) [px_o x 10 fx, px_o g 2 fg, px_o mo 11 fmo, px_i ms (y 1) 765 fms]) (hS : va_S (fun q : Nat => s.heap.size ≤ q) s.heap H locs) (hl : lv_has ls 8 [(4, .int 0), (3, .ref ou), (2, .ref mo), (1, .ref x), (0, .ref b)]) : W p l e room_1 s m #[Value.ref b] below meth c H locs 77 199433 (lw_Z below #[Value.ref b] s) (F0 m 328 ls []) := by
  obtain ⟨hx, hb, hr, hml, hown, hts, hX, hbl, hlocks, hgv⟩ := id C0
  have hg := gw_hts hts
  have hown : s.vm.findClass RL = some m.cls := hown
  have hXX := hYY.x
  generalize hAe : (fun q : Nat => s.heap.size ≤ q) = A at hYY hD hS
  have hA : ∀ q : Nat, s.heap.size ≤ q → A q := fun q h => by rw [← hAe]; exact h
  have hbA : ¬ A b := by rw [← hAe]; exact Nat.not_le.mpr hbl
  refine lv_aload_n hx hb dL_law_328 rfl (lv_at hl 3 rfl) ?_
  refine lv_aload_n hx hb dL_law_329 rfl (lv_at hl 4 rfl) ?_
  refine lv_iload hx hb dL_law_330 (lv_at hl 0 rfl) ?_
  refine lv_iconst (v := 1) hx hb dL_law_332 (by decide) ?_
  refine lv_iadd hx hb dL_law_333 ?_
  refine px_top (v := 1) (by decide) ?_
  refine va_sld hx hb hX hbl hbA hS (i := 1) (px_in (by decide)) dL_law_334 ?_
  refine px_top (v := xs 1) rfl ?_
  refine lv_aload_n hx hb dL_law_335 rfl (lv_at hl 4 rfl) ?_
  refine lv_iload hx hb dL_law_336 (lv_at hl 0 rfl) ?_
  refine lv_iconst (v := 2) hx hb dL_law_338 (by decide) ?_
  refine lv_iadd hx hb dL_law_339 ?_
  refine px_top (v := 2) (by decide) ?_
  refine va_sld hx hb hX hbl hbA hS (i := 2) (px_in (by decide)) dL_law_340 ?_
  refine px_top (v := xs 2) rfl ?_
  refine lv_aload_n hx hb dL_law_341 rfl (lv_at hl 1 rfl) ?_
  have hPc_1 := hP.sub (ws' := [px_o x 10 fx, px_o g 2 fg]) [0, 1] rfl
  have hDc_1 := hD.sub (ws' := [px_o x 10 fx, px_o g 2 fg]) [0, 1] (by decide +kernel) rfl
  have hFc_1 := va_free (wc := [px_o x 10 fx, px_o g 2 fg]) hD hS hA [0, 1] rfl
  refine va_calli (vx_runSW (As := [.ref x, .int (xs 1), .int (xs 2), .ref ou]) (rest := []) ⟨hx, hb, hml, hown, hg⟩ (c_L_hand l D y H.size ad bb hst x ou fx g fg (xs 1) (xs 2) hx_3 hg_1) (vx_cwSW 4 hg (px_gSW q_5_225 q_5_226 q_1_0 q_5_227) rfl rfl rfl (by decide +kernel) ⟨Nat.le_of_ble_eq_true rfl, Nat.le_of_ble_eq_true rfl⟩) (px_preSY hK hPc_1 hDc_1 hYY hS hFc_1) rfl rfl hl.1 rfl (lv_room (Nat.le_of_ble_eq_true rfl)) dL_law_342 ⟨Nat.le_of_ble_eq_true rfl, Nat.le_of_ble_eq_true rfl⟩) hS (fun q _ h => hFc_1 q h) hFc_1 (fun r_1 u_1 t_1 H_1 locs_1 ht_1 hvm_1 hw_1 hB_1 hz_1 hk_1 hS_1 => ?_)
  refine W.cs (cells' := 78) (slots' := 199439) rfl rfl ?_
  obtain ⟨hP_1, hD_1⟩ := va_join (wr := [px_o mo 11 fmo, px_i ms (y 1) 765 fms]) (w1 := []) hP hD [0, 1] [2, 3] rfl rfl (by decide +kernel) (by decide +kernel) hk_1 hFc_1 (fun k q h => by simp at h) ⟨fun i j p q h => by simp at h, fun k q h => by simp at h⟩
  clear hP hD hS hPc_1 hDc_1 hFc_1 hz_1 hk_1 hvm_1 ht_1 hB_1
  have hP : va_P D vwCl [px_o mo 11 fmo, px_i ms (y 1) 765 fms] H_1 := hP_1
  have hD : va_D A [px_o mo 11 fmo, px_i ms (y 1) 765 fms] := hD_1
  have hS := hS_1
  clear hP_1 hD_1 hS_1
  obtain rfl : r_1 = 1 := hw_1
  refine lv_istore (lv' := [(5, .int 1), (4, .int 0), (3, .ref ou), (2, .ref mo), (1, .ref x), (0, .ref b)]) hx hb dL_law_345 hl (by decide) rfl (fun ls hl => ?_)
  refine lv_aload_n hx hb dL_law_347 rfl (lv_at hl 3 rfl) ?_
  refine lv_aload_n hx hb dL_law_348 rfl (lv_at hl 5 rfl) ?_
  refine lv_iload hx hb dL_law_349 (lv_at hl 1 rfl) ?_
  refine lv_iconst (v := 1) hx hb dL_law_351 (by decide) ?_
  refine lv_iadd hx hb dL_law_352 ?_
  refine px_top (v := 1) (by decide) ?_
  refine va_sld hx hb hX hbl hbA hS (i := 1) (px_in (by decide)) dL_law_353 ?_
  refine px_top (v := xs 1) rfl ?_
  refine lv_aload_n hx hb dL_law_354 rfl (lv_at hl 5 rfl) ?_
  refine lv_iload hx hb dL_law_355 (lv_at hl 1 rfl) ?_
  refine lv_iconst (v := 2) hx hb dL_law_357 (by decide) ?_
  refine lv_iadd hx hb dL_law_358 ?_
  refine px_top (v := 2) (by decide) ?_
  refine va_sld hx hb hX hbl hbA hS (i := 2) (px_in (by decide)) dL_law_359 ?_
  refine px_top (v := xs 2) rfl ?_
  have hPc_2 := hP.sub (ws' := [px_o mo 11 fmo, px_i ms (y 1) 765 fms]) [0, 1] rfl
  have hDc_2 := hD.sub (ws' := [px_o mo 11 fmo, px_i ms (y 1) 765 fms]) [0, 1] (by decide +kernel) rfl
  have hFc_2 := va_free (wc := [px_o mo 11 fmo, px_i ms (y 1) 765 fms]) hD hS hA [0, 1] rfl
  refine va_calli (va_runV (As := [.int (xs 1), .int (xs 2)]) (rest := []) ⟨hx, hb, hml, hown, hg⟩ (c_X11_hand l D y H_1.size mo fmo ms fms (xs 1) (xs 2) hmo_0 hmo_6 hms_e1) (cwV 2 hg (px_gV q_7_191 q_7_192 q_7_193 q_1_15 q_7_194) rfl rfl rfl (by decide +kernel) ⟨Nat.le_of_ble_eq_true rfl, Nat.le_of_ble_eq_true rfl⟩) (px_preV hK hPc_2 hDc_2 (ci := 11) (q0 := 0) rfl rfl) rfl rfl hl.1 rfl (lv_room (Nat.le_of_ble_eq_true rfl)) dL_law_360 ⟨Nat.le_of_ble_eq_true rfl, Nat.le_of_ble_eq_true rfl⟩) hS (fun q _ h => hFc_2 q h) hFc_2 (fun r_2 u_2 t_2 H_2 locs_2 ht_2 hvm_2 hw_2 hB_2 hz_2 hk_2 hS_2 => ?_)
  refine W.cs (cells' := 78) (slots' := 199439) rfl rfl ?_
  obtain ⟨hP1_2, hD1_2⟩ := hB_2
  rw [ht_2] at hP1_2
  obtain ⟨hP_2, hD_2⟩ := va_join (wr := []) (w1 := [px_o mo 11 (fmo.set 0 (.int 1)), px_i ms (y 1) 765 fms]) hP hD [0, 1] [] rfl rfl (by decide +kernel) (by decide +kernel) hk_2 hFc_2 hP1_2 hD1_2
  clear hP hD hS hPc_2 hDc_2 hFc_2 hz_2 hk_2 hvm_2 ht_2 hP1_2 hD1_2
  have hP : va_P D vwCl [px_o mo 11 (fmo.set 0 (.int 1)), px_i ms (y 1) 765 fms] H_2 := hP_2
  have hD : va_D A [px_o mo 11 (fmo.set 0 (.int 1)), px_i ms (y 1) 765 fms] := hD_2
  have hS := hS_2
  clear hP_2 hD_2 hS_2
  obtain rfl : r_2 = 0 := hw_2
  refine lv_istore (lv' := [(6, .int 0), (5, .int 1), (4, .int 0), (3, .ref ou), (2, .ref mo), (1, .ref x), (0, .ref b)]) hx hb dL_law_363 hl (by decide) rfl (fun ls hl => ?_)
  refine lv_aload_n hx hb dL_law_365 rfl (lv_at hl 4 rfl) ?_
  have hPc_3 := hP.sub (ws' := [px_o mo 11 (fmo.set 0 (.int 1))]) [0] rfl
  have hDc_3 := hD.sub (ws' := [px_o mo 11 (fmo.set 0 (.int 1))]) [0] (by decide +kernel) rfl
  refine vp_callSi (va_Run.run (va_runV (As := []) (rest := []) ⟨hx, hb, hml, hown, hg⟩ (c_X11_thrown_1 l D y H_2.size mo (fmo.set 0 (.int 1)) (px_ss hmo_0)) (cwV 0 hg (px_gV q_6_84 q_6_85 q_6_86 q_1_15 q_6_87) rfl rfl rfl (by decide +kernel) ⟨Nat.le_of_ble_eq_true rfl, Nat.le_of_ble_eq_true rfl⟩) (px_preV hK hPc_3 hDc_3 (ci := 11) (q0 := 0) rfl rfl) rfl rfl hl.1 rfl (lv_room (Nat.le_of_ble_eq_true rfl)) dL_law_366 ⟨Nat.le_of_ble_eq_true rfl, Nat.le_of_ble_eq_true rfl⟩)) (fun r_3 hw_3 => ?_)
  clear hPc_3 hDc_3
  obtain rfl : r_3 = 1 := hw_3
  refine lv_iload hx hb dL_law_369 (lv_at hl 1 rfl) ?_
  refine lv_icmp_eq (tgt := 376) hx hb dL_law_371 (by decide) (fun _ => ?_) (fun c_4 => absurd c_4 (by decide))
  refine lv_iload hx hb dL_law_376 (lv_at hl 1 rfl) ?_
  refine lv_if_ne (tgt := 393) hx hb dL_law_378 (by decide) (fun _ => ?_) (fun c_5 => absurd c_5 (by decide))
  refine lv_goto (tgt := 1472) hx hb dL_law_393 (by decide) ?_
  refine W.widen (k := 600002) (n := 7302232) (Nat.le_of_ble_eq_true rfl) (Nat.le_of_ble_eq_true rfl) ?_
  exact law_end C0 hAe hS (lv_sub hl [2, 6] rfl)

set_option maxHeartbeats 4000000 in
set_option maxRecDepth 100000 in
theorem law_5 {p : Program} {l : Launch} {e : Env} {s : State} {m : MethodId} {below : List Frame} {meth : Method} {c : Code} {b : Nat} {xs : Nat → Int32} {D : va_G} {y : Nat → ClassId} {ad : Nat → Nat} {bb : Nat → Int32} (hst : l.stackTraces = false) (C0 : lw_At p s m meth c b 6 xs) (hK : va_K D vwCl (px_tys y) s) (hYY : px_Y ad bb (fun q : Nat => s.heap.size ≤ q) s s.heap) (x : Nat) (mo : Nat) (ou : Nat) (fx : List Value) (g : Nat) (fg : List Value) (fmo : List Value) (ms : Nat) (fms : Nat → Int32) (hx_3 : px_g fx 3 (.ref g)) (hg_1 : px_g fg 1 (.int 0)) (hmo_0 : px_g fmo 0 (.int 0)) (hmo_6 : px_g fmo 6 (.ref ms)) (hms_e1 : fms 1 = 0) {H : Heap} {locs : List Loc} {ls : Array Slot} (hP : va_P D vwCl [px_o x 10 fx, px_o g 2 fg, px_o mo 11 fmo, px_i ms (y 1) 765 fms] H) (hD : va_D (fun q : Nat => s.heap.size ≤ q) [px_o x 10 fx, px_o g 2 fg, px_o mo 11 fmo, px_i ms (y 1) 765 fms]) (hS : va_S (fun q : Nat => s.heap.size ≤ q) s.heap H locs) (hl : lv_has ls 8 [(4, .int 0), (3, .ref ou), (2, .ref mo), (1, .ref x), (0, .ref b)]) : W p l e room_1 s m #[Value.ref b] below meth c H locs 77 199433 (lw_Z below #[Value.ref b] s) (F0 m 396 ls []) := by
  obtain ⟨hx, hb, hr, hml, hown, hts, hX, hbl, hlocks, hgv⟩ := id C0
  have hg := gw_hts hts
  have hown : s.vm.findClass RL = some m.cls := hown
  have hXX := hYY.x
  generalize hAe : (fun q : Nat => s.heap.size ≤ q) = A at hYY hD hS
  have hA : ∀ q : Nat, s.heap.size ≤ q → A q := fun q h => by rw [← hAe]; exact h
  have hbA : ¬ A b := by rw [← hAe]; exact Nat.not_le.mpr hbl
  refine lv_aload_n hx hb dL_law_396 rfl (lv_at hl 3 rfl) ?_
  refine lv_aload_n hx hb dL_law_397 rfl (lv_at hl 4 rfl) ?_
  refine lv_iload hx hb dL_law_398 (lv_at hl 0 rfl) ?_
  refine lv_iconst (v := 1) hx hb dL_law_400 (by decide) ?_
  refine lv_iadd hx hb dL_law_401 ?_
  refine px_top (v := 1) (by decide) ?_
  refine va_sld hx hb hX hbl hbA hS (i := 1) (px_in (by decide)) dL_law_402 ?_
  refine px_top (v := xs 1) rfl ?_
  refine lv_aload_n hx hb dL_law_403 rfl (lv_at hl 4 rfl) ?_
  refine lv_iload hx hb dL_law_404 (lv_at hl 0 rfl) ?_
  refine lv_iconst (v := 2) hx hb dL_law_406 (by decide) ?_
  refine lv_iadd hx hb dL_law_407 ?_
  refine px_top (v := 2) (by decide) ?_
  refine va_sld hx hb hX hbl hbA hS (i := 2) (px_in (by decide)) dL_law_408 ?_
  refine px_top (v := xs 2) rfl ?_
  have hPc_1 := hP.sub (ws' := [px_o x 10 fx, px_o g 2 fg]) [0, 1] rfl
  have hDc_1 := hD.sub (ws' := [px_o x 10 fx, px_o g 2 fg]) [0, 1] (by decide +kernel) rfl
  refine vp_callSi (va_Run.run (va_runV (As := [.int (xs 1), .int (xs 2)]) (rest := []) ⟨hx, hb, hml, hown, hg⟩ (c_X10_person l D y H.size x fx g fg (xs 1) (xs 2) hx_3 hg_1) (cwV 2 hg (px_gV q_3_111 q_3_112 q_3_113 q_1_1 q_3_114) rfl rfl rfl (by decide +kernel) ⟨Nat.le_of_ble_eq_true rfl, Nat.le_of_ble_eq_true rfl⟩) (px_preV hK hPc_1 hDc_1 (ci := 10) (q0 := 0) rfl rfl) rfl rfl hl.1 rfl (lv_room (Nat.le_of_ble_eq_true rfl)) dL_law_409 ⟨Nat.le_of_ble_eq_true rfl, Nat.le_of_ble_eq_true rfl⟩)) (fun r_1 hw_1 => ?_)
  clear hPc_1 hDc_1
  obtain rfl : r_1 = (-1) := hw_1
  refine lv_aload_n hx hb dL_law_412 rfl (lv_at hl 2 rfl) ?_
  refine lv_aload_n hx hb dL_law_413 rfl (lv_at hl 4 rfl) ?_
  refine lv_iload hx hb dL_law_414 (lv_at hl 0 rfl) ?_
  refine lv_iconst (v := 1) hx hb dL_law_416 (by decide) ?_
  refine lv_iadd hx hb dL_law_417 ?_
  refine px_top (v := 1) (by decide) ?_
  refine va_sld hx hb hX hbl hbA hS (i := 1) (px_in (by decide)) dL_law_418 ?_
  refine px_top (v := xs 1) rfl ?_
  refine lv_aload_n hx hb dL_law_419 rfl (lv_at hl 4 rfl) ?_
  refine lv_iload hx hb dL_law_420 (lv_at hl 0 rfl) ?_
  refine lv_iconst (v := 2) hx hb dL_law_422 (by decide) ?_
  refine lv_iadd hx hb dL_law_423 ?_
  refine px_top (v := 2) (by decide) ?_
  refine va_sld hx hb hX hbl hbA hS (i := 2) (px_in (by decide)) dL_law_424 ?_
  refine px_top (v := xs 2) rfl ?_
  have hPc_2 := hP.sub (ws' := [px_o mo 11 fmo, px_i ms (y 1) 765 fms]) [2, 3] rfl
  have hDc_2 := hD.sub (ws' := [px_o mo 11 fmo, px_i ms (y 1) 765 fms]) [2, 3] (by decide +kernel) rfl
  have hFc_2 := va_free (wc := [px_o mo 11 fmo, px_i ms (y 1) 765 fms]) hD hS hA [2, 3] rfl
  refine va_calli (va_runV (As := [.int (xs 1), .int (xs 2)]) (rest := [.int (-1)]) ⟨hx, hb, hml, hown, hg⟩ (c_X11_person l D y H.size mo fmo ms fms (xs 1) (xs 2) hmo_0 hmo_6 hms_e1) (cwV 2 hg (px_gV q_7_207 q_7_208 q_7_209 q_1_15 q_7_210) rfl rfl rfl (by decide +kernel) ⟨Nat.le_of_ble_eq_true rfl, Nat.le_of_ble_eq_true rfl⟩) (px_preV hK hPc_2 hDc_2 (ci := 11) (q0 := 0) rfl rfl) rfl rfl hl.1 rfl (lv_room (Nat.le_of_ble_eq_true rfl)) dL_law_425 ⟨Nat.le_of_ble_eq_true rfl, Nat.le_of_ble_eq_true rfl⟩) hS (fun q _ h => hFc_2 q h) hFc_2 (fun r_2 u_2 t_2 H_2 locs_2 ht_2 hvm_2 hw_2 hB_2 hz_2 hk_2 hS_2 => ?_)
  refine W.cs (cells' := 77) (slots' := 199433) rfl rfl ?_
  obtain ⟨hP_2, hD_2⟩ := va_join (wr := [px_o x 10 fx, px_o g 2 fg]) (w1 := []) hP hD [2, 3] [0, 1] rfl rfl (by decide +kernel) (by decide +kernel) hk_2 hFc_2 (fun k q h => by simp at h) ⟨fun i j p q h => by simp at h, fun k q h => by simp at h⟩
  clear hP hD hS hPc_2 hDc_2 hFc_2 hz_2 hk_2 hvm_2 ht_2 hB_2
  have hP : va_P D vwCl [px_o x 10 fx, px_o g 2 fg] H_2 := hP_2
  have hD : va_D A [px_o x 10 fx, px_o g 2 fg] := hD_2
  have hS := hS_2
  clear hP_2 hD_2 hS_2
  obtain rfl : r_2 = (-1) := hw_2
  refine lv_icmp_eq (tgt := 1472) hx hb dL_law_428 (by decide) (fun _ => ?_) (fun c_3 => absurd c_3 (by decide))
  refine W.widen (k := 600002) (n := 7302232) (Nat.le_of_ble_eq_true rfl) (Nat.le_of_ble_eq_true rfl) ?_
  exact law_end C0 hAe hS (lv_sub hl [0, 4] rfl)

set_option maxHeartbeats 4000000 in
set_option maxRecDepth 100000 in
theorem law_6 {p : Program} {l : Launch} {e : Env} {s : State} {m : MethodId} {below : List Frame} {meth : Method} {c : Code} {b : Nat} {xs : Nat → Int32} {D : va_G} {y : Nat → ClassId} {ad : Nat → Nat} {bb : Nat → Int32} (hst : l.stackTraces = false) (C0 : lw_At p s m meth c b 6 xs) (hK : va_K D vwCl (px_tys y) s) (hYY : px_Y ad bb (fun q : Nat => s.heap.size ≤ q) s s.heap) (x : Nat) (mo : Nat) (ou : Nat) (fx : List Value) (g : Nat) (fg : List Value) (fmo : List Value) (ms : Nat) (fms : Nat → Int32) (hx_3 : px_g fx 3 (.ref g)) (hg_0 : px_g fg 0 (.int 0)) (hmo_0 : px_g fmo 0 (.int 0)) (hmo_6 : px_g fmo 6 (.ref ms)) (hms_e0 : fms 0 = 0) {H : Heap} {locs : List Loc} {ls : Array Slot} (hP : va_P D vwCl [px_o x 10 fx, px_o g 2 fg, px_o mo 11 fmo, px_i ms (y 1) 765 fms] H) (hD : va_D (fun q : Nat => s.heap.size ≤ q) [px_o x 10 fx, px_o g 2 fg, px_o mo 11 fmo, px_i ms (y 1) 765 fms]) (hS : va_S (fun q : Nat => s.heap.size ≤ q) s.heap H locs) (hl : lv_has ls 8 [(4, .int 0), (3, .ref ou), (2, .ref mo), (1, .ref x), (0, .ref b)]) : W p l e room_1 s m #[Value.ref b] below meth c H locs 77 199433 (lw_Z below #[Value.ref b] s) (F0 m 433 ls []) := by
  obtain ⟨hx, hb, hr, hml, hown, hts, hX, hbl, hlocks, hgv⟩ := id C0
  have hg := gw_hts hts
  have hown : s.vm.findClass RL = some m.cls := hown
  have hXX := hYY.x
  generalize hAe : (fun q : Nat => s.heap.size ≤ q) = A at hYY hD hS
  have hA : ∀ q : Nat, s.heap.size ≤ q → A q := fun q h => by rw [← hAe]; exact h
  have hbA : ¬ A b := by rw [← hAe]; exact Nat.not_le.mpr hbl
  refine lv_aload_n hx hb dL_law_433 rfl (lv_at hl 3 rfl) ?_
  refine lv_aload_n hx hb dL_law_434 rfl (lv_at hl 4 rfl) ?_
  refine lv_iload hx hb dL_law_435 (lv_at hl 0 rfl) ?_
  refine lv_iconst (v := 1) hx hb dL_law_437 (by decide) ?_
  refine lv_iadd hx hb dL_law_438 ?_
  refine px_top (v := 1) (by decide) ?_
  refine va_sld hx hb hX hbl hbA hS (i := 1) (px_in (by decide)) dL_law_439 ?_
  refine px_top (v := xs 1) rfl ?_
  have hPc_1 := hP.sub (ws' := [px_o x 10 fx, px_o g 2 fg]) [0, 1] rfl
  have hDc_1 := hD.sub (ws' := [px_o x 10 fx, px_o g 2 fg]) [0, 1] (by decide +kernel) rfl
  refine vp_callSi (va_Run.run (va_runV (As := [.int (xs 1)]) (rest := []) ⟨hx, hb, hml, hown, hg⟩ (c_X10_book l D y H.size x fx g fg (xs 1) hx_3 hg_0) (cwV 1 hg (px_gV q_3_131 q_3_132 q_3_133 q_1_1 q_3_134) rfl rfl rfl (by decide +kernel) ⟨Nat.le_of_ble_eq_true rfl, Nat.le_of_ble_eq_true rfl⟩) (px_preV hK hPc_1 hDc_1 (ci := 10) (q0 := 0) rfl rfl) rfl rfl hl.1 rfl (lv_room (Nat.le_of_ble_eq_true rfl)) dL_law_440 ⟨Nat.le_of_ble_eq_true rfl, Nat.le_of_ble_eq_true rfl⟩)) (fun r_1 hw_1 => ?_)
  clear hPc_1 hDc_1
  obtain rfl : r_1 = (-1) := hw_1
  refine lv_aload_n hx hb dL_law_443 rfl (lv_at hl 2 rfl) ?_
  refine lv_aload_n hx hb dL_law_444 rfl (lv_at hl 4 rfl) ?_
  refine lv_iload hx hb dL_law_445 (lv_at hl 0 rfl) ?_
  refine lv_iconst (v := 1) hx hb dL_law_447 (by decide) ?_
  refine lv_iadd hx hb dL_law_448 ?_
  refine px_top (v := 1) (by decide) ?_
  refine va_sld hx hb hX hbl hbA hS (i := 1) (px_in (by decide)) dL_law_449 ?_
  refine px_top (v := xs 1) rfl ?_
  have hPc_2 := hP.sub (ws' := [px_o mo 11 fmo, px_i ms (y 1) 765 fms]) [2, 3] rfl
  have hDc_2 := hD.sub (ws' := [px_o mo 11 fmo, px_i ms (y 1) 765 fms]) [2, 3] (by decide +kernel) rfl
  have hFc_2 := va_free (wc := [px_o mo 11 fmo, px_i ms (y 1) 765 fms]) hD hS hA [2, 3] rfl
  refine va_calli (va_runV (As := [.int (xs 1)]) (rest := [.int (-1)]) ⟨hx, hb, hml, hown, hg⟩ (c_X11_book l D y H.size mo fmo ms fms (xs 1) hmo_0 hmo_6 hms_e0) (cwV 1 hg (px_gV q_7_215 q_7_216 q_7_217 q_1_15 q_7_218) rfl rfl rfl (by decide +kernel) ⟨Nat.le_of_ble_eq_true rfl, Nat.le_of_ble_eq_true rfl⟩) (px_preV hK hPc_2 hDc_2 (ci := 11) (q0 := 0) rfl rfl) rfl rfl hl.1 rfl (lv_room (Nat.le_of_ble_eq_true rfl)) dL_law_450 ⟨Nat.le_of_ble_eq_true rfl, Nat.le_of_ble_eq_true rfl⟩) hS (fun q _ h => hFc_2 q h) hFc_2 (fun r_2 u_2 t_2 H_2 locs_2 ht_2 hvm_2 hw_2 hB_2 hz_2 hk_2 hS_2 => ?_)
  refine W.cs (cells' := 77) (slots' := 199433) rfl rfl ?_
  obtain ⟨hP_2, hD_2⟩ := va_join (wr := [px_o x 10 fx, px_o g 2 fg]) (w1 := []) hP hD [2, 3] [0, 1] rfl rfl (by decide +kernel) (by decide +kernel) hk_2 hFc_2 (fun k q h => by simp at h) ⟨fun i j p q h => by simp at h, fun k q h => by simp at h⟩
  clear hP hD hS hPc_2 hDc_2 hFc_2 hz_2 hk_2 hvm_2 ht_2 hB_2
  have hP : va_P D vwCl [px_o x 10 fx, px_o g 2 fg] H_2 := hP_2
  have hD : va_D A [px_o x 10 fx, px_o g 2 fg] := hD_2
  have hS := hS_2
  clear hP_2 hD_2 hS_2
  obtain rfl : r_2 = (-1) := hw_2
  refine lv_icmp_eq (tgt := 1472) hx hb dL_law_453 (by decide) (fun _ => ?_) (fun c_3 => absurd c_3 (by decide))
  refine W.widen (k := 600002) (n := 7302232) (Nat.le_of_ble_eq_true rfl) (Nat.le_of_ble_eq_true rfl) ?_
  exact law_end C0 hAe hS (lv_sub hl [0, 4] rfl)

set_option maxHeartbeats 4000000 in
set_option maxRecDepth 100000 in
theorem law_7 {p : Program} {l : Launch} {e : Env} {s : State} {m : MethodId} {below : List Frame} {meth : Method} {c : Code} {b : Nat} {xs : Nat → Int32} {D : va_G} {y : Nat → ClassId} {ad : Nat → Nat} {bb : Nat → Int32} (hst : l.stackTraces = false) (C0 : lw_At p s m meth c b 6 xs) (hK : va_K D vwCl (px_tys y) s) (hYY : px_Y ad bb (fun q : Nat => s.heap.size ≤ q) s s.heap) (x : Nat) (mo : Nat) (ou : Nat) (fx : List Value) (g : Nat) (fg : List Value) (fmo : List Value) (ms : Nat) (fms : Nat → Int32) (hx_3 : px_g fx 3 (.ref g)) (hg_8 : px_g fg 8 (.int 0)) (hg_9 : px_g fg 9 (.int 0)) (hmo_0 : px_g fmo 0 (.int 0)) (hmo_6 : px_g fmo 6 (.ref ms)) (hms_e7 : fms 7 = 0) {H : Heap} {locs : List Loc} {ls : Array Slot} (hP : va_P D vwCl [px_o x 10 fx, px_o g 2 fg, px_o mo 11 fmo, px_i ms (y 1) 765 fms] H) (hD : va_D (fun q : Nat => s.heap.size ≤ q) [px_o x 10 fx, px_o g 2 fg, px_o mo 11 fmo, px_i ms (y 1) 765 fms]) (hS : va_S (fun q : Nat => s.heap.size ≤ q) s.heap H locs) (hl : lv_has ls 8 [(4, .int 0), (3, .ref ou), (2, .ref mo), (1, .ref x), (0, .ref b)]) : W p l e room_1 s m #[Value.ref b] below meth c H locs 77 199433 (lw_Z below #[Value.ref b] s) (F0 m 458 ls []) := by
  obtain ⟨hx, hb, hr, hml, hown, hts, hX, hbl, hlocks, hgv⟩ := id C0
  have hg := gw_hts hts
  have hown : s.vm.findClass RL = some m.cls := hown
  have hXX := hYY.x
  generalize hAe : (fun q : Nat => s.heap.size ≤ q) = A at hYY hD hS
  have hA : ∀ q : Nat, s.heap.size ≤ q → A q := fun q h => by rw [← hAe]; exact h
  have hbA : ¬ A b := by rw [← hAe]; exact Nat.not_le.mpr hbl
  refine lv_aload_n hx hb dL_law_458 rfl (lv_at hl 3 rfl) ?_
  refine lv_aload_n hx hb dL_law_459 rfl (lv_at hl 4 rfl) ?_
  refine lv_iload hx hb dL_law_460 (lv_at hl 0 rfl) ?_
  refine lv_iconst (v := 1) hx hb dL_law_462 (by decide) ?_
  refine lv_iadd hx hb dL_law_463 ?_
  refine px_top (v := 1) (by decide) ?_
  refine va_sld hx hb hX hbl hbA hS (i := 1) (px_in (by decide)) dL_law_464 ?_
  refine px_top (v := xs 1) rfl ?_
  have hPc_1 := hP.sub (ws' := [px_o x 10 fx, px_o g 2 fg]) [0, 1] rfl
  have hDc_1 := hD.sub (ws' := [px_o x 10 fx, px_o g 2 fg]) [0, 1] (by decide +kernel) rfl
  refine vp_callSi (va_Run.run (va_runV (As := [.int (xs 1)]) (rest := []) ⟨hx, hb, hml, hown, hg⟩ (c_X10_heap l D y H.size x fx g fg (xs 1) hx_3 hg_8 hg_9) (cwV 1 hg (px_gV q_3_139 q_3_140 q_3_141 q_1_1 q_3_142) rfl rfl rfl (by decide +kernel) ⟨Nat.le_of_ble_eq_true rfl, Nat.le_of_ble_eq_true rfl⟩) (px_preV hK hPc_1 hDc_1 (ci := 10) (q0 := 0) rfl rfl) rfl rfl hl.1 rfl (lv_room (Nat.le_of_ble_eq_true rfl)) dL_law_465 ⟨Nat.le_of_ble_eq_true rfl, Nat.le_of_ble_eq_true rfl⟩)) (fun r_1 hw_1 => ?_)
  clear hPc_1 hDc_1
  obtain rfl : r_1 = (-1) := hw_1
  refine lv_aload_n hx hb dL_law_468 rfl (lv_at hl 2 rfl) ?_
  refine lv_aload_n hx hb dL_law_469 rfl (lv_at hl 4 rfl) ?_
  refine lv_iload hx hb dL_law_470 (lv_at hl 0 rfl) ?_
  refine lv_iconst (v := 1) hx hb dL_law_472 (by decide) ?_
  refine lv_iadd hx hb dL_law_473 ?_
  refine px_top (v := 1) (by decide) ?_
  refine va_sld hx hb hX hbl hbA hS (i := 1) (px_in (by decide)) dL_law_474 ?_
  refine px_top (v := xs 1) rfl ?_
  have hPc_2 := hP.sub (ws' := [px_o mo 11 fmo, px_i ms (y 1) 765 fms]) [2, 3] rfl
  have hDc_2 := hD.sub (ws' := [px_o mo 11 fmo, px_i ms (y 1) 765 fms]) [2, 3] (by decide +kernel) rfl
  have hFc_2 := va_free (wc := [px_o mo 11 fmo, px_i ms (y 1) 765 fms]) hD hS hA [2, 3] rfl
  refine va_calli (va_runV (As := [.int (xs 1)]) (rest := [.int (-1)]) ⟨hx, hb, hml, hown, hg⟩ (c_X11_heap l D y H.size mo fmo ms fms (xs 1) hmo_0 hmo_6 hms_e7) (cwV 1 hg (px_gV q_7_219 q_7_220 q_7_221 q_1_15 q_7_222) rfl rfl rfl (by decide +kernel) ⟨Nat.le_of_ble_eq_true rfl, Nat.le_of_ble_eq_true rfl⟩) (px_preV hK hPc_2 hDc_2 (ci := 11) (q0 := 0) rfl rfl) rfl rfl hl.1 rfl (lv_room (Nat.le_of_ble_eq_true rfl)) dL_law_475 ⟨Nat.le_of_ble_eq_true rfl, Nat.le_of_ble_eq_true rfl⟩) hS (fun q _ h => hFc_2 q h) hFc_2 (fun r_2 u_2 t_2 H_2 locs_2 ht_2 hvm_2 hw_2 hB_2 hz_2 hk_2 hS_2 => ?_)
  refine W.cs (cells' := 77) (slots' := 199433) rfl rfl ?_
  obtain ⟨hP_2, hD_2⟩ := va_join (wr := [px_o x 10 fx, px_o g 2 fg]) (w1 := []) hP hD [2, 3] [0, 1] rfl rfl (by decide +kernel) (by decide +kernel) hk_2 hFc_2 (fun k q h => by simp at h) ⟨fun i j p q h => by simp at h, fun k q h => by simp at h⟩
  clear hP hD hS hPc_2 hDc_2 hFc_2 hz_2 hk_2 hvm_2 ht_2 hB_2
  have hP : va_P D vwCl [px_o x 10 fx, px_o g 2 fg] H_2 := hP_2
  have hD : va_D A [px_o x 10 fx, px_o g 2 fg] := hD_2
  have hS := hS_2
  clear hP_2 hD_2 hS_2
  obtain rfl : r_2 = (-1) := hw_2
  refine lv_icmp_eq (tgt := 1472) hx hb dL_law_478 (by decide) (fun _ => ?_) (fun c_3 => absurd c_3 (by decide))
  refine W.widen (k := 600002) (n := 7302232) (Nat.le_of_ble_eq_true rfl) (Nat.le_of_ble_eq_true rfl) ?_
  exact law_end C0 hAe hS (lv_sub hl [0, 4] rfl)
