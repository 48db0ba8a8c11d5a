set_option maxHeartbeats 4000000 in
set_option maxRecDepth 100000 in
theorem c_X9_read (l : Launch) (D : va_G) (y : Nat → ClassId) (sz : Nat) (tt : Nat) (tp : Nat) (tr : Nat) (ftp : Nat → Int32) (ftr : List Value) (trh : Nat) (trc : Nat) (ftrh : Nat → Int32) (ftrc : Nat → Int32) (rd : Nat) (frd : List Value) (rt : Nat) (ftt : List Value) (ti : Nat) (fti : Nat → Int32) (htr_0 : ftr[0]? = some (.int 0)) (htr_1 : ftr[1]? = some (.int 0)) (htr_2 : ftr[2]? = some (.int 0)) (htr_3 : ftr[3]? = some (.int 0)) (htr_5 : ftr[5]? = some (.ref trh)) (htr_6 : ftr[6]? = some (.ref trc)) (htr_8 : ftr[8]? = some (.int 0)) (htr_9 : ftr[9]? = some (.int 0)) (hrd_1 : frd[1]? = some (.ref rt)) (hrd_2 : frd[2]? = some (.int 0)) (hrd_3 : frd[3]? = some (.int 0)) (hrd_4 : frd[4]? = some (.int 0)) (hrd_5 : frd[5]? = some (.int 302)) (hrd_6 : frd[6]? = some (.int 0)) (hrd_9 : frd[9]? = some (.int 0)) (hrd_10 : frd[10]? = some (.int 0)) (htt_0 : ftt[0]? = some (.ref rd)) (htt_1 : ftt[1]? = some (.ref ti)) (htt_2 : ftt[2]? = some (.int 0)) (htt_3 : ftt[3]? = some (.int 0)) : Met l yX9_read (px_w yX9_read cX9_read 4 (some .boolean)) ({ frames := 3, cells := 0, slots := 0, locals := 63 }) (va_Pc [.ref tt, .ref tp, .int 0, .ref tr] (px_P D y sz [(tp, .inl (y 0, 940, .inl ftp)), (tr, .inr (2, ftr)), (trh, .inl (y 1, 78, .inl ftrh)), (trc, .inl (y 1, 6, .inl ftrc)), (rd, .inr (6, frd)), (tt, .inr (9, ftt)), (ti, .inl (y 1, 13, .inl fti))])) (va_Qi (fun (r : Int32) (u : px_U) => r = 1) (fun (u : px_U) t => va_P D vwCl [(tp, .inl (y 0, 940, .inl ftp)), (tr, .inr (2, ((((((ftr.set 0 (.int 0)).set 1 (.int 0)).set 2 (.int 0)).set 3 (.int 0)).set 8 (.int 0)).set 9 (.int 0)))), (trh, .inl (y 1, 78, .inl (u.2.1 0))), (trc, .inl (y 1, 6, .inl (u.2.1 1))), (rd, .inr (6, ((((((((frd.set 1 (.ref tp)).set 2 (.int 0)).set 3 (.int 900)).set 4 (.int 0)).set 9 (.int 0)).set 10 (.int 0)).set 6 (.int 0)).set 5 (.int 302)))), (tt, .inr (9, ((ftt.set 2 (.int 0)).set 3 (.int 0)))), (ti, .inl (y 1, 13, .inl (u.2.1 2)))] t.heap ∧ va_D (va_A [(tp, .inl (y 0, 940, .inl ftp)), (tr, .inr (2, ftr)), (trh, .inl (y 1, 78, .inl ftrh)), (trc, .inl (y 1, 6, .inl ftrc)), (rd, .inr (6, frd)), (tt, .inr (9, ftt)), (ti, .inl (y 1, 13, .inl fti))] sz) [(tp, .inl (y 0, 940, .inl ftp)), (tr, .inr (2, ((((((ftr.set 0 (.int 0)).set 1 (.int 0)).set 2 (.int 0)).set 3 (.int 0)).set 8 (.int 0)).set 9 (.int 0)))), (trh, .inl (y 1, 78, .inl (u.2.1 0))), (trc, .inl (y 1, 6, .inl (u.2.1 1))), (rd, .inr (6, ((((((((frd.set 1 (.ref tp)).set 2 (.int 0)).set 3 (.int 900)).set 4 (.int 0)).set 9 (.int 0)).set 10 (.int 0)).set 6 (.int 0)).set 5 (.int 302)))), (tt, .inr (9, ((ftt.set 2 (.int 0)).set 3 (.int 0)))), (ti, .inl (y 1, 13, .inl (u.2.1 2)))]) (va_A [(tp, .inl (y 0, 940, .inl ftp)), (tr, .inr (2, ftr)), (trh, .inl (y 1, 78, .inl ftrh)), (trc, .inl (y 1, 6, .inl ftrc)), (rd, .inr (6, frd)), (tt, .inr (9, ftt)), (ti, .inl (y 1, 13, .inl fti))] sz)) 0 0 (va_A [(tp, .inl (y 0, 940, .inl ftp)), (tr, .inr (2, ftr)), (trh, .inl (y 1, 78, .inl ftrh)), (trc, .inl (y 1, 6, .inl ftrc)), (rd, .inr (6, frd)), (tt, .inr (9, ftt)), (ti, .inl (y 1, 13, .inl fti))] sz) := by
  refine Met.ofW (cc := cX9_read) (maxL := 4) (ret := (some .boolean)) (by decide) rfl ?_
  intro p e s m args below meth c s₁ B hml hv
  obtain ⟨rfl, hsz, hP, hK, hD0⟩ := hv
  have hx := B.exec
  have hb := B.bytes
  have hr := B.returns
  have hts := atoms_spec (ws := px_w yX9_read cX9_read 4 (some .boolean)) B.pre
  have hg : ∀ w ∈ gw, w.before [.ref tt, .ref tp, .int 0, .ref tr].toArray s = true := fun w h => hts w (List.mem_cons_of_mem _ h)
  have hown : s.vm.findClass RX9 = some m.cls := findClass_of_methodNamed B.named
  have hlocks := B.notSynchronized
  subst hsz
  have hD := hD0.self (sz := s.heap.size)
  generalize hAe : va_A [(tp, .inl (y 0, 940, .inl ftp)), (tr, .inr (2, ftr)), (trh, .inl (y 1, 78, .inl ftrh)), (trc, .inl (y 1, 6, .inl ftrc)), (rd, .inr (6, frd)), (tt, .inr (9, ftt)), (ti, .inl (y 1, 13, .inl fti))] s.heap.size = A at hD ⊢
  have hA : ∀ q : Nat, s.heap.size ≤ q → A q := fun q h => by rw [← hAe]; exact Or.inr h
  have hS : va_S A s.heap s.heap [] := va_S.rf
  have hP : va_P D vwCl [(tp, .inl (y 0, 940, .inl ftp)), (tr, .inr (2, ftr)), (trh, .inl (y 1, 78, .inl ftrh)), (trc, .inl (y 1, 6, .inl ftrc)), (rd, .inr (6, frd)), (tt, .inr (9, ftt)), (ti, .inl (y 1, 13, .inl fti))] s.heap := hP
  have hl := lv_entry ([.ref tt, .ref tp, .int 0, .ref tr]) (n := 4) (Nat.le_of_ble_eq_true rfl)
  rw [lg_entry_eq]
  generalize (lg_sl ([.ref tt, .ref tp, .int 0, .ref tr]) ++ List.replicate (4 - (lg_sl ([.ref tt, .ref tp, .int 0, .ref tr])).length) Slot.unset).toArray = ls at hl ⊢
  have hl : lv_has ls 4 [(0, .ref tt), (1, .ref tp), (2, .int 0), (3, .ref tr)] := hl
  refine lv_aload_n hx hb dX9_read_0 rfl (lv_at hl 3 rfl) ?_
  have hPc_1 := hP.sub (ws' := [(tr, .inr (2, ftr)), (trh, .inl (y 1, 78, .inl ftrh)), (trc, .inl (y 1, 6, .inl ftrc))]) [1, 2, 3] rfl
  have hDc_1 := hD.sub (ws' := [(tr, .inr (2, ftr)), (trh, .inl (y 1, 78, .inl ftrh)), (trc, .inl (y 1, 6, .inl ftrc))]) [1, 2, 3] (by decide +kernel) rfl
  have hFc_1 := va_free (wc := [(tr, .inr (2, ftr)), (trh, .inl (y 1, 78, .inl ftrh)), (trc, .inl (y 1, 6, .inl ftrc))]) hD hS hA [1, 2, 3] rfl
  refine va_callv (va_runV (As := []) (rest := []) ⟨hx, hb, hml, hown, hg⟩ (c_X2_clear l D y s.heap.size tr ftr trh trc ftrh ftrc htr_0 htr_1 htr_2 htr_3 htr_5 htr_6 htr_8 htr_9) (cwV 0 hg (px_gV q_2_184 q_2_185 q_2_186 q_1_2 q_2_187) rfl rfl rfl (by decide +kernel) ⟨Nat.le_of_ble_eq_true rfl, Nat.le_of_ble_eq_true rfl⟩) (px_preV hK hPc_1 hDc_1 (ci := 2) (q0 := 0) rfl rfl) rfl rfl hl.1 rfl (lv_room (Nat.le_of_ble_eq_true rfl)) dX9_read_1 ⟨Nat.le_of_ble_eq_true rfl, Nat.le_of_ble_eq_true rfl⟩) hS (fun q _ h => hFc_1 q h) hFc_1 (fun u_1 t_1 H_1 locs_1 ht_1 hvm_1 hw_1 hB_1 hz_1 hk_1 hS_1 => ?_)
  refine W.cs (cells' := 0) (slots' := 0) rfl rfl ?_
  obtain ⟨hP1_1, hD1_1⟩ := hB_1
  rw [ht_1] at hP1_1
  obtain ⟨hP_1, hD_1⟩ := va_join (wr := [(tp, .inl (y 0, 940, .inl ftp)), (rd, .inr (6, frd)), (tt, .inr (9, ftt)), (ti, .inl (y 1, 13, .inl fti))]) (w1 := [(tr, .inr (2, ((((((ftr.set 0 (.int 0)).set 1 (.int 0)).set 2 (.int 0)).set 3 (.int 0)).set 8 (.int 0)).set 9 (.int 0)))), (trh, .inl (y 1, 78, .inl (u_1.2.1 0))), (trc, .inl (y 1, 6, .inl (u_1.2.1 1)))]) hP hD [1, 2, 3] [0, 4, 5, 6] rfl rfl (by decide +kernel) (by decide +kernel) hk_1 hFc_1 hP1_1 hD1_1
  clear hP hD hS hPc_1 hDc_1 hFc_1 hz_1 hk_1 hvm_1 ht_1 hP1_1 hD1_1
  have hP : va_P D vwCl [(tp, .inl (y 0, 940, .inl ftp)), (rd, .inr (6, frd)), (tt, .inr (9, ftt)), (ti, .inl (y 1, 13, .inl fti)), (tr, .inr (2, ((((((ftr.set 0 (.int 0)).set 1 (.int 0)).set 2 (.int 0)).set 3 (.int 0)).set 8 (.int 0)).set 9 (.int 0)))), (trh, .inl (y 1, 78, .inl (u_1.2.1 0))), (trc, .inl (y 1, 6, .inl (u_1.2.1 1)))] H_1 := hP_1
  have hD : va_D A [(tp, .inl (y 0, 940, .inl ftp)), (rd, .inr (6, frd)), (tt, .inr (9, ftt)), (ti, .inl (y 1, 13, .inl fti)), (tr, .inr (2, ((((((ftr.set 0 (.int 0)).set 1 (.int 0)).set 2 (.int 0)).set 3 (.int 0)).set 8 (.int 0)).set 9 (.int 0)))), (trh, .inl (y 1, 78, .inl (u_1.2.1 0))), (trc, .inl (y 1, 6, .inl (u_1.2.1 1)))] := hD_1
  have hS := hS_1
  clear hP_1 hD_1 hS_1
  refine lv_aload_n hx hb dX9_read_4 rfl (lv_at hl 0 rfl) ?_
  refine va_get (D := D) (ci := 9) (v := .ref ti) (C := RX9) (T := TX9) (N := 4) hx hb hg inGX9 hown hK hP 2 rfl rfl 1 (by decide) (hg _ q_2_32) (fun _ h9 => h9) htt_1 dX9_read_5 ?_
  refine lv_iconst (v := 0) hx hb dX9_read_8 (by decide) ?_
  have hPc_2 := hP.sub (ws' := [(ti, .inl (y 1, 13, .inl fti))]) [3] rfl
  have hDc_2 := hD.sub (ws' := [(ti, .inl (y 1, 13, .inl fti))]) [3] (by decide +kernel) rfl
  have hFc_2 := va_free (wc := [(ti, .inl (y 1, 13, .inl fti))]) hD hS hA [3] rfl
  refine va_callv (va_runS (As := [.ref ti, .int 0]) (rest := []) ⟨hx, hb, hml, hown, hg⟩ (c_fill_13 l D y H_1.size ti fti 0 ) (va_cwS 2 hg (px_gS q_2_192 q_1_62 q_1_4 q_1_63) rfl rfl rfl (by decide +kernel) ⟨Nat.le_of_ble_eq_true rfl, Nat.le_of_ble_eq_true rfl⟩) (px_preS hK hPc_2 hDc_2) rfl rfl hl.1 rfl (lv_room (Nat.le_of_ble_eq_true rfl)) dX9_read_9 ⟨Nat.le_of_ble_eq_true rfl, Nat.le_of_ble_eq_true rfl⟩) hS (fun q _ h => hFc_2 q h) hFc_2 (fun u_2 t_2 H_2 locs_2 ht_2 hvm_2 hw_2 hB_2 hz_2 hk_2 hS_2 => ?_)
  refine W.cs (cells' := 0) (slots' := 0) rfl rfl ?_
  obtain ⟨hP1_2, hD1_2⟩ := hB_2
  rw [ht_2] at hP1_2
  obtain ⟨hP_2, hD_2⟩ := va_join (wr := [(tp, .inl (y 0, 940, .inl ftp)), (rd, .inr (6, frd)), (tt, .inr (9, ftt)), (tr, .inr (2, ((((((ftr.set 0 (.int 0)).set 1 (.int 0)).set 2 (.int 0)).set 3 (.int 0)).set 8 (.int 0)).set 9 (.int 0)))), (trh, .inl (y 1, 78, .inl (u_1.2.1 0))), (trc, .inl (y 1, 6, .inl (u_1.2.1 1)))]) (w1 := [(ti, .inl (y 1, 13, .inl (u_2.2.1 0)))]) hP hD [3] [0, 1, 2, 4, 5, 6] rfl rfl (by decide +kernel) (by decide +kernel) hk_2 hFc_2 hP1_2 hD1_2
  clear hP hD hS hPc_2 hDc_2 hFc_2 hz_2 hk_2 hvm_2 ht_2 hP1_2 hD1_2
  have hP : va_P D vwCl [(tp, .inl (y 0, 940, .inl ftp)), (rd, .inr (6, frd)), (tt, .inr (9, ftt)), (tr, .inr (2, ((((((ftr.set 0 (.int 0)).set 1 (.int 0)).set 2 (.int 0)).set 3 (.int 0)).set 8 (.int 0)).set 9 (.int 0)))), (trh, .inl (y 1, 78, .inl (u_1.2.1 0))), (trc, .inl (y 1, 6, .inl (u_1.2.1 1))), (ti, .inl (y 1, 13, .inl (u_2.2.1 0)))] H_2 := hP_2
  have hD : va_D A [(tp, .inl (y 0, 940, .inl ftp)), (rd, .inr (6, frd)), (tt, .inr (9, ftt)), (tr, .inr (2, ((((((ftr.set 0 (.int 0)).set 1 (.int 0)).set 2 (.int 0)).set 3 (.int 0)).set 8 (.int 0)).set 9 (.int 0)))), (trh, .inl (y 1, 78, .inl (u_1.2.1 0))), (trc, .inl (y 1, 6, .inl (u_1.2.1 1))), (ti, .inl (y 1, 13, .inl (u_2.2.1 0)))] := hD_2
  have hS := hS_2
  clear hP_2 hD_2 hS_2
  refine lv_aload_n hx hb dX9_read_12 rfl (lv_at hl 0 rfl) ?_
  refine lv_iconst (v := 0) hx hb dX9_read_13 (by decide) ?_
  refine va_put (D := D) (ci := 9) (v := .int 0) (ty := .boolean) (C := RX9) (T := TX9) (N := 4) hx hb hg inGX9 tyX9 tyX9_ok nmX9 hown hK hP hD hS 2 rfl rfl 2 (by decide) (hg _ q_2_33) (fun _ h9 => h9) rfl (by decide +kernel) (by decide) rfl (px_len htt_2) dX9_read_14 (fun H_3 locs_3 hP_3 hD_3 hS_3 => ?_)
  clear hP hD hS
  have hP : va_P D vwCl [(tp, .inl (y 0, 940, .inl ftp)), (rd, .inr (6, frd)), (tt, .inr (9, (ftt.set 2 (.int 0)))), (tr, .inr (2, ((((((ftr.set 0 (.int 0)).set 1 (.int 0)).set 2 (.int 0)).set 3 (.int 0)).set 8 (.int 0)).set 9 (.int 0)))), (trh, .inl (y 1, 78, .inl (u_1.2.1 0))), (trc, .inl (y 1, 6, .inl (u_1.2.1 1))), (ti, .inl (y 1, 13, .inl (u_2.2.1 0)))] H_3 := hP_3
  have hD : va_D A [(tp, .inl (y 0, 940, .inl ftp)), (rd, .inr (6, frd)), (tt, .inr (9, (ftt.set 2 (.int 0)))), (tr, .inr (2, ((((((ftr.set 0 (.int 0)).set 1 (.int 0)).set 2 (.int 0)).set 3 (.int 0)).set 8 (.int 0)).set 9 (.int 0)))), (trh, .inl (y 1, 78, .inl (u_1.2.1 0))), (trc, .inl (y 1, 6, .inl (u_1.2.1 1))), (ti, .inl (y 1, 13, .inl (u_2.2.1 0)))] := hD_3
  have hS := hS_3
  clear hP_3 hD_3 hS_3
  refine lv_aload_n hx hb dX9_read_17 rfl (lv_at hl 0 rfl) ?_
  refine lv_iconst (v := 0) hx hb dX9_read_18 (by decide) ?_
  refine va_put (D := D) (ci := 9) (v := .int 0) (ty := .int) (C := RX9) (T := TX9) (N := 4) hx hb hg inGX9 tyX9 tyX9_ok nmX9 hown hK hP hD hS 2 rfl rfl 3 (by decide) (hg _ q_2_34) (fun _ h9 => h9) rfl (by decide +kernel) rfl rfl (px_len (px_sn (by decide) htt_3)) dX9_read_19 (fun H_4 locs_4 hP_4 hD_4 hS_4 => ?_)
  clear hP hD hS
  have hP : va_P D vwCl [(tp, .inl (y 0, 940, .inl ftp)), (rd, .inr (6, frd)), (tt, .inr (9, ((ftt.set 2 (.int 0)).set 3 (.int 0)))), (tr, .inr (2, ((((((ftr.set 0 (.int 0)).set 1 (.int 0)).set 2 (.int 0)).set 3 (.int 0)).set 8 (.int 0)).set 9 (.int 0)))), (trh, .inl (y 1, 78, .inl (u_1.2.1 0))), (trc, .inl (y 1, 6, .inl (u_1.2.1 1))), (ti, .inl (y 1, 13, .inl (u_2.2.1 0)))] H_4 := hP_4
  have hD : va_D A [(tp, .inl (y 0, 940, .inl ftp)), (rd, .inr (6, frd)), (tt, .inr (9, ((ftt.set 2 (.int 0)).set 3 (.int 0)))), (tr, .inr (2, ((((((ftr.set 0 (.int 0)).set 1 (.int 0)).set 2 (.int 0)).set 3 (.int 0)).set 8 (.int 0)).set 9 (.int 0)))), (trh, .inl (y 1, 78, .inl (u_1.2.1 0))), (trc, .inl (y 1, 6, .inl (u_1.2.1 1))), (ti, .inl (y 1, 13, .inl (u_2.2.1 0)))] := hD_4
  have hS := hS_4
  clear hP_4 hD_4 hS_4
  refine lv_aload_n hx hb dX9_read_22 rfl (lv_at hl 0 rfl) ?_
  refine va_get (D := D) (ci := 9) (v := .ref rd) (C := RX9) (T := TX9) (N := 4) hx hb hg inGX9 hown hK hP 2 rfl rfl 0 (by decide) (hg _ q_2_31) (fun _ h9 => h9) (px_sn (by decide) (px_sn (by decide) htt_0)) dX9_read_23 ?_
  refine lv_aload_n hx hb dX9_read_26 rfl (lv_at hl 1 rfl) ?_
  refine lv_iload_n hx hb dX9_read_27 rfl (lv_at hl 2 rfl) ?_
  refine lv_sipush (v := 900) hx hb dX9_read_28 (by decide) ?_
  have hPc_5 := hP.sub (ws' := [(tp, .inl (y 0, 940, .inl ftp)), (rd, .inr (6, frd))]) [0, 1] rfl
  have hDc_5 := hD.sub (ws' := [(tp, .inl (y 0, 940, .inl ftp)), (rd, .inr (6, frd))]) [0, 1] (by decide +kernel) rfl
  have hFc_5 := va_free (wc := [(tp, .inl (y 0, 940, .inl ftp)), (rd, .inr (6, frd))]) hD hS hA [0, 1] rfl
  refine va_callv (va_runV (As := [.ref tp, .int 0, .int 900]) (rest := []) ⟨hx, hb, hml, hown, hg⟩ (c_X6_begin_900 l D y H_4.size rd tp ftp frd rt hrd_1 hrd_2 hrd_3 hrd_4 hrd_5 hrd_6 hrd_9 hrd_10) (cwV 3 hg (px_gV q_2_193 q_2_194 q_2_195 q_1_6 q_2_196) rfl rfl rfl (by decide +kernel) ⟨Nat.le_of_ble_eq_true rfl, Nat.le_of_ble_eq_true rfl⟩) (px_preV hK hPc_5 hDc_5 (ci := 6) (q0 := 1) rfl rfl) rfl rfl hl.1 rfl (lv_room (Nat.le_of_ble_eq_true rfl)) dX9_read_31 ⟨Nat.le_of_ble_eq_true rfl, Nat.le_of_ble_eq_true rfl⟩) hS (fun q _ h => hFc_5 q h) hFc_5 (fun u_5 t_5 H_5 locs_5 ht_5 hvm_5 hw_5 hB_5 hz_5 hk_5 hS_5 => ?_)
  refine W.cs (cells' := 0) (slots' := 0) rfl rfl ?_
  obtain ⟨hP1_5, hD1_5⟩ := hB_5
  rw [ht_5] at hP1_5
  obtain ⟨hP_5, hD_5⟩ := va_join (wr := [(tt, .inr (9, ((ftt.set 2 (.int 0)).set 3 (.int 0)))), (tr, .inr (2, ((((((ftr.set 0 (.int 0)).set 1 (.int 0)).set 2 (.int 0)).set 3 (.int 0)).set 8 (.int 0)).set 9 (.int 0)))), (trh, .inl (y 1, 78, .inl (u_1.2.1 0))), (trc, .inl (y 1, 6, .inl (u_1.2.1 1))), (ti, .inl (y 1, 13, .inl (u_2.2.1 0)))]) (w1 := [(tp, .inl (y 0, 940, .inl ftp)), (rd, .inr (6, ((((((((frd.set 1 (.ref tp)).set 2 (.int 0)).set 3 (.int 900)).set 4 (.int 0)).set 9 (.int 0)).set 10 (.int 0)).set 6 (.int 0)).set 5 (.int 302))))]) hP hD [0, 1] [2, 3, 4, 5, 6] rfl rfl (by decide +kernel) (by decide +kernel) hk_5 hFc_5 hP1_5 hD1_5
  clear hP hD hS hPc_5 hDc_5 hFc_5 hz_5 hk_5 hvm_5 ht_5 hP1_5 hD1_5
  have hP : va_P D vwCl [(tt, .inr (9, ((ftt.set 2 (.int 0)).set 3 (.int 0)))), (tr, .inr (2, ((((((ftr.set 0 (.int 0)).set 1 (.int 0)).set 2 (.int 0)).set 3 (.int 0)).set 8 (.int 0)).set 9 (.int 0)))), (trh, .inl (y 1, 78, .inl (u_1.2.1 0))), (trc, .inl (y 1, 6, .inl (u_1.2.1 1))), (ti, .inl (y 1, 13, .inl (u_2.2.1 0))), (tp, .inl (y 0, 940, .inl ftp)), (rd, .inr (6, ((((((((frd.set 1 (.ref tp)).set 2 (.int 0)).set 3 (.int 900)).set 4 (.int 0)).set 9 (.int 0)).set 10 (.int 0)).set 6 (.int 0)).set 5 (.int 302))))] H_5 := hP_5
  have hD : va_D A [(tt, .inr (9, ((ftt.set 2 (.int 0)).set 3 (.int 0)))), (tr, .inr (2, ((((((ftr.set 0 (.int 0)).set 1 (.int 0)).set 2 (.int 0)).set 3 (.int 0)).set 8 (.int 0)).set 9 (.int 0)))), (trh, .inl (y 1, 78, .inl (u_1.2.1 0))), (trc, .inl (y 1, 6, .inl (u_1.2.1 1))), (ti, .inl (y 1, 13, .inl (u_2.2.1 0))), (tp, .inl (y 0, 940, .inl ftp)), (rd, .inr (6, ((((((((frd.set 1 (.ref tp)).set 2 (.int 0)).set 3 (.int 900)).set 4 (.int 0)).set 9 (.int 0)).set 10 (.int 0)).set 6 (.int 0)).set 5 (.int 302))))] := hD_5
  have hS := hS_5
  clear hP_5 hD_5 hS_5
  refine lv_aload_n hx hb dX9_read_34 rfl (lv_at hl 0 rfl) ?_
  refine va_get (D := D) (ci := 9) (v := .int 0) (C := RX9) (T := TX9) (N := 4) hx hb hg inGX9 hown hK hP 0 rfl rfl 3 (by decide) (hg _ q_2_34) (fun _ h9 => h9) (px_ss (px_sn (by decide) htt_3)) dX9_read_35 ?_
  refine lv_sipush (v := 900) hx hb dX9_read_38 (by decide) ?_
  refine lv_icmp_ge (tgt := 92) hx hb dX9_read_41 (by decide) (fun c_6 => absurd c_6 (by decide)) (fun _ => ?_)
  refine lv_aload_n hx hb dX9_read_44 rfl (lv_at hl 0 rfl) ?_
  refine va_get (D := D) (ci := 9) (v := .ref rd) (C := RX9) (T := TX9) (N := 4) hx hb hg inGX9 hown hK hP 0 rfl rfl 0 (by decide) (hg _ q_2_31) (fun _ h9 => h9) (px_sn (by decide) (px_sn (by decide) htt_0)) dX9_read_45 ?_
  refine lv_sipush (v := 302) hx hb dX9_read_48 (by decide) ?_
  have hPc_7 := hP.sub (ws' := [(rd, .inr (6, ((((((((frd.set 1 (.ref tp)).set 2 (.int 0)).set 3 (.int 900)).set 4 (.int 0)).set 9 (.int 0)).set 10 (.int 0)).set 6 (.int 0)).set 5 (.int 302))))]) [6] rfl
  have hDc_7 := hD.sub (ws' := [(rd, .inr (6, ((((((((frd.set 1 (.ref tp)).set 2 (.int 0)).set 3 (.int 900)).set 4 (.int 0)).set 9 (.int 0)).set 10 (.int 0)).set 6 (.int 0)).set 5 (.int 302))))]) [6] (by decide +kernel) rfl
  refine vp_callSi (va_Run.run (va_runV (As := [.int 302]) (rest := []) ⟨hx, hb, hml, hown, hg⟩ (c_X6_isAt l D y H_5.size rd ((((((((frd.set 1 (.ref tp)).set 2 (.int 0)).set 3 (.int 900)).set 4 (.int 0)).set 9 (.int 0)).set 10 (.int 0)).set 6 (.int 0)).set 5 (.int 302)) (px_ss (px_sn (by decide) (px_sn (by decide) (px_sn (by decide) (px_sn (by decide) (px_sn (by decide) (px_sn (by decide) (px_sn (by decide) hrd_5))))))))) (cwV 1 hg (px_gV q_2_208 q_2_209 q_2_210 q_1_6 q_2_211) rfl rfl rfl (by decide +kernel) ⟨Nat.le_of_ble_eq_true rfl, Nat.le_of_ble_eq_true rfl⟩) (px_preV hK hPc_7 hDc_7 (ci := 6) (q0 := 0) rfl rfl) rfl rfl hl.1 rfl (lv_room (Nat.le_of_ble_eq_true rfl)) dX9_read_51 ⟨Nat.le_of_ble_eq_true rfl, Nat.le_of_ble_eq_true rfl⟩)) (fun r_7 hw_7 => ?_)
  clear hPc_7 hDc_7
  obtain rfl : r_7 = 1 := hw_7
  refine lv_if_ne (tgt := 92) hx hb dX9_read_54 (by decide) (fun _ => ?_) (fun c_8 => absurd c_8 (by decide))
  refine lv_aload_n hx hb dX9_read_92 rfl (lv_at hl 0 rfl) ?_
  refine va_get (D := D) (ci := 9) (v := .ref rd) (C := RX9) (T := TX9) (N := 4) hx hb hg inGX9 hown hK hP 0 rfl rfl 0 (by decide) (hg _ q_2_31) (fun _ h9 => h9) (px_sn (by decide) (px_sn (by decide) htt_0)) dX9_read_93 ?_
  refine lv_sipush (v := 302) hx hb dX9_read_96 (by decide) ?_
  have hPc_9 := hP.sub (ws' := [(rd, .inr (6, ((((((((frd.set 1 (.ref tp)).set 2 (.int 0)).set 3 (.int 900)).set 4 (.int 0)).set 9 (.int 0)).set 10 (.int 0)).set 6 (.int 0)).set 5 (.int 302))))]) [6] rfl
  have hDc_9 := hD.sub (ws' := [(rd, .inr (6, ((((((((frd.set 1 (.ref tp)).set 2 (.int 0)).set 3 (.int 900)).set 4 (.int 0)).set 9 (.int 0)).set 10 (.int 0)).set 6 (.int 0)).set 5 (.int 302))))]) [6] (by decide +kernel) rfl
  refine vp_callSi (va_Run.run (va_runV (As := [.int 302]) (rest := []) ⟨hx, hb, hml, hown, hg⟩ (c_X6_isAt l D y H_5.size rd ((((((((frd.set 1 (.ref tp)).set 2 (.int 0)).set 3 (.int 900)).set 4 (.int 0)).set 9 (.int 0)).set 10 (.int 0)).set 6 (.int 0)).set 5 (.int 302)) (px_ss (px_sn (by decide) (px_sn (by decide) (px_sn (by decide) (px_sn (by decide) (px_sn (by decide) (px_sn (by decide) (px_sn (by decide) hrd_5))))))))) (cwV 1 hg (px_gV q_2_208 q_2_209 q_2_210 q_1_6 q_2_211) rfl rfl rfl (by decide +kernel) ⟨Nat.le_of_ble_eq_true rfl, Nat.le_of_ble_eq_true rfl⟩) (px_preV hK hPc_9 hDc_9 (ci := 6) (q0 := 0) rfl rfl) rfl rfl hl.1 rfl (lv_room (Nat.le_of_ble_eq_true rfl)) dX9_read_99 ⟨Nat.le_of_ble_eq_true rfl, Nat.le_of_ble_eq_true rfl⟩)) (fun r_9 hw_9 => ?_)
  clear hPc_9 hDc_9
  obtain rfl : r_9 = 1 := hw_9
  refine lv_if_ne (tgt := 116) hx hb dX9_read_102 (by decide) (fun _ => ?_) (fun c_10 => absurd c_10 (by decide))
  refine lv_iconst (v := 1) hx hb dX9_read_116 (by decide) ?_
  refine lv_goto (tgt := 121) hx hb dX9_read_117 (by decide) ?_
  have hP9 := hP.sub (ws' := [(tp, .inl (y 0, 940, .inl ftp)), (tr, .inr (2, ((((((ftr.set 0 (.int 0)).set 1 (.int 0)).set 2 (.int 0)).set 3 (.int 0)).set 8 (.int 0)).set 9 (.int 0)))), (trh, .inl (y 1, 78, .inl (u_1.2.1 0))), (trc, .inl (y 1, 6, .inl (u_1.2.1 1))), (rd, .inr (6, ((((((((frd.set 1 (.ref tp)).set 2 (.int 0)).set 3 (.int 900)).set 4 (.int 0)).set 9 (.int 0)).set 10 (.int 0)).set 6 (.int 0)).set 5 (.int 302)))), (tt, .inr (9, ((ftt.set 2 (.int 0)).set 3 (.int 0)))), (ti, .inl (y 1, 13, .inl (u_2.2.1 0)))]) [5, 1, 2, 3, 6, 0, 4] rfl
  have hD9 := hD.sub (ws' := [(tp, .inl (y 0, 940, .inl ftp)), (tr, .inr (2, ((((((ftr.set 0 (.int 0)).set 1 (.int 0)).set 2 (.int 0)).set 3 (.int 0)).set 8 (.int 0)).set 9 (.int 0)))), (trh, .inl (y 1, 78, .inl (u_1.2.1 0))), (trc, .inl (y 1, 6, .inl (u_1.2.1 1))), (rd, .inr (6, ((((((((frd.set 1 (.ref tp)).set 2 (.int 0)).set 3 (.int 900)).set 4 (.int 0)).set 9 (.int 0)).set 10 (.int 0)).set 6 (.int 0)).set 5 (.int 302)))), (tt, .inr (9, ((ftt.set 2 (.int 0)).set 3 (.int 0)))), (ti, .inl (y 1, 13, .inl (u_2.2.1 0)))]) [5, 1, 2, 3, 6, 0, 4] (by decide +kernel) rfl
  exact W.zret (v := 1) hx hb hr (by decide) (fun t ht hW => ⟨⟨_, (px_v [], px_vi [(u_1.2.1 0), (u_1.2.1 1), (u_2.2.1 0)], px_vl []), rfl, rfl, by rw [ht]; exact hP9, hD9⟩, hS.F ht⟩) hS.2.2 dX9_read_121

set_option maxHeartbeats 4000000 in
set_option maxRecDepth 100000 in
theorem c_X3_clear (l : Launch) (D : va_G) (y : Nat → ClassId) (sz : Nat) (gk : Nat) (fgk : List Value) (gs : Nat) (gq : Nat) (fgs : Nat → Int32) (fgq : Nat → Int32) (hgk_0 : fgk[0]? = some (.ref gs)) (hgk_2 : fgk[2]? = some (.int 0)) (hgk_3 : fgk[3]? = some (.ref gq)) : Met l yX3_clear (px_w yX3_clear cX3_clear 1 none) ({ frames := 1, cells := 0, slots := 0, locals := 23 }) (va_Pc [.ref gk] (px_P D y sz [(gk, .inr (3, fgk)), (gs, .inl (y 1, 78, .inl fgs)), (gq, .inl (y 1, 6, .inl fgq))])) (va_Qv (fun (u : px_U) => True) (fun (u : px_U) t => va_P D vwCl [(gk, .inr (3, (fgk.set 2 (.int 0)))), (gs, .inl (y 1, 78, .inl (u.2.1 0))), (gq, .inl (y 1, 6, .inl (u.2.1 1)))] t.heap ∧ va_D (va_A [(gk, .inr (3, fgk)), (gs, .inl (y 1, 78, .inl fgs)), (gq, .inl (y 1, 6, .inl fgq))] sz) [(gk, .inr (3, (fgk.set 2 (.int 0)))), (gs, .inl (y 1, 78, .inl (u.2.1 0))), (gq, .inl (y 1, 6, .inl (u.2.1 1)))]) (va_A [(gk, .inr (3, fgk)), (gs, .inl (y 1, 78, .inl fgs)), (gq, .inl (y 1, 6, .inl fgq))] sz)) 0 0 (va_A [(gk, .inr (3, fgk)), (gs, .inl (y 1, 78, .inl fgs)), (gq, .inl (y 1, 6, .inl fgq))] sz) := by
  refine Met.ofW (cc := cX3_clear) (maxL := 1) (ret := none) (by decide) rfl ?_
  intro p e s m args below meth c s₁ B hml hv
  obtain ⟨rfl, hsz, hP, hK, hD0⟩ := hv
  have hx := B.exec
  have hb := B.bytes
  have hr := B.returns
  have hts := atoms_spec (ws := px_w yX3_clear cX3_clear 1 none) B.pre
  have hg : ∀ w ∈ gw, w.before [.ref gk].toArray s = true := fun w h => hts w (List.mem_cons_of_mem _ h)
  have hown : s.vm.findClass RX3 = some m.cls := findClass_of_methodNamed B.named
  have hlocks := B.notSynchronized
  subst hsz
  have hD := hD0.self (sz := s.heap.size)
  generalize hAe : va_A [(gk, .inr (3, fgk)), (gs, .inl (y 1, 78, .inl fgs)), (gq, .inl (y 1, 6, .inl fgq))] s.heap.size = A at hD ⊢
  have hA : ∀ q : Nat, s.heap.size ≤ q → A q := fun q h => by rw [← hAe]; exact Or.inr h
  have hS : va_S A s.heap s.heap [] := va_S.rf
  have hP : va_P D vwCl [(gk, .inr (3, fgk)), (gs, .inl (y 1, 78, .inl fgs)), (gq, .inl (y 1, 6, .inl fgq))] s.heap := hP
  have hl := lv_entry ([.ref gk]) (n := 1) (Nat.le_of_ble_eq_true rfl)
  rw [lg_entry_eq]
  generalize (lg_sl ([.ref gk]) ++ List.replicate (1 - (lg_sl ([.ref gk])).length) Slot.unset).toArray = ls at hl ⊢
  have hl : lv_has ls 1 [(0, .ref gk)] := hl
  refine lv_aload_n hx hb dX3_clear_0 rfl (lv_at hl 0 rfl) ?_
  refine va_get (D := D) (ci := 3) (v := .ref gs) (C := RX3) (T := TX3) (N := 4) hx hb hg inGX3 hown hK hP 0 rfl rfl 0 (by decide) (hg _ q_1_44) (fun _ h9 => h9) hgk_0 dX3_clear_1 ?_
  refine lv_iconst (v := 0) hx hb dX3_clear_4 (by decide) ?_
  have hPc_1 := hP.sub (ws' := [(gs, .inl (y 1, 78, .inl fgs))]) [1] rfl
  have hDc_1 := hD.sub (ws' := [(gs, .inl (y 1, 78, .inl fgs))]) [1] (by decide +kernel) rfl
  have hFc_1 := va_free (wc := [(gs, .inl (y 1, 78, .inl fgs))]) hD hS hA [1] rfl
  refine va_callv (va_runS (As := [.ref gs, .int 0]) (rest := []) ⟨hx, hb, hml, hown, hg⟩ (c_fill_78 l D y s.heap.size gs fgs 0 ) (va_cwS 2 hg (px_gS q_3_48 q_1_62 q_1_4 q_1_63) rfl rfl rfl (by decide +kernel) ⟨Nat.le_of_ble_eq_true rfl, Nat.le_of_ble_eq_true rfl⟩) (px_preS hK hPc_1 hDc_1) rfl rfl hl.1 rfl (lv_room (Nat.le_of_ble_eq_true rfl)) dX3_clear_5 ⟨Nat.le_of_ble_eq_true rfl, Nat.le_of_ble_eq_true rfl⟩) hS (fun q _ h => hFc_1 q h) hFc_1 (fun u_1 t_1 H_1 locs_1 ht_1 hvm_1 hw_1 hB_1 hz_1 hk_1 hS_1 => ?_)
  refine W.cs (cells' := 0) (slots' := 0) rfl rfl ?_
  obtain ⟨hP1_1, hD1_1⟩ := hB_1
  rw [ht_1] at hP1_1
  obtain ⟨hP_1, hD_1⟩ := va_join (wr := [(gk, .inr (3, fgk)), (gq, .inl (y 1, 6, .inl fgq))]) (w1 := [(gs, .inl (y 1, 78, .inl (u_1.2.1 0)))]) hP hD [1] [0, 2] rfl rfl (by decide +kernel) (by decide +kernel) hk_1 hFc_1 hP1_1 hD1_1
  clear hP hD hS hPc_1 hDc_1 hFc_1 hz_1 hk_1 hvm_1 ht_1 hP1_1 hD1_1
  have hP : va_P D vwCl [(gk, .inr (3, fgk)), (gq, .inl (y 1, 6, .inl fgq)), (gs, .inl (y 1, 78, .inl (u_1.2.1 0)))] H_1 := hP_1
  have hD : va_D A [(gk, .inr (3, fgk)), (gq, .inl (y 1, 6, .inl fgq)), (gs, .inl (y 1, 78, .inl (u_1.2.1 0)))] := hD_1
  have hS := hS_1
  clear hP_1 hD_1 hS_1
  refine lv_aload_n hx hb dX3_clear_8 rfl (lv_at hl 0 rfl) ?_
  refine va_get (D := D) (ci := 3) (v := .ref gq) (C := RX3) (T := TX3) (N := 4) hx hb hg inGX3 hown hK hP 0 rfl rfl 3 (by decide) (hg _ q_1_47) (fun _ h9 => h9) hgk_3 dX3_clear_9 ?_
  refine lv_iconst (v := 0) hx hb dX3_clear_12 (by decide) ?_
  have hPc_2 := hP.sub (ws' := [(gq, .inl (y 1, 6, .inl fgq))]) [1] rfl
  have hDc_2 := hD.sub (ws' := [(gq, .inl (y 1, 6, .inl fgq))]) [1] (by decide +kernel) rfl
  have hFc_2 := va_free (wc := [(gq, .inl (y 1, 6, .inl fgq))]) hD hS hA [1] rfl
  refine va_callv (va_runS (As := [.ref gq, .int 0]) (rest := []) ⟨hx, hb, hml, hown, hg⟩ (c_fill_6 l D y H_1.size gq fgq 0 ) (va_cwS 2 hg (px_gS q_3_48 q_1_62 q_1_4 q_1_63) rfl rfl rfl (by decide +kernel) ⟨Nat.le_of_ble_eq_true rfl, Nat.le_of_ble_eq_true rfl⟩) (px_preS hK hPc_2 hDc_2) rfl rfl hl.1 rfl (lv_room (Nat.le_of_ble_eq_true rfl)) dX3_clear_13 ⟨Nat.le_of_ble_eq_true rfl, Nat.le_of_ble_eq_true rfl⟩) hS (fun q _ h => hFc_2 q h) hFc_2 (fun u_2 t_2 H_2 locs_2 ht_2 hvm_2 hw_2 hB_2 hz_2 hk_2 hS_2 => ?_)
  refine W.cs (cells' := 0) (slots' := 0) rfl rfl ?_
  obtain ⟨hP1_2, hD1_2⟩ := hB_2
  rw [ht_2] at hP1_2
  obtain ⟨hP_2, hD_2⟩ := va_join (wr := [(gk, .inr (3, fgk)), (gs, .inl (y 1, 78, .inl (u_1.2.1 0)))]) (w1 := [(gq, .inl (y 1, 6, .inl (u_2.2.1 0)))]) hP hD [1] [0, 2] rfl rfl (by decide +kernel) (by decide +kernel) hk_2 hFc_2 hP1_2 hD1_2
  clear hP hD hS hPc_2 hDc_2 hFc_2 hz_2 hk_2 hvm_2 ht_2 hP1_2 hD1_2
  have hP : va_P D vwCl [(gk, .inr (3, fgk)), (gs, .inl (y 1, 78, .inl (u_1.2.1 0))), (gq, .inl (y 1, 6, .inl (u_2.2.1 0)))] H_2 := hP_2
  have hD : va_D A [(gk, .inr (3, fgk)), (gs, .inl (y 1, 78, .inl (u_1.2.1 0))), (gq, .inl (y 1, 6, .inl (u_2.2.1 0)))] := hD_2
  have hS := hS_2
  clear hP_2 hD_2 hS_2
  refine lv_aload_n hx hb dX3_clear_16 rfl (lv_at hl 0 rfl) ?_
  refine lv_iconst (v := 0) hx hb dX3_clear_17 (by decide) ?_
  refine va_put (D := D) (ci := 3) (v := .int 0) (ty := .int) (C := RX3) (T := TX3) (N := 4) hx hb hg inGX3 tyX3 tyX3_ok nmX3 hown hK hP hD hS 0 rfl rfl 2 (by decide) (hg _ q_1_46) (fun _ h9 => h9) rfl (by decide +kernel) rfl rfl (px_len hgk_2) dX3_clear_18 (fun H_3 locs_3 hP_3 hD_3 hS_3 => ?_)
  clear hP hD hS
  have hP : va_P D vwCl [(gk, .inr (3, (fgk.set 2 (.int 0)))), (gs, .inl (y 1, 78, .inl (u_1.2.1 0))), (gq, .inl (y 1, 6, .inl (u_2.2.1 0)))] H_3 := hP_3
  have hD : va_D A [(gk, .inr (3, (fgk.set 2 (.int 0)))), (gs, .inl (y 1, 78, .inl (u_1.2.1 0))), (gq, .inl (y 1, 6, .inl (u_2.2.1 0)))] := hD_3
  have hS := hS_3
  clear hP_3 hD_3 hS_3
  have hP9 := hP.sub (ws' := [(gk, .inr (3, (fgk.set 2 (.int 0)))), (gs, .inl (y 1, 78, .inl (u_1.2.1 0))), (gq, .inl (y 1, 6, .inl (u_2.2.1 0)))]) [0, 1, 2] rfl
  have hD9 := hD.sub (ws' := [(gk, .inr (3, (fgk.set 2 (.int 0)))), (gs, .inl (y 1, 78, .inl (u_1.2.1 0))), (gq, .inl (y 1, 6, .inl (u_2.2.1 0)))]) [0, 1, 2] (by decide +kernel) rfl
  exact W.vret hx hb hr (fun t ht hW => ⟨⟨(px_v [], px_vi [(u_1.2.1 0), (u_2.2.1 0)], px_vl []), rfl, trivial, by rw [ht]; exact hP9, hD9⟩, hS.F ht⟩) hS.2.2 dX3_clear_21

set_option maxHeartbeats 4000000 in
set_option maxRecDepth 100000 in
theorem c_X2_settle (l : Launch) (D : va_G) (y : Nat → ClassId) (sz : Nat) (g : Nat) (fg : List Value) (hg_1 : fg[1]? = some (.int 0)) (hg_14 : fg[14]? = some (.int (-1))) : Met l yX2_settle (px_w yX2_settle cX2_settle 4 none) ({ frames := 0, cells := 0, slots := 0, locals := 0 }) (va_Pc [.ref g, .int 0] (px_P D y sz [(g, .inr (2, fg))])) (va_Qv (fun (u : Unit) => True) (fun (u : Unit) t => va_P D vwCl [(g, .inr (2, (fg.set 14 (.int (-1)))))] t.heap ∧ va_D (va_A [(g, .inr (2, fg))] sz) [(g, .inr (2, (fg.set 14 (.int (-1)))))]) (va_A [(g, .inr (2, fg))] sz)) 0 0 (va_A [(g, .inr (2, fg))] sz) := by
  refine Met.ofW (cc := cX2_settle) (maxL := 4) (ret := none) (by decide) rfl ?_
  intro p e s m args below meth c s₁ B hml hv
  obtain ⟨rfl, hsz, hP, hK, hD0⟩ := hv
  have hx := B.exec
  have hb := B.bytes
  have hr := B.returns
  have hts := atoms_spec (ws := px_w yX2_settle cX2_settle 4 none) B.pre
  have hg : ∀ w ∈ gw, w.before [.ref g, .int 0].toArray s = true := fun w h => hts w (List.mem_cons_of_mem _ h)
  have hown : s.vm.findClass RX2 = some m.cls := findClass_of_methodNamed B.named
  have hlocks := B.notSynchronized
  subst hsz
  have hD := hD0.self (sz := s.heap.size)
  generalize hAe : va_A [(g, .inr (2, fg))] s.heap.size = A at hD ⊢
  have hA : ∀ q : Nat, s.heap.size ≤ q → A q := fun q h => by rw [← hAe]; exact Or.inr h
  have hS : va_S A s.heap s.heap [] := va_S.rf
  have hP : va_P D vwCl [(g, .inr (2, fg))] s.heap := hP
  have hl := lv_entry ([.ref g, .int 0]) (n := 4) (Nat.le_of_ble_eq_true rfl)
  rw [lg_entry_eq]
  generalize (lg_sl ([.ref g, .int 0]) ++ List.replicate (4 - (lg_sl ([.ref g, .int 0])).length) Slot.unset).toArray = ls at hl ⊢
  have hl : lv_has ls 4 [(0, .ref g), (1, .int 0)] := hl
  refine lv_aload_n hx hb dX2_settle_0 rfl (lv_at hl 0 rfl) ?_
  refine lv_iconst (v := (-1)) hx hb dX2_settle_1 (by decide) ?_
  refine va_put (D := D) (ci := 2) (v := .int (-1)) (ty := .int) (C := RX2) (T := TX2) (N := 18) hx hb hg inGX2 tyX2 tyX2_ok nmX2 hown hK hP hD hS 0 rfl rfl 14 (by decide) (hg _ q_1_102) (fun _ h9 => h9) rfl (by decide +kernel) rfl rfl (px_len hg_14) dX2_settle_2 (fun H_1 locs_1 hP_1 hD_1 hS_1 => ?_)
  clear hP hD hS
  have hP : va_P D vwCl [(g, .inr (2, (fg.set 14 (.int (-1)))))] H_1 := hP_1
  have hD : va_D A [(g, .inr (2, (fg.set 14 (.int (-1)))))] := hD_1
  have hS := hS_1
  clear hP_1 hD_1 hS_1
  refine lv_iload_n hx hb dX2_settle_5 rfl (lv_at hl 1 rfl) ?_
  refine lv_istore_n (lv' := [(2, .int 0), (0, .ref g), (1, .int 0)]) hx hb dX2_settle_6 rfl hl (by decide) rfl (fun ls hl => ?_)
  refine lv_iconst (v := 0) hx hb dX2_settle_7 (by decide) ?_
  refine lv_istore_n (lv' := [(3, .int 0), (2, .int 0), (0, .ref g), (1, .int 0)]) hx hb dX2_settle_8 rfl hl (by decide) rfl (fun ls hl => ?_)
  refine lv_iload_n hx hb dX2_settle_9 rfl (lv_at hl 0 rfl) ?_
  refine lv_aload_n hx hb dX2_settle_10 rfl (lv_at hl 2 rfl) ?_
  refine va_get (D := D) (ci := 2) (v := .int 0) (C := RX2) (T := TX2) (N := 18) hx hb hg inGX2 hown hK hP 0 rfl rfl 1 (by decide) (hg _ q_1_70) (fun _ h9 => h9) (px_sn (by decide) hg_1) dX2_settle_11 ?_
  refine lv_icmp_ge (tgt := 56) hx hb dX2_settle_14 (by decide) (fun _ => ?_) (fun c_2 => absurd c_2 (by decide))
  have hP9 := hP.sub (ws' := [(g, .inr (2, (fg.set 14 (.int (-1)))))]) [0] rfl
  have hD9 := hD.sub (ws' := [(g, .inr (2, (fg.set 14 (.int (-1)))))]) [0] (by decide +kernel) rfl
  exact W.vret hx hb hr (fun t ht hW => ⟨⟨(), rfl, trivial, by rw [ht]; exact hP9, hD9⟩, hS.F ht⟩) hS.2.2 dX2_settle_56

set_option maxHeartbeats 4000000 in
set_option maxRecDepth 100000 in
theorem c_X2_start (l : Launch) (D : va_G) (y : Nat → ClassId) (sz : Nat) (g : Nat) (fg : List Value) (go : Nat) (ga : Nat) (gv : Nat) (gl : Nat) (gk : Nat) (fgo : Nat → Int32) (fga : Nat → Int32) (fgv : Nat → Int32) (fgl : Nat → Int32) (fgk : List Value) (gs : Nat) (gq : Nat) (fgs : Nat → Int32) (fgq : Nat → Int32) (hg_1 : fg[1]? = some (.int 0)) (hg_10 : fg[10]? = some (.ref go)) (hg_11 : fg[11]? = some (.ref ga)) (hg_12 : fg[12]? = some (.ref gv)) (hg_13 : fg[13]? = some (.ref gl)) (hg_14 : fg[14]? = some (.int (-1))) (hg_15 : fg[15]? = some (.int 0)) (hg_16 : fg[16]? = some (.int 0)) (hg_17 : fg[17]? = some (.ref gk)) (hgk_0 : fgk[0]? = some (.ref gs)) (hgk_2 : fgk[2]? = some (.int 0)) (hgk_3 : fgk[3]? = some (.ref gq)) : Met l yX2_start (px_w yX2_start cX2_start 3 none) ({ frames := 2, cells := 0, slots := 0, locals := 43 }) (va_Pc [.ref g] (px_P D y sz [(g, .inr (2, fg)), (go, .inl (y 1, 13, .inl fgo)), (ga, .inl (y 1, 6, .inl fga)), (gv, .inl (y 1, 6, .inl fgv)), (gl, .inl (y 1, 6, .inl fgl)), (gk, .inr (3, fgk)), (gs, .inl (y 1, 78, .inl fgs)), (gq, .inl (y 1, 6, .inl fgq))])) (va_Qv (fun (u : px_U) => True) (fun (u : px_U) t => va_P D vwCl [(g, .inr (2, (((fg.set 15 (.int 0)).set 16 (.int 0)).set 14 (.int (-1))))), (go, .inl (y 1, 13, .inl (u.2.1 0))), (ga, .inl (y 1, 6, .inl (u.2.1 1))), (gv, .inl (y 1, 6, .inl (u.2.1 2))), (gl, .inl (y 1, 6, .inl (u.2.1 3))), (gk, .inr (3, (fgk.set 2 (.int 0)))), (gs, .inl (y 1, 78, .inl (u.2.1 4))), (gq, .inl (y 1, 6, .inl (u.2.1 5)))] t.heap ∧ va_D (va_A [(g, .inr (2, fg)), (go, .inl (y 1, 13, .inl fgo)), (ga, .inl (y 1, 6, .inl fga)), (gv, .inl (y 1, 6, .inl fgv)), (gl, .inl (y 1, 6, .inl fgl)), (gk, .inr (3, fgk)), (gs, .inl (y 1, 78, .inl fgs)), (gq, .inl (y 1, 6, .inl fgq))] sz) [(g, .inr (2, (((fg.set 15 (.int 0)).set 16 (.int 0)).set 14 (.int (-1))))), (go, .inl (y 1, 13, .inl (u.2.1 0))), (ga, .inl (y 1, 6, .inl (u.2.1 1))), (gv, .inl (y 1, 6, .inl (u.2.1 2))), (gl, .inl (y 1, 6, .inl (u.2.1 3))), (gk, .inr (3, (fgk.set 2 (.int 0)))), (gs, .inl (y 1, 78, .inl (u.2.1 4))), (gq, .inl (y 1, 6, .inl (u.2.1 5)))]) (va_A [(g, .inr (2, fg)), (go, .inl (y 1, 13, .inl fgo)), (ga, .inl (y 1, 6, .inl fga)), (gv, .inl (y 1, 6, .inl fgv)), (gl, .inl (y 1, 6, .inl fgl)), (gk, .inr (3, fgk)), (gs, .inl (y 1, 78, .inl fgs)), (gq, .inl (y 1, 6, .inl fgq))] sz)) 0 0 (va_A [(g, .inr (2, fg)), (go, .inl (y 1, 13, .inl fgo)), (ga, .inl (y 1, 6, .inl fga)), (gv, .inl (y 1, 6, .inl fgv)), (gl, .inl (y 1, 6, .inl fgl)), (gk, .inr (3, fgk)), (gs, .inl (y 1, 78, .inl fgs)), (gq, .inl (y 1, 6, .inl fgq))] sz) := by
  refine Met.ofW (cc := cX2_start) (maxL := 3) (ret := none) (by decide) rfl ?_
  intro p e s m args below meth c s₁ B hml hv
  obtain ⟨rfl, hsz, hP, hK, hD0⟩ := hv
  have hx := B.exec
  have hb := B.bytes
  have hr := B.returns
  have hts := atoms_spec (ws := px_w yX2_start cX2_start 3 none) B.pre
  have hg : ∀ w ∈ gw, w.before [.ref g].toArray s = true := fun w h => hts w (List.mem_cons_of_mem _ h)
  have hown : s.vm.findClass RX2 = some m.cls := findClass_of_methodNamed B.named
  have hlocks := B.notSynchronized
  subst hsz
  have hD := hD0.self (sz := s.heap.size)
  generalize hAe : va_A [(g, .inr (2, fg)), (go, .inl (y 1, 13, .inl fgo)), (ga, .inl (y 1, 6, .inl fga)), (gv, .inl (y 1, 6, .inl fgv)), (gl, .inl (y 1, 6, .inl fgl)), (gk, .inr (3, fgk)), (gs, .inl (y 1, 78, .inl fgs)), (gq, .inl (y 1, 6, .inl fgq))] s.heap.size = A at hD ⊢
  have hA : ∀ q : Nat, s.heap.size ≤ q → A q := fun q h => by rw [← hAe]; exact Or.inr h
  have hS : va_S A s.heap s.heap [] := va_S.rf
  have hP : va_P D vwCl [(g, .inr (2, fg)), (go, .inl (y 1, 13, .inl fgo)), (ga, .inl (y 1, 6, .inl fga)), (gv, .inl (y 1, 6, .inl fgv)), (gl, .inl (y 1, 6, .inl fgl)), (gk, .inr (3, fgk)), (gs, .inl (y 1, 78, .inl fgs)), (gq, .inl (y 1, 6, .inl fgq))] s.heap := hP
  have hl := lv_entry ([.ref g]) (n := 3) (Nat.le_of_ble_eq_true rfl)
  rw [lg_entry_eq]
  generalize (lg_sl ([.ref g]) ++ List.replicate (3 - (lg_sl ([.ref g])).length) Slot.unset).toArray = ls at hl ⊢
  have hl : lv_has ls 3 [(0, .ref g)] := hl
  refine lv_aload_n hx hb dX2_start_0 rfl (lv_at hl 0 rfl) ?_
  refine va_get (D := D) (ci := 2) (v := .ref go) (C := RX2) (T := TX2) (N := 18) hx hb hg inGX2 hown hK hP 0 rfl rfl 10 (by decide) (hg _ q_1_93) (fun _ h9 => h9) hg_10 dX2_start_1 ?_
  refine lv_iconst (v := (-1)) hx hb dX2_start_4 (by decide) ?_
  have hPc_1 := hP.sub (ws' := [(go, .inl (y 1, 13, .inl fgo))]) [1] rfl
  have hDc_1 := hD.sub (ws' := [(go, .inl (y 1, 13, .inl fgo))]) [1] (by decide +kernel) rfl
  have hFc_1 := va_free (wc := [(go, .inl (y 1, 13, .inl fgo))]) hD hS hA [1] rfl
  refine va_callv (va_runS (As := [.ref go, .int (-1)]) (rest := []) ⟨hx, hb, hml, hown, hg⟩ (c_fill_13 l D y s.heap.size go fgo (-1) ) (va_cwS 2 hg (px_gS q_1_61 q_1_62 q_1_4 q_1_63) rfl rfl rfl (by decide +kernel) ⟨Nat.le_of_ble_eq_true rfl, Nat.le_of_ble_eq_true rfl⟩) (px_preS hK hPc_1 hDc_1) rfl rfl hl.1 rfl (lv_room (Nat.le_of_ble_eq_true rfl)) dX2_start_5 ⟨Nat.le_of_ble_eq_true rfl, Nat.le_of_ble_eq_true rfl⟩) hS (fun q _ h => hFc_1 q h) hFc_1 (fun u_1 t_1 H_1 locs_1 ht_1 hvm_1 hw_1 hB_1 hz_1 hk_1 hS_1 => ?_)
  refine W.cs (cells' := 0) (slots' := 0) rfl rfl ?_
  obtain ⟨hP1_1, hD1_1⟩ := hB_1
  rw [ht_1] at hP1_1
  obtain ⟨hP_1, hD_1⟩ := va_join (wr := [(g, .inr (2, fg)), (ga, .inl (y 1, 6, .inl fga)), (gv, .inl (y 1, 6, .inl fgv)), (gl, .inl (y 1, 6, .inl fgl)), (gk, .inr (3, fgk)), (gs, .inl (y 1, 78, .inl fgs)), (gq, .inl (y 1, 6, .inl fgq))]) (w1 := [(go, .inl (y 1, 13, .inl (u_1.2.1 0)))]) hP hD [1] [0, 2, 3, 4, 5, 6, 7] rfl rfl (by decide +kernel) (by decide +kernel) hk_1 hFc_1 hP1_1 hD1_1
  clear hP hD hS hPc_1 hDc_1 hFc_1 hz_1 hk_1 hvm_1 ht_1 hP1_1 hD1_1
  have hP : va_P D vwCl [(g, .inr (2, fg)), (ga, .inl (y 1, 6, .inl fga)), (gv, .inl (y 1, 6, .inl fgv)), (gl, .inl (y 1, 6, .inl fgl)), (gk, .inr (3, fgk)), (gs, .inl (y 1, 78, .inl fgs)), (gq, .inl (y 1, 6, .inl fgq)), (go, .inl (y 1, 13, .inl (u_1.2.1 0)))] H_1 := hP_1
  have hD : va_D A [(g, .inr (2, fg)), (ga, .inl (y 1, 6, .inl fga)), (gv, .inl (y 1, 6, .inl fgv)), (gl, .inl (y 1, 6, .inl fgl)), (gk, .inr (3, fgk)), (gs, .inl (y 1, 78, .inl fgs)), (gq, .inl (y 1, 6, .inl fgq)), (go, .inl (y 1, 13, .inl (u_1.2.1 0)))] := hD_1
  have hS := hS_1
  clear hP_1 hD_1 hS_1
  refine lv_aload_n hx hb dX2_start_8 rfl (lv_at hl 0 rfl) ?_
  refine va_get (D := D) (ci := 2) (v := .ref ga) (C := RX2) (T := TX2) (N := 18) hx hb hg inGX2 hown hK hP 0 rfl rfl 11 (by decide) (hg _ q_1_96) (fun _ h9 => h9) hg_11 dX2_start_9 ?_
  refine lv_iconst (v := 0) hx hb dX2_start_12 (by decide) ?_
  have hPc_2 := hP.sub (ws' := [(ga, .inl (y 1, 6, .inl fga))]) [1] rfl
  have hDc_2 := hD.sub (ws' := [(ga, .inl (y 1, 6, .inl fga))]) [1] (by decide +kernel) rfl
  have hFc_2 := va_free (wc := [(ga, .inl (y 1, 6, .inl fga))]) hD hS hA [1] rfl
  refine va_callv (va_runS (As := [.ref ga, .int 0]) (rest := []) ⟨hx, hb, hml, hown, hg⟩ (c_fill_6 l D y H_1.size ga fga 0 ) (va_cwS 2 hg (px_gS q_1_61 q_1_62 q_1_4 q_1_63) rfl rfl rfl (by decide +kernel) ⟨Nat.le_of_ble_eq_true rfl, Nat.le_of_ble_eq_true rfl⟩) (px_preS hK hPc_2 hDc_2) rfl rfl hl.1 rfl (lv_room (Nat.le_of_ble_eq_true rfl)) dX2_start_13 ⟨Nat.le_of_ble_eq_true rfl, Nat.le_of_ble_eq_true rfl⟩) hS (fun q _ h => hFc_2 q h) hFc_2 (fun u_2 t_2 H_2 locs_2 ht_2 hvm_2 hw_2 hB_2 hz_2 hk_2 hS_2 => ?_)
  refine W.cs (cells' := 0) (slots' := 0) rfl rfl ?_
  obtain ⟨hP1_2, hD1_2⟩ := hB_2
  rw [ht_2] at hP1_2
  obtain ⟨hP_2, hD_2⟩ := va_join (wr := [(g, .inr (2, fg)), (gv, .inl (y 1, 6, .inl fgv)), (gl, .inl (y 1, 6, .inl fgl)), (gk, .inr (3, fgk)), (gs, .inl (y 1, 78, .inl fgs)), (gq, .inl (y 1, 6, .inl fgq)), (go, .inl (y 1, 13, .inl (u_1.2.1 0)))]) (w1 := [(ga, .inl (y 1, 6, .inl (u_2.2.1 0)))]) hP hD [1] [0, 2, 3, 4, 5, 6, 7] rfl rfl (by decide +kernel) (by decide +kernel) hk_2 hFc_2 hP1_2 hD1_2
  clear hP hD hS hPc_2 hDc_2 hFc_2 hz_2 hk_2 hvm_2 ht_2 hP1_2 hD1_2
  have hP : va_P D vwCl [(g, .inr (2, fg)), (gv, .inl (y 1, 6, .inl fgv)), (gl, .inl (y 1, 6, .inl fgl)), (gk, .inr (3, fgk)), (gs, .inl (y 1, 78, .inl fgs)), (gq, .inl (y 1, 6, .inl fgq)), (go, .inl (y 1, 13, .inl (u_1.2.1 0))), (ga, .inl (y 1, 6, .inl (u_2.2.1 0)))] H_2 := hP_2
  have hD : va_D A [(g, .inr (2, fg)), (gv, .inl (y 1, 6, .inl fgv)), (gl, .inl (y 1, 6, .inl fgl)), (gk, .inr (3, fgk)), (gs, .inl (y 1, 78, .inl fgs)), (gq, .inl (y 1, 6, .inl fgq)), (go, .inl (y 1, 13, .inl (u_1.2.1 0))), (ga, .inl (y 1, 6, .inl (u_2.2.1 0)))] := hD_2
  have hS := hS_2
  clear hP_2 hD_2 hS_2
  refine lv_aload_n hx hb dX2_start_16 rfl (lv_at hl 0 rfl) ?_
  refine va_get (D := D) (ci := 2) (v := .ref gv) (C := RX2) (T := TX2) (N := 18) hx hb hg inGX2 hown hK hP 0 rfl rfl 12 (by decide) (hg _ q_1_98) (fun _ h9 => h9) hg_12 dX2_start_17 ?_
  refine lv_iconst (v := 0) hx hb dX2_start_20 (by decide) ?_
  have hPc_3 := hP.sub (ws' := [(gv, .inl (y 1, 6, .inl fgv))]) [1] rfl
  have hDc_3 := hD.sub (ws' := [(gv, .inl (y 1, 6, .inl fgv))]) [1] (by decide +kernel) rfl
  have hFc_3 := va_free (wc := [(gv, .inl (y 1, 6, .inl fgv))]) hD hS hA [1] rfl
  refine va_callv (va_runS (As := [.ref gv, .int 0]) (rest := []) ⟨hx, hb, hml, hown, hg⟩ (c_fill_6 l D y H_2.size gv fgv 0 ) (va_cwS 2 hg (px_gS q_1_61 q_1_62 q_1_4 q_1_63) rfl rfl rfl (by decide +kernel) ⟨Nat.le_of_ble_eq_true rfl, Nat.le_of_ble_eq_true rfl⟩) (px_preS hK hPc_3 hDc_3) rfl rfl hl.1 rfl (lv_room (Nat.le_of_ble_eq_true rfl)) dX2_start_21 ⟨Nat.le_of_ble_eq_true rfl, Nat.le_of_ble_eq_true rfl⟩) hS (fun q _ h => hFc_3 q h) hFc_3 (fun u_3 t_3 H_3 locs_3 ht_3 hvm_3 hw_3 hB_3 hz_3 hk_3 hS_3 => ?_)
  refine W.cs (cells' := 0) (slots' := 0) rfl rfl ?_
  obtain ⟨hP1_3, hD1_3⟩ := hB_3
  rw [ht_3] at hP1_3
  obtain ⟨hP_3, hD_3⟩ := va_join (wr := [(g, .inr (2, fg)), (gl, .inl (y 1, 6, .inl fgl)), (gk, .inr (3, fgk)), (gs, .inl (y 1, 78, .inl fgs)), (gq, .inl (y 1, 6, .inl fgq)), (go, .inl (y 1, 13, .inl (u_1.2.1 0))), (ga, .inl (y 1, 6, .inl (u_2.2.1 0)))]) (w1 := [(gv, .inl (y 1, 6, .inl (u_3.2.1 0)))]) hP hD [1] [0, 2, 3, 4, 5, 6, 7] rfl rfl (by decide +kernel) (by decide +kernel) hk_3 hFc_3 hP1_3 hD1_3
  clear hP hD hS hPc_3 hDc_3 hFc_3 hz_3 hk_3 hvm_3 ht_3 hP1_3 hD1_3
  have hP : va_P D vwCl [(g, .inr (2, fg)), (gl, .inl (y 1, 6, .inl fgl)), (gk, .inr (3, fgk)), (gs, .inl (y 1, 78, .inl fgs)), (gq, .inl (y 1, 6, .inl fgq)), (go, .inl (y 1, 13, .inl (u_1.2.1 0))), (ga, .inl (y 1, 6, .inl (u_2.2.1 0))), (gv, .inl (y 1, 6, .inl (u_3.2.1 0)))] H_3 := hP_3
  have hD : va_D A [(g, .inr (2, fg)), (gl, .inl (y 1, 6, .inl fgl)), (gk, .inr (3, fgk)), (gs, .inl (y 1, 78, .inl fgs)), (gq, .inl (y 1, 6, .inl fgq)), (go, .inl (y 1, 13, .inl (u_1.2.1 0))), (ga, .inl (y 1, 6, .inl (u_2.2.1 0))), (gv, .inl (y 1, 6, .inl (u_3.2.1 0)))] := hD_3
  have hS := hS_3
  clear hP_3 hD_3 hS_3
  refine lv_aload_n hx hb dX2_start_24 rfl (lv_at hl 0 rfl) ?_
  refine va_get (D := D) (ci := 2) (v := .ref gl) (C := RX2) (T := TX2) (N := 18) hx hb hg inGX2 hown hK hP 0 rfl rfl 13 (by decide) (hg _ q_1_100) (fun _ h9 => h9) hg_13 dX2_start_25 ?_
  refine lv_iconst (v := (-1)) hx hb dX2_start_28 (by decide) ?_
  have hPc_4 := hP.sub (ws' := [(gl, .inl (y 1, 6, .inl fgl))]) [1] rfl
  have hDc_4 := hD.sub (ws' := [(gl, .inl (y 1, 6, .inl fgl))]) [1] (by decide +kernel) rfl
  have hFc_4 := va_free (wc := [(gl, .inl (y 1, 6, .inl fgl))]) hD hS hA [1] rfl
  refine va_callv (va_runS (As := [.ref gl, .int (-1)]) (rest := []) ⟨hx, hb, hml, hown, hg⟩ (c_fill_6 l D y H_3.size gl fgl (-1) ) (va_cwS 2 hg (px_gS q_1_61 q_1_62 q_1_4 q_1_63) rfl rfl rfl (by decide +kernel) ⟨Nat.le_of_ble_eq_true rfl, Nat.le_of_ble_eq_true rfl⟩) (px_preS hK hPc_4 hDc_4) rfl rfl hl.1 rfl (lv_room (Nat.le_of_ble_eq_true rfl)) dX2_start_29 ⟨Nat.le_of_ble_eq_true rfl, Nat.le_of_ble_eq_true rfl⟩) hS (fun q _ h => hFc_4 q h) hFc_4 (fun u_4 t_4 H_4 locs_4 ht_4 hvm_4 hw_4 hB_4 hz_4 hk_4 hS_4 => ?_)
  refine W.cs (cells' := 0) (slots' := 0) rfl rfl ?_
  obtain ⟨hP1_4, hD1_4⟩ := hB_4
  rw [ht_4] at hP1_4
  obtain ⟨hP_4, hD_4⟩ := va_join (wr := [(g, .inr (2, fg)), (gk, .inr (3, fgk)), (gs, .inl (y 1, 78, .inl fgs)), (gq, .inl (y 1, 6, .inl fgq)), (go, .inl (y 1, 13, .inl (u_1.2.1 0))), (ga, .inl (y 1, 6, .inl (u_2.2.1 0))), (gv, .inl (y 1, 6, .inl (u_3.2.1 0)))]) (w1 := [(gl, .inl (y 1, 6, .inl (u_4.2.1 0)))]) hP hD [1] [0, 2, 3, 4, 5, 6, 7] rfl rfl (by decide +kernel) (by decide +kernel) hk_4 hFc_4 hP1_4 hD1_4
  clear hP hD hS hPc_4 hDc_4 hFc_4 hz_4 hk_4 hvm_4 ht_4 hP1_4 hD1_4
  have hP : va_P D vwCl [(g, .inr (2, fg)), (gk, .inr (3, fgk)), (gs, .inl (y 1, 78, .inl fgs)), (gq, .inl (y 1, 6, .inl fgq)), (go, .inl (y 1, 13, .inl (u_1.2.1 0))), (ga, .inl (y 1, 6, .inl (u_2.2.1 0))), (gv, .inl (y 1, 6, .inl (u_3.2.1 0))), (gl, .inl (y 1, 6, .inl (u_4.2.1 0)))] H_4 := hP_4
  have hD : va_D A [(g, .inr (2, fg)), (gk, .inr (3, fgk)), (gs, .inl (y 1, 78, .inl fgs)), (gq, .inl (y 1, 6, .inl fgq)), (go, .inl (y 1, 13, .inl (u_1.2.1 0))), (ga, .inl (y 1, 6, .inl (u_2.2.1 0))), (gv, .inl (y 1, 6, .inl (u_3.2.1 0))), (gl, .inl (y 1, 6, .inl (u_4.2.1 0)))] := hD_4
  have hS := hS_4
  clear hP_4 hD_4 hS_4
  refine lv_aload_n hx hb dX2_start_32 rfl (lv_at hl 0 rfl) ?_
  refine lv_iconst (v := 0) hx hb dX2_start_33 (by decide) ?_
  refine va_put (D := D) (ci := 2) (v := .int 0) (ty := .int) (C := RX2) (T := TX2) (N := 18) hx hb hg inGX2 tyX2 tyX2_ok nmX2 hown hK hP hD hS 0 rfl rfl 15 (by decide) (hg _ q_1_105) (fun _ h9 => h9) rfl (by decide +kernel) rfl rfl (px_len hg_15) dX2_start_34 (fun H_5 locs_5 hP_5 hD_5 hS_5 => ?_)
  clear hP hD hS
  have hP : va_P D vwCl [(g, .inr (2, (fg.set 15 (.int 0)))), (gk, .inr (3, fgk)), (gs, .inl (y 1, 78, .inl fgs)), (gq, .inl (y 1, 6, .inl fgq)), (go, .inl (y 1, 13, .inl (u_1.2.1 0))), (ga, .inl (y 1, 6, .inl (u_2.2.1 0))), (gv, .inl (y 1, 6, .inl (u_3.2.1 0))), (gl, .inl (y 1, 6, .inl (u_4.2.1 0)))] H_5 := hP_5
  have hD : va_D A [(g, .inr (2, (fg.set 15 (.int 0)))), (gk, .inr (3, fgk)), (gs, .inl (y 1, 78, .inl fgs)), (gq, .inl (y 1, 6, .inl fgq)), (go, .inl (y 1, 13, .inl (u_1.2.1 0))), (ga, .inl (y 1, 6, .inl (u_2.2.1 0))), (gv, .inl (y 1, 6, .inl (u_3.2.1 0))), (gl, .inl (y 1, 6, .inl (u_4.2.1 0)))] := hD_5
  have hS := hS_5
  clear hP_5 hD_5 hS_5
  refine lv_aload_n hx hb dX2_start_37 rfl (lv_at hl 0 rfl) ?_
  refine lv_iconst (v := 0) hx hb dX2_start_38 (by decide) ?_
  refine va_put (D := D) (ci := 2) (v := .int 0) (ty := .int) (C := RX2) (T := TX2) (N := 18) hx hb hg inGX2 tyX2 tyX2_ok nmX2 hown hK hP hD hS 0 rfl rfl 16 (by decide) (hg _ q_1_107) (fun _ h9 => h9) rfl (by decide +kernel) rfl rfl (px_len (px_sn (by decide) hg_16)) dX2_start_39 (fun H_6 locs_6 hP_6 hD_6 hS_6 => ?_)
  clear hP hD hS
  have hP : va_P D vwCl [(g, .inr (2, ((fg.set 15 (.int 0)).set 16 (.int 0)))), (gk, .inr (3, fgk)), (gs, .inl (y 1, 78, .inl fgs)), (gq, .inl (y 1, 6, .inl fgq)), (go, .inl (y 1, 13, .inl (u_1.2.1 0))), (ga, .inl (y 1, 6, .inl (u_2.2.1 0))), (gv, .inl (y 1, 6, .inl (u_3.2.1 0))), (gl, .inl (y 1, 6, .inl (u_4.2.1 0)))] H_6 := hP_6
  have hD : va_D A [(g, .inr (2, ((fg.set 15 (.int 0)).set 16 (.int 0)))), (gk, .inr (3, fgk)), (gs, .inl (y 1, 78, .inl fgs)), (gq, .inl (y 1, 6, .inl fgq)), (go, .inl (y 1, 13, .inl (u_1.2.1 0))), (ga, .inl (y 1, 6, .inl (u_2.2.1 0))), (gv, .inl (y 1, 6, .inl (u_3.2.1 0))), (gl, .inl (y 1, 6, .inl (u_4.2.1 0)))] := hD_6
  have hS := hS_6
  clear hP_6 hD_6 hS_6
  refine lv_aload_n hx hb dX2_start_42 rfl (lv_at hl 0 rfl) ?_
  refine va_get (D := D) (ci := 2) (v := .ref gk) (C := RX2) (T := TX2) (N := 18) hx hb hg inGX2 hown hK hP 0 rfl rfl 17 (by decide) (hg _ q_1_110) (fun _ h9 => h9) (px_sn (by decide) (px_sn (by decide) hg_17)) dX2_start_43 ?_
  have hPc_7 := hP.sub (ws' := [(gk, .inr (3, fgk)), (gs, .inl (y 1, 78, .inl fgs)), (gq, .inl (y 1, 6, .inl fgq))]) [1, 2, 3] rfl
  have hDc_7 := hD.sub (ws' := [(gk, .inr (3, fgk)), (gs, .inl (y 1, 78, .inl fgs)), (gq, .inl (y 1, 6, .inl fgq))]) [1, 2, 3] (by decide +kernel) rfl
  have hFc_7 := va_free (wc := [(gk, .inr (3, fgk)), (gs, .inl (y 1, 78, .inl fgs)), (gq, .inl (y 1, 6, .inl fgq))]) hD hS hA [1, 2, 3] rfl
  refine va_callv (va_runV (As := []) (rest := []) ⟨hx, hb, hml, hown, hg⟩ (c_X3_clear l D y H_6.size gk fgk gs gq fgs fgq hgk_0 hgk_2 hgk_3) (cwV 0 hg (px_gV q_3_44 q_3_45 q_3_46 q_1_3 q_3_47) rfl rfl rfl (by decide +kernel) ⟨Nat.le_of_ble_eq_true rfl, Nat.le_of_ble_eq_true rfl⟩) (px_preV hK hPc_7 hDc_7 (ci := 3) (q0 := 0) rfl rfl) rfl rfl hl.1 rfl (lv_room (Nat.le_of_ble_eq_true rfl)) dX2_start_46 ⟨Nat.le_of_ble_eq_true rfl, Nat.le_of_ble_eq_true rfl⟩) hS (fun q _ h => hFc_7 q h) hFc_7 (fun u_7 t_7 H_7 locs_7 ht_7 hvm_7 hw_7 hB_7 hz_7 hk_7 hS_7 => ?_)
  refine W.cs (cells' := 0) (slots' := 0) rfl rfl ?_
  obtain ⟨hP1_7, hD1_7⟩ := hB_7
  rw [ht_7] at hP1_7
  obtain ⟨hP_7, hD_7⟩ := va_join (wr := [(g, .inr (2, ((fg.set 15 (.int 0)).set 16 (.int 0)))), (go, .inl (y 1, 13, .inl (u_1.2.1 0))), (ga, .inl (y 1, 6, .inl (u_2.2.1 0))), (gv, .inl (y 1, 6, .inl (u_3.2.1 0))), (gl, .inl (y 1, 6, .inl (u_4.2.1 0)))]) (w1 := [(gk, .inr (3, (fgk.set 2 (.int 0)))), (gs, .inl (y 1, 78, .inl (u_7.2.1 0))), (gq, .inl (y 1, 6, .inl (u_7.2.1 1)))]) hP hD [1, 2, 3] [0, 4, 5, 6, 7] rfl rfl (by decide +kernel) (by decide +kernel) hk_7 hFc_7 hP1_7 hD1_7
  clear hP hD hS hPc_7 hDc_7 hFc_7 hz_7 hk_7 hvm_7 ht_7 hP1_7 hD1_7
  have hP : va_P D vwCl [(g, .inr (2, ((fg.set 15 (.int 0)).set 16 (.int 0)))), (go, .inl (y 1, 13, .inl (u_1.2.1 0))), (ga, .inl (y 1, 6, .inl (u_2.2.1 0))), (gv, .inl (y 1, 6, .inl (u_3.2.1 0))), (gl, .inl (y 1, 6, .inl (u_4.2.1 0))), (gk, .inr (3, (fgk.set 2 (.int 0)))), (gs, .inl (y 1, 78, .inl (u_7.2.1 0))), (gq, .inl (y 1, 6, .inl (u_7.2.1 1)))] H_7 := hP_7
  have hD : va_D A [(g, .inr (2, ((fg.set 15 (.int 0)).set 16 (.int 0)))), (go, .inl (y 1, 13, .inl (u_1.2.1 0))), (ga, .inl (y 1, 6, .inl (u_2.2.1 0))), (gv, .inl (y 1, 6, .inl (u_3.2.1 0))), (gl, .inl (y 1, 6, .inl (u_4.2.1 0))), (gk, .inr (3, (fgk.set 2 (.int 0)))), (gs, .inl (y 1, 78, .inl (u_7.2.1 0))), (gq, .inl (y 1, 6, .inl (u_7.2.1 1)))] := hD_7
  have hS := hS_7
  clear hP_7 hD_7 hS_7
  refine lv_iconst (v := 0) hx hb dX2_start_49 (by decide) ?_
  refine lv_istore_n (lv' := [(1, .int 0), (0, .ref g)]) hx hb dX2_start_50 rfl hl (by decide) rfl (fun ls hl => ?_)
  refine lv_iload_n hx hb dX2_start_51 rfl (lv_at hl 0 rfl) ?_
  refine lv_aload_n hx hb dX2_start_52 rfl (lv_at hl 1 rfl) ?_
  refine va_get (D := D) (ci := 2) (v := .int 0) (C := RX2) (T := TX2) (N := 18) hx hb hg inGX2 hown hK hP 0 rfl rfl 1 (by decide) (hg _ q_1_70) (fun _ h9 => h9) (px_sn (by decide) (px_sn (by decide) hg_1)) dX2_start_53 ?_
  refine lv_icmp_ge (tgt := 91) hx hb dX2_start_56 (by decide) (fun _ => ?_) (fun c_8 => absurd c_8 (by decide))
  refine lv_iconst (v := 0) hx hb dX2_start_91 (by decide) ?_
  refine lv_istore_n (lv' := [(1, .int 0), (0, .ref g)]) hx hb dX2_start_92 rfl hl (by decide) rfl (fun ls hl => ?_)
  refine lv_iload_n hx hb dX2_start_93 rfl (lv_at hl 0 rfl) ?_
  refine lv_aload_n hx hb dX2_start_94 rfl (lv_at hl 1 rfl) ?_
  refine va_get (D := D) (ci := 2) (v := .int 0) (C := RX2) (T := TX2) (N := 18) hx hb hg inGX2 hown hK hP 0 rfl rfl 1 (by decide) (hg _ q_1_70) (fun _ h9 => h9) (px_sn (by decide) (px_sn (by decide) hg_1)) dX2_start_95 ?_
  refine lv_icmp_ge (tgt := 130) hx hb dX2_start_98 (by decide) (fun _ => ?_) (fun c_9 => absurd c_9 (by decide))
  refine lv_aload_n hx hb dX2_start_130 rfl (lv_at hl 1 rfl) ?_
  refine lv_iconst (v := 0) hx hb dX2_start_131 (by decide) ?_
  have hPc_10 := hP.sub (ws' := [(g, .inr (2, ((fg.set 15 (.int 0)).set 16 (.int 0))))]) [0] rfl
  have hDc_10 := hD.sub (ws' := [(g, .inr (2, ((fg.set 15 (.int 0)).set 16 (.int 0))))]) [0] (by decide +kernel) rfl
  have hFc_10 := va_free (wc := [(g, .inr (2, ((fg.set 15 (.int 0)).set 16 (.int 0))))]) hD hS hA [0] rfl
  refine va_callv (va_runV (As := [.int 0]) (rest := []) ⟨hx, hb, hml, hown, hg⟩ (c_X2_settle l D y H_7.size g ((fg.set 15 (.int 0)).set 16 (.int 0)) (px_sn (by decide) (px_sn (by decide) hg_1)) (px_sn (by decide) (px_sn (by decide) hg_14))) (cwV 1 hg (px_gV q_3_71 q_3_73 q_p_11 q_1_2 q_3_74) rfl rfl rfl (by decide +kernel) ⟨Nat.le_of_ble_eq_true rfl, Nat.le_of_ble_eq_true rfl⟩) (px_preV hK hPc_10 hDc_10 (ci := 2) (q0 := 0) rfl rfl) rfl rfl hl.1 rfl (lv_room (Nat.le_of_ble_eq_true rfl)) dX2_start_132 ⟨Nat.le_of_ble_eq_true rfl, Nat.le_of_ble_eq_true rfl⟩) hS (fun q _ h => hFc_10 q h) hFc_10 (fun u_10 t_10 H_10 locs_10 ht_10 hvm_10 hw_10 hB_10 hz_10 hk_10 hS_10 => ?_)
  refine W.cs (cells' := 0) (slots' := 0) rfl rfl ?_
  obtain ⟨hP1_10, hD1_10⟩ := hB_10
  rw [ht_10] at hP1_10
  obtain ⟨hP_10, hD_10⟩ := va_join (wr := [(go, .inl (y 1, 13, .inl (u_1.2.1 0))), (ga, .inl (y 1, 6, .inl (u_2.2.1 0))), (gv, .inl (y 1, 6, .inl (u_3.2.1 0))), (gl, .inl (y 1, 6, .inl (u_4.2.1 0))), (gk, .inr (3, (fgk.set 2 (.int 0)))), (gs, .inl (y 1, 78, .inl (u_7.2.1 0))), (gq, .inl (y 1, 6, .inl (u_7.2.1 1)))]) (w1 := [(g, .inr (2, (((fg.set 15 (.int 0)).set 16 (.int 0)).set 14 (.int (-1)))))]) hP hD [0] [1, 2, 3, 4, 5, 6, 7] rfl rfl (by decide +kernel) (by decide +kernel) hk_10 hFc_10 hP1_10 hD1_10
  clear hP hD hS hPc_10 hDc_10 hFc_10 hz_10 hk_10 hvm_10 ht_10 hP1_10 hD1_10
  have hP : va_P D vwCl [(go, .inl (y 1, 13, .inl (u_1.2.1 0))), (ga, .inl (y 1, 6, .inl (u_2.2.1 0))), (gv, .inl (y 1, 6, .inl (u_3.2.1 0))), (gl, .inl (y 1, 6, .inl (u_4.2.1 0))), (gk, .inr (3, (fgk.set 2 (.int 0)))), (gs, .inl (y 1, 78, .inl (u_7.2.1 0))), (gq, .inl (y 1, 6, .inl (u_7.2.1 1))), (g, .inr (2, (((fg.set 15 (.int 0)).set 16 (.int 0)).set 14 (.int (-1)))))] H_10 := hP_10
  have hD : va_D A [(go, .inl (y 1, 13, .inl (u_1.2.1 0))), (ga, .inl (y 1, 6, .inl (u_2.2.1 0))), (gv, .inl (y 1, 6, .inl (u_3.2.1 0))), (gl, .inl (y 1, 6, .inl (u_4.2.1 0))), (gk, .inr (3, (fgk.set 2 (.int 0)))), (gs, .inl (y 1, 78, .inl (u_7.2.1 0))), (gq, .inl (y 1, 6, .inl (u_7.2.1 1))), (g, .inr (2, (((fg.set 15 (.int 0)).set 16 (.int 0)).set 14 (.int (-1)))))] := hD_10
  have hS := hS_10
  clear hP_10 hD_10 hS_10
  have hP9 := hP.sub (ws' := [(g, .inr (2, (((fg.set 15 (.int 0)).set 16 (.int 0)).set 14 (.int (-1))))), (go, .inl (y 1, 13, .inl (u_1.2.1 0))), (ga, .inl (y 1, 6, .inl (u_2.2.1 0))), (gv, .inl (y 1, 6, .inl (u_3.2.1 0))), (gl, .inl (y 1, 6, .inl (u_4.2.1 0))), (gk, .inr (3, (fgk.set 2 (.int 0)))), (gs, .inl (y 1, 78, .inl (u_7.2.1 0))), (gq, .inl (y 1, 6, .inl (u_7.2.1 1)))]) [7, 0, 1, 2, 3, 4, 5, 6] rfl
  have hD9 := hD.sub (ws' := [(g, .inr (2, (((fg.set 15 (.int 0)).set 16 (.int 0)).set 14 (.int (-1))))), (go, .inl (y 1, 13, .inl (u_1.2.1 0))), (ga, .inl (y 1, 6, .inl (u_2.2.1 0))), (gv, .inl (y 1, 6, .inl (u_3.2.1 0))), (gl, .inl (y 1, 6, .inl (u_4.2.1 0))), (gk, .inr (3, (fgk.set 2 (.int 0)))), (gs, .inl (y 1, 78, .inl (u_7.2.1 0))), (gq, .inl (y 1, 6, .inl (u_7.2.1 1)))]) [7, 0, 1, 2, 3, 4, 5, 6] (by decide +kernel) rfl
  exact W.vret hx hb hr (fun t ht hW => ⟨⟨(px_v [], px_vi [(u_1.2.1 0), (u_2.2.1 0), (u_3.2.1 0), (u_4.2.1 0), (u_7.2.1 0), (u_7.2.1 1)], px_vl []), rfl, trivial, by rw [ht]; exact hP9, hD9⟩, hS.F ht⟩) hS.2.2 dX2_start_135
