set_option maxHeartbeats 4000000 in
set_option maxRecDepth 100000 in
theorem law_fan {p : Program} {l : Launch} {e : Env} {s : State} {m : MethodId} {below : List Frame} {meth : Method} {c : Code} {b : Nat} {xs : Nat → Int32} {D : va_G} {y : Nat → ClassId} {ad : Nat → Nat} {bb : Nat → Int32} (hst : l.stackTraces = false) (C0 : lw_At p s m meth c b 6 xs) (hK : va_K D vwCl (px_tys y) s) (hYY : px_Y ad bb (fun q : Nat => s.heap.size ≤ q) s s.heap) (za0 : Nat) (za1 : Nat) (za2 : Nat) (za3 : Nat) (za4 : Nat) (za5 : Nat) (za6 : Nat) (za7 : Nat) (za8 : Nat) (za9 : Nat) (za10 : Nat) (za11 : Nat) (za12 : Nat) (za13 : Nat) (za14 : Nat) (za15 : Nat) (za16 : Nat) (za17 : Nat) (za18 : Nat) (za19 : Nat) (za20 : Nat) (za21 : Nat) (za22 : Nat) (za23 : Nat) (za24 : Nat) (za25 : Nat) (za26 : Nat) (za27 : Nat) (za28 : Nat) (za29 : Nat) (za30 : Nat) (za31 : Nat) (za32 : Nat) (za33 : Nat) (za34 : Nat) (za35 : Nat) (za36 : Nat) (za37 : Nat) (za38 : Nat) (za39 : Nat) (za40 : Nat) (za41 : Nat) (za42 : Nat) (za43 : Nat) (za44 : Nat) (za45 : Nat) (za46 : Nat) (za47 : Nat) (za48 : Nat) (za49 : Nat) (za50 : Nat) (za51 : Nat) (za52 : Nat) (za53 : Nat) (za54 : Nat) (za55 : Nat) (za56 : Nat) (za57 : Nat) (za58 : Nat) (za59 : Nat) (za60 : Nat) (za61 : Nat) (za62 : Nat) (za63 : Nat) (za64 : Nat) (za65 : Nat) (za66 : Nat) (za67 : Nat) (za68 : Nat) (za69 : Nat) (za70 : Nat) (za71 : Nat) (za72 : Nat) (za73 : Nat) (za74 : Nat) (za75 : Nat) (za76 : Nat) (zf0 : Nat → Int32) (zf1 : Nat → Int32) (zf2 : Nat → Int32) (zf3 : Nat → Int32) (zf4 : Nat → Int64) (zf5 : Nat → Int32) (zf6 : Nat → Int32) (zf7 : Nat → Int64) (hzf5 : ∀ j, j < 8 → zf5 j = (-1)) (hzf6 : ∀ j, j < 4 → zf6 j = (-1)) {H : Heap} {locs : List Loc} {ls : Array Slot} (hP : va_P D vwCl [px_o za0 10 [.ref za1, .int 0, .int 0, .ref za2, .ref za15, .ref za28, .ref za30, .ref za33, .ref za35, .ref za37, .ref za40, .ref za42, .ref za43, .ref za46, .ref za44, .ref za47, .ref za45, .int 0, .null, .null], px_i za1 (y 0) 940 (fun _ => 0), px_o za2 2 [.int 0, .int 0, .int 0, .int 0, .ref za3, .ref za4, .ref za5, .ref za6, .int 0, .int 0, .ref za13, .ref za7, .ref za8, .ref za14, .int (-1), .int 0, .int 0, .ref za9], px_l za3 (y 2) 6 (fun _ => 0), px_i za4 (y 1) 78 (fun _ => 0), px_i za5 (y 1) 6 (fun _ => 0), px_i za6 (y 1) 52 (fun _ => 0), px_i za7 (y 1) 6 (fun _ => 0), px_i za8 (y 1) 6 (fun _ => 0), px_o za9 3 [.ref za10, .ref za11, .int 0, .ref za12], px_i za10 (y 1) 78 (fun _ => 0), px_i za11 (y 1) 52 (fun _ => 0), px_i za12 (y 1) 6 (fun _ => 0), px_i za13 (y 1) 13 zf0, px_i za14 (y 1) 6 zf1, px_o za15 2 [.int 0, .int 0, .int 0, .int 0, .ref za16, .ref za17, .ref za18, .ref za19, .int 0, .int 0, .ref za26, .ref za20, .ref za21, .ref za27, .int (-1), .int 0, .int 0, .ref za22], px_l za16 (y 2) 6 (fun _ => 0), px_i za17 (y 1) 78 (fun _ => 0), px_i za18 (y 1) 6 (fun _ => 0), px_i za19 (y 1) 52 (fun _ => 0), px_i za20 (y 1) 6 (fun _ => 0), px_i za21 (y 1) 6 (fun _ => 0), px_o za22 3 [.ref za23, .ref za24, .int 0, .ref za25], px_i za23 (y 1) 78 (fun _ => 0), px_i za24 (y 1) 52 (fun _ => 0), px_i za25 (y 1) 6 (fun _ => 0), px_i za26 (y 1) 13 zf2, px_i za27 (y 1) 6 zf3, px_o za28 7 [.ref za29, .int 0], px_i za29 (y 1) 40 (fun _ => 0), px_o za30 6 [.ref za31, .ref za32, .int 0, .int 0, .int 0, .int 302, .int 0, .int 0, .long 0, .int 0, .int 0], px_l za31 (y 2) 19 zf4, px_i za32 (y 0) 0 (fun _ => 0), px_o za33 9 [.ref za30, .ref za34, .int 0, .int 0], px_i za34 (y 1) 13 (fun _ => 0), px_o za35 1 [.ref za30, .ref za36, .int 0], px_i za36 (y 1) 120 (fun _ => 0), px_o za37 8 [.ref za30, .ref za38, .int 0], px_o za38 7 [.ref za39, .int 0], px_i za39 (y 1) 40 (fun _ => 0), px_o za40 5 [.ref za41, .int 0, .int 0], px_q za41 (y 4) 8 (fun _ => none), px_q za42 (y 4) 2 (fun _ => none), px_q za43 (y 5) 2 (fun _ => none), px_i za44 (y 1) 8 (fun _ => 0), px_i za45 (y 1) 78 (fun _ => 0), px_i za46 (y 1) 8 zf5, px_i za47 (y 1) 4 zf6, px_o za48 11 [.int 0, .ref za49, .int 0, .int 0, .int 0, .int 0, .ref za50, .ref za51, .ref za52, .ref za53, .ref za54, .int 0, .int 0, .int 0, .int 0, .int 0, .int 0, .long 0, .int 0, .int 0, .int 0, .int 0, .int 0, .ref za55, .int 0, .ref za56, .ref za57, .int 0, .ref za58, .ref za59, .ref za60, .ref za61, .ref za62, .int 0, .int 0, .int 0, .ref za63, .int 0, .ref za64, .ref za65, .ref za66, .ref za67, .int 0, .int 0, .int 0, .int 0, .int 0, .int 0, .ref za68, .int 0, .ref za69, .int 0, .int 0, .ref za70, .int 0, .ref za71, .int 0, .int 0, .int 0, .int 0, .int 0, .ref za72, .ref za73, .ref za74, .ref za75], px_i za49 (y 0) 940 (fun _ => 0), px_i za50 (y 1) 765 (upd (fun _ => 0) 4 (-1)), px_i za51 (y 1) 584 (fun _ => 0), px_i za52 (y 1) 135 (fun _ => 0), px_l za53 (y 2) 12 (fun _ => 0), px_l za54 (y 2) 19 zf7, px_i za55 (y 1) 8 (fun _ => 0), px_i za56 (y 1) 4640 (fun _ => 0), px_i za57 (y 1) 580 (fun _ => 0), px_i za58 (y 1) 13 (fun _ => 0), px_i za59 (y 1) 6 (fun _ => 0), px_i za60 (y 1) 6 (fun _ => 0), px_l za61 (y 2) 15625 (fun _ => 0), px_l za62 (y 2) 15625 (fun _ => 0), px_i za63 (y 1) 65 (fun _ => 0), px_i za64 (y 1) 156250 (fun _ => 0), px_i za65 (y 1) 400 (fun _ => 0), px_i za66 (y 1) 3 (fun _ => 0), px_i za67 (y 1) 3 (fun _ => 0), px_i za68 (y 1) 6 (fun _ => 0), px_i za69 (y 1) 52 (fun _ => 0), px_i za70 (y 1) 4 (fun _ => 0), px_i za71 (y 1) 45 (fun _ => 0), px_i za72 (y 3) 45 (fun _ => 0), px_i za73 (y 1) 1530 (fun _ => 0), px_l za74 (y 2) 12 (fun _ => 0), px_i za75 (y 3) 2 (fun _ => 0), px_l za76 (y 2) 1 (fun _ => 0)] H) (hD : va_D (fun q : Nat => s.heap.size ≤ q) [px_o za0 10 [.ref za1, .int 0, .int 0, .ref za2, .ref za15, .ref za28, .ref za30, .ref za33, .ref za35, .ref za37, .ref za40, .ref za42, .ref za43, .ref za46, .ref za44, .ref za47, .ref za45, .int 0, .null, .null], px_i za1 (y 0) 940 (fun _ => 0), px_o za2 2 [.int 0, .int 0, .int 0, .int 0, .ref za3, .ref za4, .ref za5, .ref za6, .int 0, .int 0, .ref za13, .ref za7, .ref za8, .ref za14, .int (-1), .int 0, .int 0, .ref za9], px_l za3 (y 2) 6 (fun _ => 0), px_i za4 (y 1) 78 (fun _ => 0), px_i za5 (y 1) 6 (fun _ => 0), px_i za6 (y 1) 52 (fun _ => 0), px_i za7 (y 1) 6 (fun _ => 0), px_i za8 (y 1) 6 (fun _ => 0), px_o za9 3 [.ref za10, .ref za11, .int 0, .ref za12], px_i za10 (y 1) 78 (fun _ => 0), px_i za11 (y 1) 52 (fun _ => 0), px_i za12 (y 1) 6 (fun _ => 0), px_i za13 (y 1) 13 zf0, px_i za14 (y 1) 6 zf1, px_o za15 2 [.int 0, .int 0, .int 0, .int 0, .ref za16, .ref za17, .ref za18, .ref za19, .int 0, .int 0, .ref za26, .ref za20, .ref za21, .ref za27, .int (-1), .int 0, .int 0, .ref za22], px_l za16 (y 2) 6 (fun _ => 0), px_i za17 (y 1) 78 (fun _ => 0), px_i za18 (y 1) 6 (fun _ => 0), px_i za19 (y 1) 52 (fun _ => 0), px_i za20 (y 1) 6 (fun _ => 0), px_i za21 (y 1) 6 (fun _ => 0), px_o za22 3 [.ref za23, .ref za24, .int 0, .ref za25], px_i za23 (y 1) 78 (fun _ => 0), px_i za24 (y 1) 52 (fun _ => 0), px_i za25 (y 1) 6 (fun _ => 0), px_i za26 (y 1) 13 zf2, px_i za27 (y 1) 6 zf3, px_o za28 7 [.ref za29, .int 0], px_i za29 (y 1) 40 (fun _ => 0), px_o za30 6 [.ref za31, .ref za32, .int 0, .int 0, .int 0, .int 302, .int 0, .int 0, .long 0, .int 0, .int 0], px_l za31 (y 2) 19 zf4, px_i za32 (y 0) 0 (fun _ => 0), px_o za33 9 [.ref za30, .ref za34, .int 0, .int 0], px_i za34 (y 1) 13 (fun _ => 0), px_o za35 1 [.ref za30, .ref za36, .int 0], px_i za36 (y 1) 120 (fun _ => 0), px_o za37 8 [.ref za30, .ref za38, .int 0], px_o za38 7 [.ref za39, .int 0], px_i za39 (y 1) 40 (fun _ => 0), px_o za40 5 [.ref za41, .int 0, .int 0], px_q za41 (y 4) 8 (fun _ => none), px_q za42 (y 4) 2 (fun _ => none), px_q za43 (y 5) 2 (fun _ => none), px_i za44 (y 1) 8 (fun _ => 0), px_i za45 (y 1) 78 (fun _ => 0), px_i za46 (y 1) 8 zf5, px_i za47 (y 1) 4 zf6, px_o za48 11 [.int 0, .ref za49, .int 0, .int 0, .int 0, .int 0, .ref za50, .ref za51, .ref za52, .ref za53, .ref za54, .int 0, .int 0, .int 0, .int 0, .int 0, .int 0, .long 0, .int 0, .int 0, .int 0, .int 0, .int 0, .ref za55, .int 0, .ref za56, .ref za57, .int 0, .ref za58, .ref za59, .ref za60, .ref za61, .ref za62, .int 0, .int 0, .int 0, .ref za63, .int 0, .ref za64, .ref za65, .ref za66, .ref za67, .int 0, .int 0, .int 0, .int 0, .int 0, .int 0, .ref za68, .int 0, .ref za69, .int 0, .int 0, .ref za70, .int 0, .ref za71, .int 0, .int 0, .int 0, .int 0, .int 0, .ref za72, .ref za73, .ref za74, .ref za75], px_i za49 (y 0) 940 (fun _ => 0), px_i za50 (y 1) 765 (upd (fun _ => 0) 4 (-1)), px_i za51 (y 1) 584 (fun _ => 0), px_i za52 (y 1) 135 (fun _ => 0), px_l za53 (y 2) 12 (fun _ => 0), px_l za54 (y 2) 19 zf7, px_i za55 (y 1) 8 (fun _ => 0), px_i za56 (y 1) 4640 (fun _ => 0), px_i za57 (y 1) 580 (fun _ => 0), px_i za58 (y 1) 13 (fun _ => 0), px_i za59 (y 1) 6 (fun _ => 0), px_i za60 (y 1) 6 (fun _ => 0), px_l za61 (y 2) 15625 (fun _ => 0), px_l za62 (y 2) 15625 (fun _ => 0), px_i za63 (y 1) 65 (fun _ => 0), px_i za64 (y 1) 156250 (fun _ => 0), px_i za65 (y 1) 400 (fun _ => 0), px_i za66 (y 1) 3 (fun _ => 0), px_i za67 (y 1) 3 (fun _ => 0), px_i za68 (y 1) 6 (fun _ => 0), px_i za69 (y 1) 52 (fun _ => 0), px_i za70 (y 1) 4 (fun _ => 0), px_i za71 (y 1) 45 (fun _ => 0), px_i za72 (y 3) 45 (fun _ => 0), px_i za73 (y 1) 1530 (fun _ => 0), px_l za74 (y 2) 12 (fun _ => 0), px_i za75 (y 3) 2 (fun _ => 0), px_l za76 (y 2) 1 (fun _ => 0)]) (hS : va_S (fun q : Nat => s.heap.size ≤ q) s.heap H locs) (hl : lv_has ls 8 [(4, .int 0), (3, .ref za76), (2, .ref za48), (1, .ref za0), (0, .ref b)]) : W p l e room_1 s m #[Value.ref b] below meth c H locs 77 199433 (lw_Z below #[Value.ref b] s) (F0 m 23 ls []) := by
  obtain ⟨hx, hb, hr, hml, hown, hts, hX, hbl, hlocks, hgv⟩ := id C0
  have hg := gw_hts hts
  have hown : s.vm.findClass RL = some m.cls := hown
  have hbA : ¬ (fun q : Nat => s.heap.size ≤ q) b := Nat.not_le.mpr hbl
  refine lv_iload hx hb dL_law_23 (lv_at hl 0 rfl) ?_
  refine lv_aload_n hx hb dL_law_25 rfl (lv_at hl 4 rfl) ?_
  refine va_slen hx hb hX hbl hbA hS dL_law_26 ?_
  refine px_top (v := 6) rfl ?_
  refine lv_bipush (v := 6) hx hb dL_law_27 (by decide) ?_
  refine lv_isub hx hb dL_law_29 ?_
  refine px_top (v := 0) (by decide) ?_
  refine lv_icmp_gt (tgt := 1478) hx hb dL_law_30 (by decide) (fun h => absurd h (by decide)) (fun _ => ?_)
  refine lv_aload_n hx hb dL_law_33 rfl (lv_at hl 4 rfl) ?_
  refine lv_iload hx hb dL_law_34 (lv_at hl 0 rfl) ?_
  refine va_sld hx hb hX hbl hbA hS (i := 0) (px_in (by decide)) dL_law_36 ?_
  refine px_top (v := xs 0) rfl ?_
  refine lv_bipush (v := 63) hx hb dL_law_37 (by decide) ?_
  refine lv_iand hx hb dL_law_39 ?_
  obtain ⟨j, hj, ej⟩ := pk_andE (xs 0) (m := 63) 6 (by decide)
  refine px_top (v := nI j) ej ?_
  clear ej
  rcases Nat.lt_or_ge j 37 with h37 | h37
  · match j, h37 with
    | 0, _ =>
      refine px_top (v := 0) rfl ?_
      refine lv_tableIn (off := 164) (tgt := 204) hx hb dL_law_40 (by decide) (by decide) (by decide) (by decide) ?_
      exact big_0 hst C0 hK hYY za0 za1 za2 za3 za4 za5 za6 za7 za8 za9 za10 za11 za12 za13 za14 za15 za16 za17 za18 za19 za20 za21 za22 za23 za24 za25 za26 za27 za28 za29 za30 za31 za32 za33 za34 za35 za36 za37 za38 za39 za40 za41 za42 za43 za44 za45 za46 za47 za48 za49 za50 za51 za52 za53 za54 za55 za56 za57 za58 za59 za60 za61 za62 za63 za64 za65 za66 za67 za68 za69 za70 za71 za72 za73 za74 za75 za76 zf0 zf1 zf2 zf3 zf4 zf5 zf6 zf7 hzf5 hzf6 hP hD hS hl
    | 1, _ =>
      refine px_top (v := 1) rfl ?_
      refine lv_tableIn (off := 237) (tgt := 277) hx hb dL_law_40 (by decide) (by decide) (by decide) (by decide) ?_
      exact big_1 hst C0 hK hYY za0 za1 za2 za3 za4 za5 za6 za7 za8 za9 za10 za11 za12 za13 za14 za15 za16 za17 za18 za19 za20 za21 za22 za23 za24 za25 za26 za27 za28 za29 za30 za31 za32 za33 za34 za35 za36 za37 za38 za39 za40 za41 za42 za43 za44 za45 za46 za47 za48 za49 za50 za51 za52 za53 za54 za55 za56 za57 za58 za59 za60 za61 za62 za63 za64 za65 za66 za67 za68 za69 za70 za71 za72 za73 za74 za75 za76 zf0 zf1 zf2 zf3 zf4 zf5 zf6 zf7 hzf5 hzf6 hP hD hS hl
    | 2, _ =>
      refine px_top (v := 2) rfl ?_
      refine lv_tableIn (off := 262) (tgt := 302) hx hb dL_law_40 (by decide) (by decide) (by decide) (by decide) ?_
      exact big_2 hst C0 hK hYY za0 za1 za2 za3 za4 za5 za6 za7 za8 za9 za10 za11 za12 za13 za14 za15 za16 za17 za18 za19 za20 za21 za22 za23 za24 za25 za26 za27 za28 za29 za30 za31 za32 za33 za34 za35 za36 za37 za38 za39 za40 za41 za42 za43 za44 za45 za46 za47 za48 za49 za50 za51 za52 za53 za54 za55 za56 za57 za58 za59 za60 za61 za62 za63 za64 za65 za66 za67 za68 za69 za70 za71 za72 za73 za74 za75 za76 zf0 zf1 zf2 zf3 zf4 zf5 zf6 zf7 hzf5 hzf6 hP hD hS hl
    | 3, _ =>
      refine px_top (v := 3) rfl ?_
      refine lv_tableIn (off := 275) (tgt := 315) hx hb dL_law_40 (by decide) (by decide) (by decide) (by decide) ?_
      exact big_3 hst C0 hK hYY za0 za1 za2 za3 za4 za5 za6 za7 za8 za9 za10 za11 za12 za13 za14 za15 za16 za17 za18 za19 za20 za21 za22 za23 za24 za25 za26 za27 za28 za29 za30 za31 za32 za33 za34 za35 za36 za37 za38 za39 za40 za41 za42 za43 za44 za45 za46 za47 za48 za49 za50 za51 za52 za53 za54 za55 za56 za57 za58 za59 za60 za61 za62 za63 za64 za65 za66 za67 za68 za69 za70 za71 za72 za73 za74 za75 za76 zf0 zf1 zf2 zf3 zf4 zf5 zf6 zf7 hzf5 hzf6 hP hD hS hl
    | 4, _ =>
      refine px_top (v := 4) rfl ?_
      refine lv_tableIn (off := 288) (tgt := 328) hx hb dL_law_40 (by decide) (by decide) (by decide) (by decide) ?_
      exact big_4 hst C0 hK hYY za0 za1 za2 za3 za4 za5 za6 za7 za8 za9 za10 za11 za12 za13 za14 za15 za16 za17 za18 za19 za20 za21 za22 za23 za24 za25 za26 za27 za28 za29 za30 za31 za32 za33 za34 za35 za36 za37 za38 za39 za40 za41 za42 za43 za44 za45 za46 za47 za48 za49 za50 za51 za52 za53 za54 za55 za56 za57 za58 za59 za60 za61 za62 za63 za64 za65 za66 za67 za68 za69 za70 za71 za72 za73 za74 za75 za76 zf0 zf1 zf2 zf3 zf4 zf5 zf6 zf7 hzf5 hzf6 hP hD hS hl
    | 5, _ =>
      refine px_top (v := 5) rfl ?_
      refine lv_tableIn (off := 356) (tgt := 396) hx hb dL_law_40 (by decide) (by decide) (by decide) (by decide) ?_
      exact big_5 hst C0 hK hYY za0 za1 za2 za3 za4 za5 za6 za7 za8 za9 za10 za11 za12 za13 za14 za15 za16 za17 za18 za19 za20 za21 za22 za23 za24 za25 za26 za27 za28 za29 za30 za31 za32 za33 za34 za35 za36 za37 za38 za39 za40 za41 za42 za43 za44 za45 za46 za47 za48 za49 za50 za51 za52 za53 za54 za55 za56 za57 za58 za59 za60 za61 za62 za63 za64 za65 za66 za67 za68 za69 za70 za71 za72 za73 za74 za75 za76 zf0 zf1 zf2 zf3 zf4 zf5 zf6 zf7 hzf5 hzf6 hP hD hS hl
    | 6, _ =>
      refine px_top (v := 6) rfl ?_
      refine lv_tableIn (off := 393) (tgt := 433) hx hb dL_law_40 (by decide) (by decide) (by decide) (by decide) ?_
      exact big_6 hst C0 hK hYY za0 za1 za2 za3 za4 za5 za6 za7 za8 za9 za10 za11 za12 za13 za14 za15 za16 za17 za18 za19 za20 za21 za22 za23 za24 za25 za26 za27 za28 za29 za30 za31 za32 za33 za34 za35 za36 za37 za38 za39 za40 za41 za42 za43 za44 za45 za46 za47 za48 za49 za50 za51 za52 za53 za54 za55 za56 za57 za58 za59 za60 za61 za62 za63 za64 za65 za66 za67 za68 za69 za70 za71 za72 za73 za74 za75 za76 zf0 zf1 zf2 zf3 zf4 zf5 zf6 zf7 hzf5 hzf6 hP hD hS hl
    | 7, _ =>
      refine px_top (v := 7) rfl ?_
      refine lv_tableIn (off := 418) (tgt := 458) hx hb dL_law_40 (by decide) (by decide) (by decide) (by decide) ?_
      exact big_7 hst C0 hK hYY za0 za1 za2 za3 za4 za5 za6 za7 za8 za9 za10 za11 za12 za13 za14 za15 za16 za17 za18 za19 za20 za21 za22 za23 za24 za25 za26 za27 za28 za29 za30 za31 za32 za33 za34 za35 za36 za37 za38 za39 za40 za41 za42 za43 za44 za45 za46 za47 za48 za49 za50 za51 za52 za53 za54 za55 za56 za57 za58 za59 za60 za61 za62 za63 za64 za65 za66 za67 za68 za69 za70 za71 za72 za73 za74 za75 za76 zf0 zf1 zf2 zf3 zf4 zf5 zf6 zf7 hzf5 hzf6 hP hD hS hl
    | 8, _ =>
      refine px_top (v := 8) rfl ?_
      refine lv_tableIn (off := 443) (tgt := 483) hx hb dL_law_40 (by decide) (by decide) (by decide) (by decide) ?_
      exact big_8 hst C0 hK hYY za0 za1 za2 za3 za4 za5 za6 za7 za8 za9 za10 za11 za12 za13 za14 za15 za16 za17 za18 za19 za20 za21 za22 za23 za24 za25 za26 za27 za28 za29 za30 za31 za32 za33 za34 za35 za36 za37 za38 za39 za40 za41 za42 za43 za44 za45 za46 za47 za48 za49 za50 za51 za52 za53 za54 za55 za56 za57 za58 za59 za60 za61 za62 za63 za64 za65 za66 za67 za68 za69 za70 za71 za72 za73 za74 za75 za76 zf0 zf1 zf2 zf3 zf4 zf5 zf6 zf7 hzf5 hzf6 hP hD hS hl
    | 9, _ =>
      refine px_top (v := 9) rfl ?_
      refine lv_tableIn (off := 468) (tgt := 508) hx hb dL_law_40 (by decide) (by decide) (by decide) (by decide) ?_
      exact big_9 hst C0 hK hYY za0 za1 za2 za3 za4 za5 za6 za7 za8 za9 za10 za11 za12 za13 za14 za15 za16 za17 za18 za19 za20 za21 za22 za23 za24 za25 za26 za27 za28 za29 za30 za31 za32 za33 za34 za35 za36 za37 za38 za39 za40 za41 za42 za43 za44 za45 za46 za47 za48 za49 za50 za51 za52 za53 za54 za55 za56 za57 za58 za59 za60 za61 za62 za63 za64 za65 za66 za67 za68 za69 za70 za71 za72 za73 za74 za75 za76 zf0 zf1 zf2 zf3 zf4 zf5 zf6 zf7 hzf5 hzf6 hP hD hS hl
    | 10, _ =>
      refine px_top (v := 10) rfl ?_
      refine lv_tableIn (off := 517) (tgt := 557) hx hb dL_law_40 (by decide) (by decide) (by decide) (by decide) ?_
      exact big_10 hst C0 hK hYY za0 za1 za2 za3 za4 za5 za6 za7 za8 za9 za10 za11 za12 za13 za14 za15 za16 za17 za18 za19 za20 za21 za22 za23 za24 za25 za26 za27 za28 za29 za30 za31 za32 za33 za34 za35 za36 za37 za38 za39 za40 za41 za42 za43 za44 za45 za46 za47 za48 za49 za50 za51 za52 za53 za54 za55 za56 za57 za58 za59 za60 za61 za62 za63 za64 za65 za66 za67 za68 za69 za70 za71 za72 za73 za74 za75 za76 zf0 zf1 zf2 zf3 zf4 zf5 zf6 zf7 hzf5 hzf6 hP hD hS hl
    | 11, _ =>
      refine px_top (v := 11) rfl ?_
      refine lv_tableIn (off := 578) (tgt := 618) hx hb dL_law_40 (by decide) (by decide) (by decide) (by decide) ?_
      exact big_11 hst C0 hK hYY za0 za1 za2 za3 za4 za5 za6 za7 za8 za9 za10 za11 za12 za13 za14 za15 za16 za17 za18 za19 za20 za21 za22 za23 za24 za25 za26 za27 za28 za29 za30 za31 za32 za33 za34 za35 za36 za37 za38 za39 za40 za41 za42 za43 za44 za45 za46 za47 za48 za49 za50 za51 za52 za53 za54 za55 za56 za57 za58 za59 za60 za61 za62 za63 za64 za65 za66 za67 za68 za69 za70 za71 za72 za73 za74 za75 za76 zf0 zf1 zf2 zf3 zf4 zf5 zf6 zf7 hzf5 hzf6 hP hD hS hl
    | 12, _ =>
      refine px_top (v := 12) rfl ?_
      refine lv_tableIn (off := 603) (tgt := 643) hx hb dL_law_40 (by decide) (by decide) (by decide) (by decide) ?_
      exact big_12 hst C0 hK hYY za0 za1 za2 za3 za4 za5 za6 za7 za8 za9 za10 za11 za12 za13 za14 za15 za16 za17 za18 za19 za20 za21 za22 za23 za24 za25 za26 za27 za28 za29 za30 za31 za32 za33 za34 za35 za36 za37 za38 za39 za40 za41 za42 za43 za44 za45 za46 za47 za48 za49 za50 za51 za52 za53 za54 za55 za56 za57 za58 za59 za60 za61 za62 za63 za64 za65 za66 za67 za68 za69 za70 za71 za72 za73 za74 za75 za76 zf0 zf1 zf2 zf3 zf4 zf5 zf6 zf7 hzf5 hzf6 hP hD hS hl
    | 13, _ =>
      refine px_top (v := 13) rfl ?_
      refine lv_tableIn (off := 616) (tgt := 656) hx hb dL_law_40 (by decide) (by decide) (by decide) (by decide) ?_
      exact big_13 hst C0 hK hYY za0 za1 za2 za3 za4 za5 za6 za7 za8 za9 za10 za11 za12 za13 za14 za15 za16 za17 za18 za19 za20 za21 za22 za23 za24 za25 za26 za27 za28 za29 za30 za31 za32 za33 za34 za35 za36 za37 za38 za39 za40 za41 za42 za43 za44 za45 za46 za47 za48 za49 za50 za51 za52 za53 za54 za55 za56 za57 za58 za59 za60 za61 za62 za63 za64 za65 za66 za67 za68 za69 za70 za71 za72 za73 za74 za75 za76 zf0 zf1 zf2 zf3 zf4 zf5 zf6 zf7 hzf5 hzf6 hP hD hS hl
    | 14, _ =>
      refine px_top (v := 14) rfl ?_
      refine lv_tableIn (off := 653) (tgt := 693) hx hb dL_law_40 (by decide) (by decide) (by decide) (by decide) ?_
      exact big_14 hst C0 hK hYY za0 za1 za2 za3 za4 za5 za6 za7 za8 za9 za10 za11 za12 za13 za14 za15 za16 za17 za18 za19 za20 za21 za22 za23 za24 za25 za26 za27 za28 za29 za30 za31 za32 za33 za34 za35 za36 za37 za38 za39 za40 za41 za42 za43 za44 za45 za46 za47 za48 za49 za50 za51 za52 za53 za54 za55 za56 za57 za58 za59 za60 za61 za62 za63 za64 za65 za66 za67 za68 za69 za70 za71 za72 za73 za74 za75 za76 zf0 zf1 zf2 zf3 zf4 zf5 zf6 zf7 hzf5 hzf6 hP hD hS hl
    | 15, _ =>
      refine px_top (v := 15) rfl ?_
      refine lv_tableIn (off := 690) (tgt := 730) hx hb dL_law_40 (by decide) (by decide) (by decide) (by decide) ?_
      exact big_15 hst C0 hK hYY za0 za1 za2 za3 za4 za5 za6 za7 za8 za9 za10 za11 za12 za13 za14 za15 za16 za17 za18 za19 za20 za21 za22 za23 za24 za25 za26 za27 za28 za29 za30 za31 za32 za33 za34 za35 za36 za37 za38 za39 za40 za41 za42 za43 za44 za45 za46 za47 za48 za49 za50 za51 za52 za53 za54 za55 za56 za57 za58 za59 za60 za61 za62 za63 za64 za65 za66 za67 za68 za69 za70 za71 za72 za73 za74 za75 za76 zf0 zf1 zf2 zf3 zf4 zf5 zf6 zf7 hzf5 hzf6 hP hD hS hl
    | 16, _ =>
      refine px_top (v := 16) rfl ?_
      refine lv_tableIn (off := 781) (tgt := 821) hx hb dL_law_40 (by decide) (by decide) (by decide) (by decide) ?_
      exact big_16 hst C0 hK hYY za0 za1 za2 za3 za4 za5 za6 za7 za8 za9 za10 za11 za12 za13 za14 za15 za16 za17 za18 za19 za20 za21 za22 za23 za24 za25 za26 za27 za28 za29 za30 za31 za32 za33 za34 za35 za36 za37 za38 za39 za40 za41 za42 za43 za44 za45 za46 za47 za48 za49 za50 za51 za52 za53 za54 za55 za56 za57 za58 za59 za60 za61 za62 za63 za64 za65 za66 za67 za68 za69 za70 za71 za72 za73 za74 za75 za76 zf0 zf1 zf2 zf3 zf4 zf5 zf6 zf7 hzf5 hzf6 hP hD hS hl
    | 17, _ =>
      refine px_top (v := 17) rfl ?_
      refine lv_tableIn (off := 860) (tgt := 900) hx hb dL_law_40 (by decide) (by decide) (by decide) (by decide) ?_
      exact big_17 hst C0 hK hYY za0 za1 za2 za3 za4 za5 za6 za7 za8 za9 za10 za11 za12 za13 za14 za15 za16 za17 za18 za19 za20 za21 za22 za23 za24 za25 za26 za27 za28 za29 za30 za31 za32 za33 za34 za35 za36 za37 za38 za39 za40 za41 za42 za43 za44 za45 za46 za47 za48 za49 za50 za51 za52 za53 za54 za55 za56 za57 za58 za59 za60 za61 za62 za63 za64 za65 za66 za67 za68 za69 za70 za71 za72 za73 za74 za75 za76 zf0 zf1 zf2 zf3 zf4 zf5 zf6 zf7 hzf5 hzf6 hP hD hS hl
    | 18, _ =>
      refine px_top (v := 18) rfl ?_
      refine lv_tableIn (off := 885) (tgt := 925) hx hb dL_law_40 (by decide) (by decide) (by decide) (by decide) ?_
      exact big_18 hst C0 hK hYY za0 za1 za2 za3 za4 za5 za6 za7 za8 za9 za10 za11 za12 za13 za14 za15 za16 za17 za18 za19 za20 za21 za22 za23 za24 za25 za26 za27 za28 za29 za30 za31 za32 za33 za34 za35 za36 za37 za38 za39 za40 za41 za42 za43 za44 za45 za46 za47 za48 za49 za50 za51 za52 za53 za54 za55 za56 za57 za58 za59 za60 za61 za62 za63 za64 za65 za66 za67 za68 za69 za70 za71 za72 za73 za74 za75 za76 zf0 zf1 zf2 zf3 zf4 zf5 zf6 zf7 hzf5 hzf6 hP hD hS hl
    | 19, _ =>
      refine px_top (v := 19) rfl ?_
      refine lv_tableIn (off := 910) (tgt := 950) hx hb dL_law_40 (by decide) (by decide) (by decide) (by decide) ?_
      exact big_19 hst C0 hK hYY za0 za1 za2 za3 za4 za5 za6 za7 za8 za9 za10 za11 za12 za13 za14 za15 za16 za17 za18 za19 za20 za21 za22 za23 za24 za25 za26 za27 za28 za29 za30 za31 za32 za33 za34 za35 za36 za37 za38 za39 za40 za41 za42 za43 za44 za45 za46 za47 za48 za49 za50 za51 za52 za53 za54 za55 za56 za57 za58 za59 za60 za61 za62 za63 za64 za65 za66 za67 za68 za69 za70 za71 za72 za73 za74 za75 za76 zf0 zf1 zf2 zf3 zf4 zf5 zf6 zf7 hzf5 hzf6 hP hD hS hl
    | 20, _ =>
      refine px_top (v := 20) rfl ?_
      refine lv_tableIn (off := 935) (tgt := 975) hx hb dL_law_40 (by decide) (by decide) (by decide) (by decide) ?_
      exact big_20 hst C0 hK hYY za0 za1 za2 za3 za4 za5 za6 za7 za8 za9 za10 za11 za12 za13 za14 za15 za16 za17 za18 za19 za20 za21 za22 za23 za24 za25 za26 za27 za28 za29 za30 za31 za32 za33 za34 za35 za36 za37 za38 za39 za40 za41 za42 za43 za44 za45 za46 za47 za48 za49 za50 za51 za52 za53 za54 za55 za56 za57 za58 za59 za60 za61 za62 za63 za64 za65 za66 za67 za68 za69 za70 za71 za72 za73 za74 za75 za76 zf0 zf1 zf2 zf3 zf4 zf5 zf6 zf7 hzf5 hzf6 hP hD hS hl
    | 21, _ =>
      refine px_top (v := 21) rfl ?_
      refine lv_tableIn (off := 960) (tgt := 1000) hx hb dL_law_40 (by decide) (by decide) (by decide) (by decide) ?_
      exact big_21 hst C0 hK hYY za0 za1 za2 za3 za4 za5 za6 za7 za8 za9 za10 za11 za12 za13 za14 za15 za16 za17 za18 za19 za20 za21 za22 za23 za24 za25 za26 za27 za28 za29 za30 za31 za32 za33 za34 za35 za36 za37 za38 za39 za40 za41 za42 za43 za44 za45 za46 za47 za48 za49 za50 za51 za52 za53 za54 za55 za56 za57 za58 za59 za60 za61 za62 za63 za64 za65 za66 za67 za68 za69 za70 za71 za72 za73 za74 za75 za76 zf0 zf1 zf2 zf3 zf4 zf5 zf6 zf7 hzf5 hzf6 hP hD hS hl
    | 22, _ =>
      refine px_top (v := 22) rfl ?_
      refine lv_tableIn (off := 973) (tgt := 1013) hx hb dL_law_40 (by decide) (by decide) (by decide) (by decide) ?_
      exact big_22 hst C0 hK hYY za0 za1 za2 za3 za4 za5 za6 za7 za8 za9 za10 za11 za12 za13 za14 za15 za16 za17 za18 za19 za20 za21 za22 za23 za24 za25 za26 za27 za28 za29 za30 za31 za32 za33 za34 za35 za36 za37 za38 za39 za40 za41 za42 za43 za44 za45 za46 za47 za48 za49 za50 za51 za52 za53 za54 za55 za56 za57 za58 za59 za60 za61 za62 za63 za64 za65 za66 za67 za68 za69 za70 za71 za72 za73 za74 za75 za76 zf0 zf1 zf2 zf3 zf4 zf5 zf6 zf7 hzf5 hzf6 hP hD hS hl
    | 23, _ =>
      refine px_top (v := 23) rfl ?_
      refine lv_tableIn (off := 986) (tgt := 1026) hx hb dL_law_40 (by decide) (by decide) (by decide) (by decide) ?_
      exact big_23 hst C0 hK hYY za0 za1 za2 za3 za4 za5 za6 za7 za8 za9 za10 za11 za12 za13 za14 za15 za16 za17 za18 za19 za20 za21 za22 za23 za24 za25 za26 za27 za28 za29 za30 za31 za32 za33 za34 za35 za36 za37 za38 za39 za40 za41 za42 za43 za44 za45 za46 za47 za48 za49 za50 za51 za52 za53 za54 za55 za56 za57 za58 za59 za60 za61 za62 za63 za64 za65 za66 za67 za68 za69 za70 za71 za72 za73 za74 za75 za76 zf0 zf1 zf2 zf3 zf4 zf5 zf6 zf7 hzf5 hzf6 hP hD hS hl
    | 24, _ =>
      refine px_top (v := 24) rfl ?_
      refine lv_tableIn (off := 1023) (tgt := 1063) hx hb dL_law_40 (by decide) (by decide) (by decide) (by decide) ?_
      exact big_24 hst C0 hK hYY za0 za1 za2 za3 za4 za5 za6 za7 za8 za9 za10 za11 za12 za13 za14 za15 za16 za17 za18 za19 za20 za21 za22 za23 za24 za25 za26 za27 za28 za29 za30 za31 za32 za33 za34 za35 za36 za37 za38 za39 za40 za41 za42 za43 za44 za45 za46 za47 za48 za49 za50 za51 za52 za53 za54 za55 za56 za57 za58 za59 za60 za61 za62 za63 za64 za65 za66 za67 za68 za69 za70 za71 za72 za73 za74 za75 za76 zf0 zf1 zf2 zf3 zf4 zf5 zf6 zf7 hzf5 hzf6 hP hD hS hl
    | 25, _ =>
      refine px_top (v := 25) rfl ?_
      refine lv_tableIn (off := 1048) (tgt := 1088) hx hb dL_law_40 (by decide) (by decide) (by decide) (by decide) ?_
      exact big_25 hst C0 hK hYY za0 za1 za2 za3 za4 za5 za6 za7 za8 za9 za10 za11 za12 za13 za14 za15 za16 za17 za18 za19 za20 za21 za22 za23 za24 za25 za26 za27 za28 za29 za30 za31 za32 za33 za34 za35 za36 za37 za38 za39 za40 za41 za42 za43 za44 za45 za46 za47 za48 za49 za50 za51 za52 za53 za54 za55 za56 za57 za58 za59 za60 za61 za62 za63 za64 za65 za66 za67 za68 za69 za70 za71 za72 za73 za74 za75 za76 zf0 zf1 zf2 zf3 zf4 zf5 zf6 zf7 hzf5 hzf6 hP hD hS hl
    | 26, _ =>
      refine px_top (v := 26) rfl ?_
      refine lv_tableIn (off := 1085) (tgt := 1125) hx hb dL_law_40 (by decide) (by decide) (by decide) (by decide) ?_
      exact big_26 hst C0 hK hYY za0 za1 za2 za3 za4 za5 za6 za7 za8 za9 za10 za11 za12 za13 za14 za15 za16 za17 za18 za19 za20 za21 za22 za23 za24 za25 za26 za27 za28 za29 za30 za31 za32 za33 za34 za35 za36 za37 za38 za39 za40 za41 za42 za43 za44 za45 za46 za47 za48 za49 za50 za51 za52 za53 za54 za55 za56 za57 za58 za59 za60 za61 za62 za63 za64 za65 za66 za67 za68 za69 za70 za71 za72 za73 za74 za75 za76 zf0 zf1 zf2 zf3 zf4 zf5 zf6 zf7 hzf5 hzf6 hP hD hS hl
    | 27, _ =>
      refine px_top (v := 27) rfl ?_
      refine lv_tableIn (off := 1146) (tgt := 1186) hx hb dL_law_40 (by decide) (by decide) (by decide) (by decide) ?_
      exact big_27 hst C0 hK hYY za0 za1 za2 za3 za4 za5 za6 za7 za8 za9 za10 za11 za12 za13 za14 za15 za16 za17 za18 za19 za20 za21 za22 za23 za24 za25 za26 za27 za28 za29 za30 za31 za32 za33 za34 za35 za36 za37 za38 za39 za40 za41 za42 za43 za44 za45 za46 za47 za48 za49 za50 za51 za52 za53 za54 za55 za56 za57 za58 za59 za60 za61 za62 za63 za64 za65 za66 za67 za68 za69 za70 za71 za72 za73 za74 za75 za76 zf0 zf1 zf2 zf3 zf4 zf5 zf6 zf7 hzf5 hzf6 hP hD hS hl
    | 28, _ =>
      refine px_top (v := 28) rfl ?_
      refine lv_tableIn (off := 1207) (tgt := 1247) hx hb dL_law_40 (by decide) (by decide) (by decide) (by decide) ?_
      exact big_28 hst C0 hK hYY za0 za1 za2 za3 za4 za5 za6 za7 za8 za9 za10 za11 za12 za13 za14 za15 za16 za17 za18 za19 za20 za21 za22 za23 za24 za25 za26 za27 za28 za29 za30 za31 za32 za33 za34 za35 za36 za37 za38 za39 za40 za41 za42 za43 za44 za45 za46 za47 za48 za49 za50 za51 za52 za53 za54 za55 za56 za57 za58 za59 za60 za61 za62 za63 za64 za65 za66 za67 za68 za69 za70 za71 za72 za73 za74 za75 za76 zf0 zf1 zf2 zf3 zf4 zf5 zf6 zf7 hzf5 hzf6 hP hD hS hl
    | 29, _ =>
      refine px_top (v := 29) rfl ?_
      refine lv_tableIn (off := 1256) (tgt := 1296) hx hb dL_law_40 (by decide) (by decide) (by decide) (by decide) ?_
      exact big_29 hst C0 hK hYY za0 za1 za2 za3 za4 za5 za6 za7 za8 za9 za10 za11 za12 za13 za14 za15 za16 za17 za18 za19 za20 za21 za22 za23 za24 za25 za26 za27 za28 za29 za30 za31 za32 za33 za34 za35 za36 za37 za38 za39 za40 za41 za42 za43 za44 za45 za46 za47 za48 za49 za50 za51 za52 za53 za54 za55 za56 za57 za58 za59 za60 za61 za62 za63 za64 za65 za66 za67 za68 za69 za70 za71 za72 za73 za74 za75 za76 zf0 zf1 zf2 zf3 zf4 zf5 zf6 zf7 hzf5 hzf6 hP hD hS hl
    | 30, _ =>
      refine px_top (v := 30) rfl ?_
      refine lv_tableIn (off := 1269) (tgt := 1309) hx hb dL_law_40 (by decide) (by decide) (by decide) (by decide) ?_
      exact big_30 hst C0 hK hYY za0 za1 za2 za3 za4 za5 za6 za7 za8 za9 za10 za11 za12 za13 za14 za15 za16 za17 za18 za19 za20 za21 za22 za23 za24 za25 za26 za27 za28 za29 za30 za31 za32 za33 za34 za35 za36 za37 za38 za39 za40 za41 za42 za43 za44 za45 za46 za47 za48 za49 za50 za51 za52 za53 za54 za55 za56 za57 za58 za59 za60 za61 za62 za63 za64 za65 za66 za67 za68 za69 za70 za71 za72 za73 za74 za75 za76 zf0 zf1 zf2 zf3 zf4 zf5 zf6 zf7 hzf5 hzf6 hP hD hS hl
    | 31, _ =>
      refine px_top (v := 31) rfl ?_
      refine lv_tableIn (off := 1294) (tgt := 1334) hx hb dL_law_40 (by decide) (by decide) (by decide) (by decide) ?_
      exact big_31 hst C0 hK hYY za0 za1 za2 za3 za4 za5 za6 za7 za8 za9 za10 za11 za12 za13 za14 za15 za16 za17 za18 za19 za20 za21 za22 za23 za24 za25 za26 za27 za28 za29 za30 za31 za32 za33 za34 za35 za36 za37 za38 za39 za40 za41 za42 za43 za44 za45 za46 za47 za48 za49 za50 za51 za52 za53 za54 za55 za56 za57 za58 za59 za60 za61 za62 za63 za64 za65 za66 za67 za68 za69 za70 za71 za72 za73 za74 za75 za76 zf0 zf1 zf2 zf3 zf4 zf5 zf6 zf7 hzf5 hzf6 hP hD hS hl
    | 32, _ =>
      refine px_top (v := 32) rfl ?_
      refine lv_tableIn (off := 1319) (tgt := 1359) hx hb dL_law_40 (by decide) (by decide) (by decide) (by decide) ?_
      exact big_32 hst C0 hK hYY za0 za1 za2 za3 za4 za5 za6 za7 za8 za9 za10 za11 za12 za13 za14 za15 za16 za17 za18 za19 za20 za21 za22 za23 za24 za25 za26 za27 za28 za29 za30 za31 za32 za33 za34 za35 za36 za37 za38 za39 za40 za41 za42 za43 za44 za45 za46 za47 za48 za49 za50 za51 za52 za53 za54 za55 za56 za57 za58 za59 za60 za61 za62 za63 za64 za65 za66 za67 za68 za69 za70 za71 za72 za73 za74 za75 za76 zf0 zf1 zf2 zf3 zf4 zf5 zf6 zf7 hzf5 hzf6 hP hD hS hl
    | 33, _ =>
      refine px_top (v := 33) rfl ?_
      refine lv_tableIn (off := 1332) (tgt := 1372) hx hb dL_law_40 (by decide) (by decide) (by decide) (by decide) ?_
      exact big_33 hst C0 hK hYY za0 za1 za2 za3 za4 za5 za6 za7 za8 za9 za10 za11 za12 za13 za14 za15 za16 za17 za18 za19 za20 za21 za22 za23 za24 za25 za26 za27 za28 za29 za30 za31 za32 za33 za34 za35 za36 za37 za38 za39 za40 za41 za42 za43 za44 za45 za46 za47 za48 za49 za50 za51 za52 za53 za54 za55 za56 za57 za58 za59 za60 za61 za62 za63 za64 za65 za66 za67 za68 za69 za70 za71 za72 za73 za74 za75 za76 zf0 zf1 zf2 zf3 zf4 zf5 zf6 zf7 hzf5 hzf6 hP hD hS hl
    | 34, _ =>
      refine px_top (v := 34) rfl ?_
      refine lv_tableIn (off := 1357) (tgt := 1397) hx hb dL_law_40 (by decide) (by decide) (by decide) (by decide) ?_
      exact big_34 hst C0 hK hYY za0 za1 za2 za3 za4 za5 za6 za7 za8 za9 za10 za11 za12 za13 za14 za15 za16 za17 za18 za19 za20 za21 za22 za23 za24 za25 za26 za27 za28 za29 za30 za31 za32 za33 za34 za35 za36 za37 za38 za39 za40 za41 za42 za43 za44 za45 za46 za47 za48 za49 za50 za51 za52 za53 za54 za55 za56 za57 za58 za59 za60 za61 za62 za63 za64 za65 za66 za67 za68 za69 za70 za71 za72 za73 za74 za75 za76 zf0 zf1 zf2 zf3 zf4 zf5 zf6 zf7 hzf5 hzf6 hP hD hS hl
    | 35, _ =>
      refine px_top (v := 35) rfl ?_
      refine lv_tableIn (off := 1382) (tgt := 1422) hx hb dL_law_40 (by decide) (by decide) (by decide) (by decide) ?_
      exact big_35 hst C0 hK hYY za0 za1 za2 za3 za4 za5 za6 za7 za8 za9 za10 za11 za12 za13 za14 za15 za16 za17 za18 za19 za20 za21 za22 za23 za24 za25 za26 za27 za28 za29 za30 za31 za32 za33 za34 za35 za36 za37 za38 za39 za40 za41 za42 za43 za44 za45 za46 za47 za48 za49 za50 za51 za52 za53 za54 za55 za56 za57 za58 za59 za60 za61 za62 za63 za64 za65 za66 za67 za68 za69 za70 za71 za72 za73 za74 za75 za76 zf0 zf1 zf2 zf3 zf4 zf5 zf6 zf7 hzf5 hzf6 hP hD hS hl
    | 36, _ =>
      refine px_top (v := 36) rfl ?_
      refine lv_tableIn (off := 1407) (tgt := 1447) hx hb dL_law_40 (by decide) (by decide) (by decide) (by decide) ?_
      exact big_36 hst C0 hK hYY za0 za1 za2 za3 za4 za5 za6 za7 za8 za9 za10 za11 za12 za13 za14 za15 za16 za17 za18 za19 za20 za21 za22 za23 za24 za25 za26 za27 za28 za29 za30 za31 za32 za33 za34 za35 za36 za37 za38 za39 za40 za41 za42 za43 za44 za45 za46 za47 za48 za49 za50 za51 za52 za53 za54 za55 za56 za57 za58 za59 za60 za61 za62 za63 za64 za65 za66 za67 za68 za69 za70 za71 za72 za73 za74 za75 za76 zf0 zf1 zf2 zf3 zf4 zf5 zf6 zf7 hzf5 hzf6 hP hD hS hl
    | j + 37, h => exact absurd h (by omega)
  · refine lv_tableOut (tgt := 1472) hx hb dL_law_40 (Or.inr (Int.lt_of_lt_of_le (by decide : (36 : Int) < (nI 37).toInt) (Int32.le_iff_toInt_le.mp (nI_le h37 (by omega))))) (by decide) ?_
    refine W.widen (k := 600002) (n := 7302232) (Nat.le_of_ble_eq_true rfl) (Nat.le_of_ble_eq_true rfl) ?_
    exact law_end C0 rfl hS (lv_sub hl [0, 4] rfl)
