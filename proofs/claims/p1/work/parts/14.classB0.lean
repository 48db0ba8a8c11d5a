set_option maxHeartbeats 4000000 in
set_option maxRecDepth 100000 in
theorem c_fill_78 (l : Launch) (D : va_G) (y : Nat → ClassId) (sz : Nat) (fa : Nat) (ffa : Nat → Int32) (p1 : Int32)  : Met l yJ7_fill_53178 (px_w yJ7_fill_53178 cJ7_fill_53178 4 none) ({ frames := 0, cells := 0, slots := 0, locals := 0 }) (va_Pc [.ref fa, .int p1] (px_P D y sz [(fa, .inl (y 1, 78, .inl ffa))])) (va_Qv (fun (u : px_U) => ∀ j, j < 78 → u.2.1 0 j = p1) (fun (u : px_U) t => va_P D vwCl [(fa, .inl (y 1, 78, .inl (u.2.1 0)))] t.heap ∧ va_D (va_A [(fa, .inl (y 1, 78, .inl ffa))] sz) [(fa, .inl (y 1, 78, .inl (u.2.1 0)))]) (va_A [(fa, .inl (y 1, 78, .inl ffa))] sz)) 0 0 (va_A [(fa, .inl (y 1, 78, .inl ffa))] sz) := by
  refine Met.ofW (cc := cJ7_fill_53178) (maxL := 4) (ret := none) (by decide) rfl ?_
  intro p e s m args below meth c s₁ B hml hv
  obtain ⟨rfl, hsz, hP, hK, hD0⟩ := hv
  have hx := B.exec
  have hb := B.bytes
  have hr := B.returns
  have hts := atoms_spec (ws := px_w yJ7_fill_53178 cJ7_fill_53178 4 none) B.pre
  have hg : ∀ w ∈ gw, w.before [.ref fa, .int p1].toArray s = true := fun w h => hts w (List.mem_cons_of_mem _ h)
  have hown : s.vm.findClass RJ7 = some m.cls := findClass_of_methodNamed B.named
  have hlocks := B.notSynchronized
  subst hsz
  have hD := hD0.self (sz := s.heap.size)
  generalize hAe : va_A [(fa, .inl (y 1, 78, .inl ffa))] s.heap.size = A at hD ⊢
  have hA : ∀ q : Nat, s.heap.size ≤ q → A q := fun q h => by rw [← hAe]; exact Or.inr h
  have hS : va_S A s.heap s.heap [] := va_S.rf
  have hP : va_P D vwCl [(fa, .inl (y 1, 78, .inl ffa))] s.heap := hP
  have hl := lv_entry ([.ref fa, .int p1]) (n := 4) (Nat.le_of_ble_eq_true rfl)
  rw [lg_entry_eq]
  generalize (lg_sl ([.ref fa, .int p1]) ++ List.replicate (4 - (lg_sl ([.ref fa, .int p1])).length) Slot.unset).toArray = ls at hl ⊢
  have hl : lv_has ls 4 [(0, .ref fa), (1, .int p1)] := hl
  refine lv_iconst (v := 0) hx hb dJ7_fill_53178_0 (by decide) ?_
  refine lv_istore_n (lv' := [(2, .int 0), (0, .ref fa), (1, .int p1)]) hx hb dJ7_fill_53178_1 rfl hl (by decide) rfl (fun ls hl => ?_)
  refine lv_aload_n hx hb dJ7_fill_53178_2 rfl (lv_at hl 1 rfl) ?_
  refine va_alen (v := 78) hx hb hK hP 0 1 rfl rfl rfl dJ7_fill_53178_3 ?_
  refine lv_istore_n (lv' := [(3, .int 78), (2, .int 0), (0, .ref fa), (1, .int p1)]) hx hb dJ7_fill_53178_4 rfl hl (by decide) rfl (fun ls hl => ?_)
  refine px_loop1 (α := (Nat → Int32)) (nL := 4) 78 (ws := fun i_1 F_1 => [(fa, .inl (y 1, 78, .inl F_1))]) (lv := fun i_1 F_1 => [(3, .int 78), (2, .int (nI i_1)), (0, .ref fa), (1, .int p1)]) (inv := fun i_1 F_1 => ∀ j, j < i_1 → F_1 j = p1) ?_ ?_ 0 (by decide) ffa (fun j h => absurd h (Nat.not_lt_zero j)) hP hD hS (lv_sub hl [0, 1, 2, 3] rfl)
  · clear hP hD hS
    intro i_1 F_1 hi_1 hv_1 ih_1 H_1 locs_1 ls hP hD hS hl
    have hP : va_P D vwCl [(fa, .inl (y 1, 78, .inl F_1))] H_1 := hP
    have hD : va_D A [(fa, .inl (y 1, 78, .inl F_1))] := hD
    have hl : lv_has ls 4 [(3, .int 78), (2, .int (nI i_1)), (0, .ref fa), (1, .int p1)] := hl
    refine lv_iload_n hx hb dJ7_fill_53178_5 rfl (lv_at hl 1 rfl) ?_
    refine lv_iload_n hx hb dJ7_fill_53178_6 rfl (lv_at hl 0 rfl) ?_
    refine lv_icmp_ge (tgt := 20) hx hb dJ7_fill_53178_7 (by decide) (fun c_2 => absurd c_2 (nI_ge (by omega) (by decide))) (fun _ => ?_)
    refine lv_aload_n hx hb dJ7_fill_53178_10 rfl (lv_at hl 2 rfl) ?_
    refine lv_iload_n hx hb dJ7_fill_53178_11 rfl (lv_at hl 1 rfl) ?_
    refine lv_iload_n hx hb dJ7_fill_53178_12 rfl (lv_at hl 3 rfl) ?_
    refine va_iast hx hb hK hP hD hS 0 1 rfl rfl (i := (nI i_1)) (vp_in_nI (by omega) (by decide)) dJ7_fill_53178_13 (fun H_4 locs_4 hP_4 hD_4 hS_4 => ?_)
    clear hP hD hS
    have hP : va_P D vwCl [(fa, .inl (y 1, 78, .inl (upd F_1 (nI i_1).toNatClampNeg p1)))] H_4 := hP_4
    have hD : va_D A [(fa, .inl (y 1, 78, .inl (upd F_1 (nI i_1).toNatClampNeg p1)))] := hD_4
    have hS := hS_4
    clear hP_4 hD_4 hS_4
    refine lv_iinc (v := nI (i_1 + 1)) (lv' := [(2, .int (nI (i_1 + 1))), (3, .int 78), (0, .ref fa), (1, .int p1)]) hx hb dJ7_fill_53178_14 hl (k := 1) rfl (nI_1 i_1) (by decide) rfl (fun ls hl => ?_)
    refine lv_goto (tgt := 5) hx hb dJ7_fill_53178_17 (by decide) ?_
    exact ih_1 (upd F_1 (nI i_1).toNatClampNeg p1) _ _ ls (fun j hj => by rw [nI_clamp (by omega)]; unfold upd; split <;> first | rfl | exact hv_1 j (by omega)) hP hD hS (lv_sub hl [1, 0, 2, 3] rfl)
  · clear hP hD hS
    intro F_1 hv_1 H_1 locs_1 ls hP hD hS hl
    have hP : va_P D vwCl [(fa, .inl (y 1, 78, .inl F_1))] H_1 := hP
    have hD : va_D A [(fa, .inl (y 1, 78, .inl F_1))] := hD
    have hl : lv_has ls 4 [(3, .int 78), (2, .int 78), (0, .ref fa), (1, .int p1)] := hl
    refine lv_iload_n hx hb dJ7_fill_53178_5 rfl (lv_at hl 1 rfl) ?_
    refine lv_iload_n hx hb dJ7_fill_53178_6 rfl (lv_at hl 0 rfl) ?_
    refine lv_icmp_ge (tgt := 20) hx hb dJ7_fill_53178_7 (by decide) (fun _ => ?_) (fun c_5 => absurd c_5 (by decide))
    have hP9 := hP.sub (ws' := [(fa, .inl (y 1, 78, .inl F_1))]) [0] rfl
    have hD9 := hD.sub (ws' := [(fa, .inl (y 1, 78, .inl F_1))]) [0] (by decide +kernel) rfl
    exact W.vret hx hb hr (fun t ht hW => ⟨⟨(px_v [], px_vi [F_1], px_vl []), rfl, hv_1, by rw [ht]; exact hP9, hD9⟩, hS.F ht⟩) hS.2.2 dJ7_fill_53178_20

set_option maxHeartbeats 4000000 in
set_option maxRecDepth 100000 in
theorem c_fill_6 (l : Launch) (D : va_G) (y : Nat → ClassId) (sz : Nat) (fa : Nat) (ffa : Nat → Int32) (p1 : Int32)  : Met l yJ7_fill_53178 (px_w yJ7_fill_53178 cJ7_fill_53178 4 none) ({ frames := 0, cells := 0, slots := 0, locals := 0 }) (va_Pc [.ref fa, .int p1] (px_P D y sz [(fa, .inl (y 1, 6, .inl ffa))])) (va_Qv (fun (u : px_U) => ∀ j, j < 6 → u.2.1 0 j = p1) (fun (u : px_U) t => va_P D vwCl [(fa, .inl (y 1, 6, .inl (u.2.1 0)))] t.heap ∧ va_D (va_A [(fa, .inl (y 1, 6, .inl ffa))] sz) [(fa, .inl (y 1, 6, .inl (u.2.1 0)))]) (va_A [(fa, .inl (y 1, 6, .inl ffa))] sz)) 0 0 (va_A [(fa, .inl (y 1, 6, .inl ffa))] sz) := by
  refine Met.ofW (cc := cJ7_fill_53178) (maxL := 4) (ret := none) (by decide) rfl ?_
  intro p e s m args below meth c s₁ B hml hv
  obtain ⟨rfl, hsz, hP, hK, hD0⟩ := hv
  have hx := B.exec
  have hb := B.bytes
  have hr := B.returns
  have hts := atoms_spec (ws := px_w yJ7_fill_53178 cJ7_fill_53178 4 none) B.pre
  have hg : ∀ w ∈ gw, w.before [.ref fa, .int p1].toArray s = true := fun w h => hts w (List.mem_cons_of_mem _ h)
  have hown : s.vm.findClass RJ7 = some m.cls := findClass_of_methodNamed B.named
  have hlocks := B.notSynchronized
  subst hsz
  have hD := hD0.self (sz := s.heap.size)
  generalize hAe : va_A [(fa, .inl (y 1, 6, .inl ffa))] s.heap.size = A at hD ⊢
  have hA : ∀ q : Nat, s.heap.size ≤ q → A q := fun q h => by rw [← hAe]; exact Or.inr h
  have hS : va_S A s.heap s.heap [] := va_S.rf
  have hP : va_P D vwCl [(fa, .inl (y 1, 6, .inl ffa))] s.heap := hP
  have hl := lv_entry ([.ref fa, .int p1]) (n := 4) (Nat.le_of_ble_eq_true rfl)
  rw [lg_entry_eq]
  generalize (lg_sl ([.ref fa, .int p1]) ++ List.replicate (4 - (lg_sl ([.ref fa, .int p1])).length) Slot.unset).toArray = ls at hl ⊢
  have hl : lv_has ls 4 [(0, .ref fa), (1, .int p1)] := hl
  refine lv_iconst (v := 0) hx hb dJ7_fill_53178_0 (by decide) ?_
  refine lv_istore_n (lv' := [(2, .int 0), (0, .ref fa), (1, .int p1)]) hx hb dJ7_fill_53178_1 rfl hl (by decide) rfl (fun ls hl => ?_)
  refine lv_aload_n hx hb dJ7_fill_53178_2 rfl (lv_at hl 1 rfl) ?_
  refine va_alen (v := 6) hx hb hK hP 0 1 rfl rfl rfl dJ7_fill_53178_3 ?_
  refine lv_istore_n (lv' := [(3, .int 6), (2, .int 0), (0, .ref fa), (1, .int p1)]) hx hb dJ7_fill_53178_4 rfl hl (by decide) rfl (fun ls hl => ?_)
  refine px_loop1 (α := (Nat → Int32)) (nL := 4) 6 (ws := fun i_1 F_1 => [(fa, .inl (y 1, 6, .inl F_1))]) (lv := fun i_1 F_1 => [(3, .int 6), (2, .int (nI i_1)), (0, .ref fa), (1, .int p1)]) (inv := fun i_1 F_1 => ∀ j, j < i_1 → F_1 j = p1) ?_ ?_ 0 (by decide) ffa (fun j h => absurd h (Nat.not_lt_zero j)) hP hD hS (lv_sub hl [0, 1, 2, 3] rfl)
  · clear hP hD hS
    intro i_1 F_1 hi_1 hv_1 ih_1 H_1 locs_1 ls hP hD hS hl
    have hP : va_P D vwCl [(fa, .inl (y 1, 6, .inl F_1))] H_1 := hP
    have hD : va_D A [(fa, .inl (y 1, 6, .inl F_1))] := hD
    have hl : lv_has ls 4 [(3, .int 6), (2, .int (nI i_1)), (0, .ref fa), (1, .int p1)] := hl
    refine lv_iload_n hx hb dJ7_fill_53178_5 rfl (lv_at hl 1 rfl) ?_
    refine lv_iload_n hx hb dJ7_fill_53178_6 rfl (lv_at hl 0 rfl) ?_
    refine lv_icmp_ge (tgt := 20) hx hb dJ7_fill_53178_7 (by decide) (fun c_2 => absurd c_2 (nI_ge (by omega) (by decide))) (fun _ => ?_)
    refine lv_aload_n hx hb dJ7_fill_53178_10 rfl (lv_at hl 2 rfl) ?_
    refine lv_iload_n hx hb dJ7_fill_53178_11 rfl (lv_at hl 1 rfl) ?_
    refine lv_iload_n hx hb dJ7_fill_53178_12 rfl (lv_at hl 3 rfl) ?_
    refine va_iast hx hb hK hP hD hS 0 1 rfl rfl (i := (nI i_1)) (vp_in_nI (by omega) (by decide)) dJ7_fill_53178_13 (fun H_4 locs_4 hP_4 hD_4 hS_4 => ?_)
    clear hP hD hS
    have hP : va_P D vwCl [(fa, .inl (y 1, 6, .inl (upd F_1 (nI i_1).toNatClampNeg p1)))] H_4 := hP_4
    have hD : va_D A [(fa, .inl (y 1, 6, .inl (upd F_1 (nI i_1).toNatClampNeg p1)))] := hD_4
    have hS := hS_4
    clear hP_4 hD_4 hS_4
    refine lv_iinc (v := nI (i_1 + 1)) (lv' := [(2, .int (nI (i_1 + 1))), (3, .int 6), (0, .ref fa), (1, .int p1)]) hx hb dJ7_fill_53178_14 hl (k := 1) rfl (nI_1 i_1) (by decide) rfl (fun ls hl => ?_)
    refine lv_goto (tgt := 5) hx hb dJ7_fill_53178_17 (by decide) ?_
    exact ih_1 (upd F_1 (nI i_1).toNatClampNeg p1) _ _ ls (fun j hj => by rw [nI_clamp (by omega)]; unfold upd; split <;> first | rfl | exact hv_1 j (by omega)) hP hD hS (lv_sub hl [1, 0, 2, 3] rfl)
  · clear hP hD hS
    intro F_1 hv_1 H_1 locs_1 ls hP hD hS hl
    have hP : va_P D vwCl [(fa, .inl (y 1, 6, .inl F_1))] H_1 := hP
    have hD : va_D A [(fa, .inl (y 1, 6, .inl F_1))] := hD
    have hl : lv_has ls 4 [(3, .int 6), (2, .int 6), (0, .ref fa), (1, .int p1)] := hl
    refine lv_iload_n hx hb dJ7_fill_53178_5 rfl (lv_at hl 1 rfl) ?_
    refine lv_iload_n hx hb dJ7_fill_53178_6 rfl (lv_at hl 0 rfl) ?_
    refine lv_icmp_ge (tgt := 20) hx hb dJ7_fill_53178_7 (by decide) (fun _ => ?_) (fun c_5 => absurd c_5 (by decide))
    have hP9 := hP.sub (ws' := [(fa, .inl (y 1, 6, .inl F_1))]) [0] rfl
    have hD9 := hD.sub (ws' := [(fa, .inl (y 1, 6, .inl F_1))]) [0] (by decide +kernel) rfl
    exact W.vret hx hb hr (fun t ht hW => ⟨⟨(px_v [], px_vi [F_1], px_vl []), rfl, hv_1, by rw [ht]; exact hP9, hD9⟩, hS.F ht⟩) hS.2.2 dJ7_fill_53178_20

set_option maxHeartbeats 4000000 in
set_option maxRecDepth 100000 in
theorem c_fill_13 (l : Launch) (D : va_G) (y : Nat → ClassId) (sz : Nat) (fa : Nat) (ffa : Nat → Int32) (p1 : Int32)  : Met l yJ7_fill_53178 (px_w yJ7_fill_53178 cJ7_fill_53178 4 none) ({ frames := 0, cells := 0, slots := 0, locals := 0 }) (va_Pc [.ref fa, .int p1] (px_P D y sz [(fa, .inl (y 1, 13, .inl ffa))])) (va_Qv (fun (u : px_U) => ∀ j, j < 13 → u.2.1 0 j = p1) (fun (u : px_U) t => va_P D vwCl [(fa, .inl (y 1, 13, .inl (u.2.1 0)))] t.heap ∧ va_D (va_A [(fa, .inl (y 1, 13, .inl ffa))] sz) [(fa, .inl (y 1, 13, .inl (u.2.1 0)))]) (va_A [(fa, .inl (y 1, 13, .inl ffa))] sz)) 0 0 (va_A [(fa, .inl (y 1, 13, .inl ffa))] sz) := by
  refine Met.ofW (cc := cJ7_fill_53178) (maxL := 4) (ret := none) (by decide) rfl ?_
  intro p e s m args below meth c s₁ B hml hv
  obtain ⟨rfl, hsz, hP, hK, hD0⟩ := hv
  have hx := B.exec
  have hb := B.bytes
  have hr := B.returns
  have hts := atoms_spec (ws := px_w yJ7_fill_53178 cJ7_fill_53178 4 none) B.pre
  have hg : ∀ w ∈ gw, w.before [.ref fa, .int p1].toArray s = true := fun w h => hts w (List.mem_cons_of_mem _ h)
  have hown : s.vm.findClass RJ7 = some m.cls := findClass_of_methodNamed B.named
  have hlocks := B.notSynchronized
  subst hsz
  have hD := hD0.self (sz := s.heap.size)
  generalize hAe : va_A [(fa, .inl (y 1, 13, .inl ffa))] s.heap.size = A at hD ⊢
  have hA : ∀ q : Nat, s.heap.size ≤ q → A q := fun q h => by rw [← hAe]; exact Or.inr h
  have hS : va_S A s.heap s.heap [] := va_S.rf
  have hP : va_P D vwCl [(fa, .inl (y 1, 13, .inl ffa))] s.heap := hP
  have hl := lv_entry ([.ref fa, .int p1]) (n := 4) (Nat.le_of_ble_eq_true rfl)
  rw [lg_entry_eq]
  generalize (lg_sl ([.ref fa, .int p1]) ++ List.replicate (4 - (lg_sl ([.ref fa, .int p1])).length) Slot.unset).toArray = ls at hl ⊢
  have hl : lv_has ls 4 [(0, .ref fa), (1, .int p1)] := hl
  refine lv_iconst (v := 0) hx hb dJ7_fill_53178_0 (by decide) ?_
  refine lv_istore_n (lv' := [(2, .int 0), (0, .ref fa), (1, .int p1)]) hx hb dJ7_fill_53178_1 rfl hl (by decide) rfl (fun ls hl => ?_)
  refine lv_aload_n hx hb dJ7_fill_53178_2 rfl (lv_at hl 1 rfl) ?_
  refine va_alen (v := 13) hx hb hK hP 0 1 rfl rfl rfl dJ7_fill_53178_3 ?_
  refine lv_istore_n (lv' := [(3, .int 13), (2, .int 0), (0, .ref fa), (1, .int p1)]) hx hb dJ7_fill_53178_4 rfl hl (by decide) rfl (fun ls hl => ?_)
  refine px_loop1 (α := (Nat → Int32)) (nL := 4) 13 (ws := fun i_1 F_1 => [(fa, .inl (y 1, 13, .inl F_1))]) (lv := fun i_1 F_1 => [(3, .int 13), (2, .int (nI i_1)), (0, .ref fa), (1, .int p1)]) (inv := fun i_1 F_1 => ∀ j, j < i_1 → F_1 j = p1) ?_ ?_ 0 (by decide) ffa (fun j h => absurd h (Nat.not_lt_zero j)) hP hD hS (lv_sub hl [0, 1, 2, 3] rfl)
  · clear hP hD hS
    intro i_1 F_1 hi_1 hv_1 ih_1 H_1 locs_1 ls hP hD hS hl
    have hP : va_P D vwCl [(fa, .inl (y 1, 13, .inl F_1))] H_1 := hP
    have hD : va_D A [(fa, .inl (y 1, 13, .inl F_1))] := hD
    have hl : lv_has ls 4 [(3, .int 13), (2, .int (nI i_1)), (0, .ref fa), (1, .int p1)] := hl
    refine lv_iload_n hx hb dJ7_fill_53178_5 rfl (lv_at hl 1 rfl) ?_
    refine lv_iload_n hx hb dJ7_fill_53178_6 rfl (lv_at hl 0 rfl) ?_
    refine lv_icmp_ge (tgt := 20) hx hb dJ7_fill_53178_7 (by decide) (fun c_2 => absurd c_2 (nI_ge (by omega) (by decide))) (fun _ => ?_)
    refine lv_aload_n hx hb dJ7_fill_53178_10 rfl (lv_at hl 2 rfl) ?_
    refine lv_iload_n hx hb dJ7_fill_53178_11 rfl (lv_at hl 1 rfl) ?_
    refine lv_iload_n hx hb dJ7_fill_53178_12 rfl (lv_at hl 3 rfl) ?_
    refine va_iast hx hb hK hP hD hS 0 1 rfl rfl (i := (nI i_1)) (vp_in_nI (by omega) (by decide)) dJ7_fill_53178_13 (fun H_4 locs_4 hP_4 hD_4 hS_4 => ?_)
    clear hP hD hS
    have hP : va_P D vwCl [(fa, .inl (y 1, 13, .inl (upd F_1 (nI i_1).toNatClampNeg p1)))] H_4 := hP_4
    have hD : va_D A [(fa, .inl (y 1, 13, .inl (upd F_1 (nI i_1).toNatClampNeg p1)))] := hD_4
    have hS := hS_4
    clear hP_4 hD_4 hS_4
    refine lv_iinc (v := nI (i_1 + 1)) (lv' := [(2, .int (nI (i_1 + 1))), (3, .int 13), (0, .ref fa), (1, .int p1)]) hx hb dJ7_fill_53178_14 hl (k := 1) rfl (nI_1 i_1) (by decide) rfl (fun ls hl => ?_)
    refine lv_goto (tgt := 5) hx hb dJ7_fill_53178_17 (by decide) ?_
    exact ih_1 (upd F_1 (nI i_1).toNatClampNeg p1) _ _ ls (fun j hj => by rw [nI_clamp (by omega)]; unfold upd; split <;> first | rfl | exact hv_1 j (by omega)) hP hD hS (lv_sub hl [1, 0, 2, 3] rfl)
  · clear hP hD hS
    intro F_1 hv_1 H_1 locs_1 ls hP hD hS hl
    have hP : va_P D vwCl [(fa, .inl (y 1, 13, .inl F_1))] H_1 := hP
    have hD : va_D A [(fa, .inl (y 1, 13, .inl F_1))] := hD
    have hl : lv_has ls 4 [(3, .int 13), (2, .int 13), (0, .ref fa), (1, .int p1)] := hl
    refine lv_iload_n hx hb dJ7_fill_53178_5 rfl (lv_at hl 1 rfl) ?_
    refine lv_iload_n hx hb dJ7_fill_53178_6 rfl (lv_at hl 0 rfl) ?_
    refine lv_icmp_ge (tgt := 20) hx hb dJ7_fill_53178_7 (by decide) (fun _ => ?_) (fun c_5 => absurd c_5 (by decide))
    have hP9 := hP.sub (ws' := [(fa, .inl (y 1, 13, .inl F_1))]) [0] rfl
    have hD9 := hD.sub (ws' := [(fa, .inl (y 1, 13, .inl F_1))]) [0] (by decide +kernel) rfl
    exact W.vret hx hb hr (fun t ht hW => ⟨⟨(px_v [], px_vi [F_1], px_vl []), rfl, hv_1, by rw [ht]; exact hP9, hD9⟩, hS.F ht⟩) hS.2.2 dJ7_fill_53178_20

set_option maxHeartbeats 4000000 in
set_option maxRecDepth 100000 in
theorem c_fill_8 (l : Launch) (D : va_G) (y : Nat → ClassId) (sz : Nat) (fa : Nat) (ffa : Nat → Int32) (p1 : Int32)  : Met l yJ7_fill_53178 (px_w yJ7_fill_53178 cJ7_fill_53178 4 none) ({ frames := 0, cells := 0, slots := 0, locals := 0 }) (va_Pc [.ref fa, .int p1] (px_P D y sz [(fa, .inl (y 1, 8, .inl ffa))])) (va_Qv (fun (u : px_U) => ∀ j, j < 8 → u.2.1 0 j = p1) (fun (u : px_U) t => va_P D vwCl [(fa, .inl (y 1, 8, .inl (u.2.1 0)))] t.heap ∧ va_D (va_A [(fa, .inl (y 1, 8, .inl ffa))] sz) [(fa, .inl (y 1, 8, .inl (u.2.1 0)))]) (va_A [(fa, .inl (y 1, 8, .inl ffa))] sz)) 0 0 (va_A [(fa, .inl (y 1, 8, .inl ffa))] sz) := by
  refine Met.ofW (cc := cJ7_fill_53178) (maxL := 4) (ret := none) (by decide) rfl ?_
  intro p e s m args below meth c s₁ B hml hv
  obtain ⟨rfl, hsz, hP, hK, hD0⟩ := hv
  have hx := B.exec
  have hb := B.bytes
  have hr := B.returns
  have hts := atoms_spec (ws := px_w yJ7_fill_53178 cJ7_fill_53178 4 none) B.pre
  have hg : ∀ w ∈ gw, w.before [.ref fa, .int p1].toArray s = true := fun w h => hts w (List.mem_cons_of_mem _ h)
  have hown : s.vm.findClass RJ7 = some m.cls := findClass_of_methodNamed B.named
  have hlocks := B.notSynchronized
  subst hsz
  have hD := hD0.self (sz := s.heap.size)
  generalize hAe : va_A [(fa, .inl (y 1, 8, .inl ffa))] s.heap.size = A at hD ⊢
  have hA : ∀ q : Nat, s.heap.size ≤ q → A q := fun q h => by rw [← hAe]; exact Or.inr h
  have hS : va_S A s.heap s.heap [] := va_S.rf
  have hP : va_P D vwCl [(fa, .inl (y 1, 8, .inl ffa))] s.heap := hP
  have hl := lv_entry ([.ref fa, .int p1]) (n := 4) (Nat.le_of_ble_eq_true rfl)
  rw [lg_entry_eq]
  generalize (lg_sl ([.ref fa, .int p1]) ++ List.replicate (4 - (lg_sl ([.ref fa, .int p1])).length) Slot.unset).toArray = ls at hl ⊢
  have hl : lv_has ls 4 [(0, .ref fa), (1, .int p1)] := hl
  refine lv_iconst (v := 0) hx hb dJ7_fill_53178_0 (by decide) ?_
  refine lv_istore_n (lv' := [(2, .int 0), (0, .ref fa), (1, .int p1)]) hx hb dJ7_fill_53178_1 rfl hl (by decide) rfl (fun ls hl => ?_)
  refine lv_aload_n hx hb dJ7_fill_53178_2 rfl (lv_at hl 1 rfl) ?_
  refine va_alen (v := 8) hx hb hK hP 0 1 rfl rfl rfl dJ7_fill_53178_3 ?_
  refine lv_istore_n (lv' := [(3, .int 8), (2, .int 0), (0, .ref fa), (1, .int p1)]) hx hb dJ7_fill_53178_4 rfl hl (by decide) rfl (fun ls hl => ?_)
  refine px_loop1 (α := (Nat → Int32)) (nL := 4) 8 (ws := fun i_1 F_1 => [(fa, .inl (y 1, 8, .inl F_1))]) (lv := fun i_1 F_1 => [(3, .int 8), (2, .int (nI i_1)), (0, .ref fa), (1, .int p1)]) (inv := fun i_1 F_1 => ∀ j, j < i_1 → F_1 j = p1) ?_ ?_ 0 (by decide) ffa (fun j h => absurd h (Nat.not_lt_zero j)) hP hD hS (lv_sub hl [0, 1, 2, 3] rfl)
  · clear hP hD hS
    intro i_1 F_1 hi_1 hv_1 ih_1 H_1 locs_1 ls hP hD hS hl
    have hP : va_P D vwCl [(fa, .inl (y 1, 8, .inl F_1))] H_1 := hP
    have hD : va_D A [(fa, .inl (y 1, 8, .inl F_1))] := hD
    have hl : lv_has ls 4 [(3, .int 8), (2, .int (nI i_1)), (0, .ref fa), (1, .int p1)] := hl
    refine lv_iload_n hx hb dJ7_fill_53178_5 rfl (lv_at hl 1 rfl) ?_
    refine lv_iload_n hx hb dJ7_fill_53178_6 rfl (lv_at hl 0 rfl) ?_
    refine lv_icmp_ge (tgt := 20) hx hb dJ7_fill_53178_7 (by decide) (fun c_2 => absurd c_2 (nI_ge (by omega) (by decide))) (fun _ => ?_)
    refine lv_aload_n hx hb dJ7_fill_53178_10 rfl (lv_at hl 2 rfl) ?_
    refine lv_iload_n hx hb dJ7_fill_53178_11 rfl (lv_at hl 1 rfl) ?_
    refine lv_iload_n hx hb dJ7_fill_53178_12 rfl (lv_at hl 3 rfl) ?_
    refine va_iast hx hb hK hP hD hS 0 1 rfl rfl (i := (nI i_1)) (vp_in_nI (by omega) (by decide)) dJ7_fill_53178_13 (fun H_4 locs_4 hP_4 hD_4 hS_4 => ?_)
    clear hP hD hS
    have hP : va_P D vwCl [(fa, .inl (y 1, 8, .inl (upd F_1 (nI i_1).toNatClampNeg p1)))] H_4 := hP_4
    have hD : va_D A [(fa, .inl (y 1, 8, .inl (upd F_1 (nI i_1).toNatClampNeg p1)))] := hD_4
    have hS := hS_4
    clear hP_4 hD_4 hS_4
    refine lv_iinc (v := nI (i_1 + 1)) (lv' := [(2, .int (nI (i_1 + 1))), (3, .int 8), (0, .ref fa), (1, .int p1)]) hx hb dJ7_fill_53178_14 hl (k := 1) rfl (nI_1 i_1) (by decide) rfl (fun ls hl => ?_)
    refine lv_goto (tgt := 5) hx hb dJ7_fill_53178_17 (by decide) ?_
    exact ih_1 (upd F_1 (nI i_1).toNatClampNeg p1) _ _ ls (fun j hj => by rw [nI_clamp (by omega)]; unfold upd; split <;> first | rfl | exact hv_1 j (by omega)) hP hD hS (lv_sub hl [1, 0, 2, 3] rfl)
  · clear hP hD hS
    intro F_1 hv_1 H_1 locs_1 ls hP hD hS hl
    have hP : va_P D vwCl [(fa, .inl (y 1, 8, .inl F_1))] H_1 := hP
    have hD : va_D A [(fa, .inl (y 1, 8, .inl F_1))] := hD
    have hl : lv_has ls 4 [(3, .int 8), (2, .int 8), (0, .ref fa), (1, .int p1)] := hl
    refine lv_iload_n hx hb dJ7_fill_53178_5 rfl (lv_at hl 1 rfl) ?_
    refine lv_iload_n hx hb dJ7_fill_53178_6 rfl (lv_at hl 0 rfl) ?_
    refine lv_icmp_ge (tgt := 20) hx hb dJ7_fill_53178_7 (by decide) (fun _ => ?_) (fun c_5 => absurd c_5 (by decide))
    have hP9 := hP.sub (ws' := [(fa, .inl (y 1, 8, .inl F_1))]) [0] rfl
    have hD9 := hD.sub (ws' := [(fa, .inl (y 1, 8, .inl F_1))]) [0] (by decide +kernel) rfl
    exact W.vret hx hb hr (fun t ht hW => ⟨⟨(px_v [], px_vi [F_1], px_vl []), rfl, hv_1, by rw [ht]; exact hP9, hD9⟩, hS.F ht⟩) hS.2.2 dJ7_fill_53178_20

set_option maxHeartbeats 4000000 in
set_option maxRecDepth 100000 in
theorem c_fill_4 (l : Launch) (D : va_G) (y : Nat → ClassId) (sz : Nat) (fa : Nat) (ffa : Nat → Int32) (p1 : Int32)  : Met l yJ7_fill_53178 (px_w yJ7_fill_53178 cJ7_fill_53178 4 none) ({ frames := 0, cells := 0, slots := 0, locals := 0 }) (va_Pc [.ref fa, .int p1] (px_P D y sz [(fa, .inl (y 1, 4, .inl ffa))])) (va_Qv (fun (u : px_U) => ∀ j, j < 4 → u.2.1 0 j = p1) (fun (u : px_U) t => va_P D vwCl [(fa, .inl (y 1, 4, .inl (u.2.1 0)))] t.heap ∧ va_D (va_A [(fa, .inl (y 1, 4, .inl ffa))] sz) [(fa, .inl (y 1, 4, .inl (u.2.1 0)))]) (va_A [(fa, .inl (y 1, 4, .inl ffa))] sz)) 0 0 (va_A [(fa, .inl (y 1, 4, .inl ffa))] sz) := by
  refine Met.ofW (cc := cJ7_fill_53178) (maxL := 4) (ret := none) (by decide) rfl ?_
  intro p e s m args below meth c s₁ B hml hv
  obtain ⟨rfl, hsz, hP, hK, hD0⟩ := hv
  have hx := B.exec
  have hb := B.bytes
  have hr := B.returns
  have hts := atoms_spec (ws := px_w yJ7_fill_53178 cJ7_fill_53178 4 none) B.pre
  have hg : ∀ w ∈ gw, w.before [.ref fa, .int p1].toArray s = true := fun w h => hts w (List.mem_cons_of_mem _ h)
  have hown : s.vm.findClass RJ7 = some m.cls := findClass_of_methodNamed B.named
  have hlocks := B.notSynchronized
  subst hsz
  have hD := hD0.self (sz := s.heap.size)
  generalize hAe : va_A [(fa, .inl (y 1, 4, .inl ffa))] s.heap.size = A at hD ⊢
  have hA : ∀ q : Nat, s.heap.size ≤ q → A q := fun q h => by rw [← hAe]; exact Or.inr h
  have hS : va_S A s.heap s.heap [] := va_S.rf
  have hP : va_P D vwCl [(fa, .inl (y 1, 4, .inl ffa))] s.heap := hP
  have hl := lv_entry ([.ref fa, .int p1]) (n := 4) (Nat.le_of_ble_eq_true rfl)
  rw [lg_entry_eq]
  generalize (lg_sl ([.ref fa, .int p1]) ++ List.replicate (4 - (lg_sl ([.ref fa, .int p1])).length) Slot.unset).toArray = ls at hl ⊢
  have hl : lv_has ls 4 [(0, .ref fa), (1, .int p1)] := hl
  refine lv_iconst (v := 0) hx hb dJ7_fill_53178_0 (by decide) ?_
  refine lv_istore_n (lv' := [(2, .int 0), (0, .ref fa), (1, .int p1)]) hx hb dJ7_fill_53178_1 rfl hl (by decide) rfl (fun ls hl => ?_)
  refine lv_aload_n hx hb dJ7_fill_53178_2 rfl (lv_at hl 1 rfl) ?_
  refine va_alen (v := 4) hx hb hK hP 0 1 rfl rfl rfl dJ7_fill_53178_3 ?_
  refine lv_istore_n (lv' := [(3, .int 4), (2, .int 0), (0, .ref fa), (1, .int p1)]) hx hb dJ7_fill_53178_4 rfl hl (by decide) rfl (fun ls hl => ?_)
  refine px_loop1 (α := (Nat → Int32)) (nL := 4) 4 (ws := fun i_1 F_1 => [(fa, .inl (y 1, 4, .inl F_1))]) (lv := fun i_1 F_1 => [(3, .int 4), (2, .int (nI i_1)), (0, .ref fa), (1, .int p1)]) (inv := fun i_1 F_1 => ∀ j, j < i_1 → F_1 j = p1) ?_ ?_ 0 (by decide) ffa (fun j h => absurd h (Nat.not_lt_zero j)) hP hD hS (lv_sub hl [0, 1, 2, 3] rfl)
  · clear hP hD hS
    intro i_1 F_1 hi_1 hv_1 ih_1 H_1 locs_1 ls hP hD hS hl
    have hP : va_P D vwCl [(fa, .inl (y 1, 4, .inl F_1))] H_1 := hP
    have hD : va_D A [(fa, .inl (y 1, 4, .inl F_1))] := hD
    have hl : lv_has ls 4 [(3, .int 4), (2, .int (nI i_1)), (0, .ref fa), (1, .int p1)] := hl
    refine lv_iload_n hx hb dJ7_fill_53178_5 rfl (lv_at hl 1 rfl) ?_
    refine lv_iload_n hx hb dJ7_fill_53178_6 rfl (lv_at hl 0 rfl) ?_
    refine lv_icmp_ge (tgt := 20) hx hb dJ7_fill_53178_7 (by decide) (fun c_2 => absurd c_2 (nI_ge (by omega) (by decide))) (fun _ => ?_)
    refine lv_aload_n hx hb dJ7_fill_53178_10 rfl (lv_at hl 2 rfl) ?_
    refine lv_iload_n hx hb dJ7_fill_53178_11 rfl (lv_at hl 1 rfl) ?_
    refine lv_iload_n hx hb dJ7_fill_53178_12 rfl (lv_at hl 3 rfl) ?_
    refine va_iast hx hb hK hP hD hS 0 1 rfl rfl (i := (nI i_1)) (vp_in_nI (by omega) (by decide)) dJ7_fill_53178_13 (fun H_4 locs_4 hP_4 hD_4 hS_4 => ?_)
    clear hP hD hS
    have hP : va_P D vwCl [(fa, .inl (y 1, 4, .inl (upd F_1 (nI i_1).toNatClampNeg p1)))] H_4 := hP_4
    have hD : va_D A [(fa, .inl (y 1, 4, .inl (upd F_1 (nI i_1).toNatClampNeg p1)))] := hD_4
    have hS := hS_4
    clear hP_4 hD_4 hS_4
    refine lv_iinc (v := nI (i_1 + 1)) (lv' := [(2, .int (nI (i_1 + 1))), (3, .int 4), (0, .ref fa), (1, .int p1)]) hx hb dJ7_fill_53178_14 hl (k := 1) rfl (nI_1 i_1) (by decide) rfl (fun ls hl => ?_)
    refine lv_goto (tgt := 5) hx hb dJ7_fill_53178_17 (by decide) ?_
    exact ih_1 (upd F_1 (nI i_1).toNatClampNeg p1) _ _ ls (fun j hj => by rw [nI_clamp (by omega)]; unfold upd; split <;> first | rfl | exact hv_1 j (by omega)) hP hD hS (lv_sub hl [1, 0, 2, 3] rfl)
  · clear hP hD hS
    intro F_1 hv_1 H_1 locs_1 ls hP hD hS hl
    have hP : va_P D vwCl [(fa, .inl (y 1, 4, .inl F_1))] H_1 := hP
    have hD : va_D A [(fa, .inl (y 1, 4, .inl F_1))] := hD
    have hl : lv_has ls 4 [(3, .int 4), (2, .int 4), (0, .ref fa), (1, .int p1)] := hl
    refine lv_iload_n hx hb dJ7_fill_53178_5 rfl (lv_at hl 1 rfl) ?_
    refine lv_iload_n hx hb dJ7_fill_53178_6 rfl (lv_at hl 0 rfl) ?_
    refine lv_icmp_ge (tgt := 20) hx hb dJ7_fill_53178_7 (by decide) (fun _ => ?_) (fun c_5 => absurd c_5 (by decide))
    have hP9 := hP.sub (ws' := [(fa, .inl (y 1, 4, .inl F_1))]) [0] rfl
    have hD9 := hD.sub (ws' := [(fa, .inl (y 1, 4, .inl F_1))]) [0] (by decide +kernel) rfl
    exact W.vret hx hb hr (fun t ht hW => ⟨⟨(px_v [], px_vi [F_1], px_vl []), rfl, hv_1, by rw [ht]; exact hP9, hD9⟩, hS.F ht⟩) hS.2.2 dJ7_fill_53178_20

set_option maxHeartbeats 4000000 in
set_option maxRecDepth 100000 in
theorem c_X10_putFour_0 (l : Launch) (D : va_G) (y : Nat → ClassId) (sz : Nat) (x : Nat) (fx : List Value) (tp : Nat) (ftp : Nat → Int32) (p0 : Int32) (hx_0 : fx[0]? = some (.ref tp)) (hx_1 : fx[1]? = some (.int 0)) : Met l yX10_putFour (px_w yX10_putFour cX10_putFour 3 none) ({ frames := 0, cells := 0, slots := 0, locals := 0 }) (va_Pc [.ref x, .int p0] (px_P D y sz [(x, .inr (10, fx)), (tp, .inl (y 0, 940, .inl ftp))])) (va_Qv (fun (u : px_U) => True) (fun (u : px_U) t => va_P D vwCl [(x, .inr (10, ((((fx.set 1 (.int 1)).set 1 (.int 2)).set 1 (.int 3)).set 1 (.int 4)))), (tp, .inl (y 0, 940, .inl (u.2.1 0)))] t.heap ∧ va_D (va_A [(x, .inr (10, fx)), (tp, .inl (y 0, 940, .inl ftp))] sz) [(x, .inr (10, ((((fx.set 1 (.int 1)).set 1 (.int 2)).set 1 (.int 3)).set 1 (.int 4)))), (tp, .inl (y 0, 940, .inl (u.2.1 0)))]) (va_A [(x, .inr (10, fx)), (tp, .inl (y 0, 940, .inl ftp))] sz)) 0 0 (va_A [(x, .inr (10, fx)), (tp, .inl (y 0, 940, .inl ftp))] sz) := by
  refine Met.ofW (cc := cX10_putFour) (maxL := 3) (ret := none) (by decide) rfl ?_
  intro p e s m args below meth c s₁ B hml hv
  obtain ⟨rfl, hsz, hP, hK, hD0⟩ := hv
  have hx := B.exec
  have hb := B.bytes
  have hr := B.returns
  have hts := atoms_spec (ws := px_w yX10_putFour cX10_putFour 3 none) B.pre
  have hg : ∀ w ∈ gw, w.before [.ref x, .int p0].toArray s = true := fun w h => hts w (List.mem_cons_of_mem _ h)
  have hown : s.vm.findClass RX10 = some m.cls := findClass_of_methodNamed B.named
  have hlocks := B.notSynchronized
  subst hsz
  have hD := hD0.self (sz := s.heap.size)
  generalize hAe : va_A [(x, .inr (10, fx)), (tp, .inl (y 0, 940, .inl ftp))] s.heap.size = A at hD ⊢
  have hA : ∀ q : Nat, s.heap.size ≤ q → A q := fun q h => by rw [← hAe]; exact Or.inr h
  have hS : va_S A s.heap s.heap [] := va_S.rf
  have hP : va_P D vwCl [(x, .inr (10, fx)), (tp, .inl (y 0, 940, .inl ftp))] s.heap := hP
  have hl := lv_entry ([.ref x, .int p0]) (n := 3) (Nat.le_of_ble_eq_true rfl)
  rw [lg_entry_eq]
  generalize (lg_sl ([.ref x, .int p0]) ++ List.replicate (3 - (lg_sl ([.ref x, .int p0])).length) Slot.unset).toArray = ls at hl ⊢
  have hl : lv_has ls 3 [(0, .ref x), (1, .int p0)] := hl
  refine lv_bipush (v := 24) hx hb dX10_putFour_0 (by decide) ?_
  refine lv_istore_n (lv' := [(2, .int 24), (0, .ref x), (1, .int p0)]) hx hb dX10_putFour_2 rfl hl (by decide) rfl (fun ls hl => ?_)
  refine lv_iload_n hx hb dX10_putFour_3 rfl (lv_at hl 0 rfl) ?_
  refine lv_if_lt (tgt := 46) hx hb dX10_putFour_4 (by decide) (fun c_1 => absurd c_1 (by decide)) (fun _ => ?_)
  refine lv_aload_n hx hb dX10_putFour_7 rfl (lv_at hl 1 rfl) ?_
  refine va_get (D := D) (ci := 10) (v := .int 0) (C := RX10) (T := TX10) (N := 20) hx hb hg inGX10 hown hK hP 0 rfl rfl 1 (by decide) (hg _ q_2_104) (fun _ h9 => h9) hx_1 dX10_putFour_8 ?_
  refine lv_sipush (v := 940) hx hb dX10_putFour_11 (by decide) ?_
  refine lv_icmp_ge (tgt := 46) hx hb dX10_putFour_14 (by decide) (fun c_2 => absurd c_2 (by decide)) (fun _ => ?_)
  refine lv_aload_n hx hb dX10_putFour_17 rfl (lv_at hl 1 rfl) ?_
  refine va_get (D := D) (ci := 10) (v := .ref tp) (C := RX10) (T := TX10) (N := 20) hx hb hg inGX10 hown hK hP 0 rfl rfl 0 (by decide) (hg _ q_2_103) (fun _ h9 => h9) hx_0 dX10_putFour_18 ?_
  refine lv_aload_n hx hb dX10_putFour_21 rfl (lv_at hl 1 rfl) ?_
  refine va_get (D := D) (ci := 10) (v := .int 0) (C := RX10) (T := TX10) (N := 20) hx hb hg inGX10 hown hK hP 0 rfl rfl 1 (by decide) (hg _ q_2_104) (fun _ h9 => h9) hx_1 dX10_putFour_22 ?_
  refine lv_iload_n hx hb dX10_putFour_25 rfl (lv_at hl 2 rfl) ?_
  refine lv_iload_n hx hb dX10_putFour_26 rfl (lv_at hl 0 rfl) ?_
  refine lv_iushr hx hb dX10_putFour_27 rfl ?_
  refine lv_i2b hx hb dX10_putFour_28 rfl ?_
  refine va_bast hx hb hK hP hD hS 1 0 rfl rfl (i := 0) (px_in (by decide)) dX10_putFour_29 (fun H_3 locs_3 hP_3 hD_3 hS_3 => ?_)
  clear hP hD hS
  have hP : va_P D vwCl [(x, .inr (10, fx)), (tp, .inl (y 0, 940, .inl (upd ftp 0 (vp_nar .byte ((Int32.toInt8 ((Int32.toUInt32 p0 >>> (Int32.toUInt32 24 &&& Int32.toUInt32 31)).toInt32)).toInt32)))))] H_3 := hP_3
  have hD : va_D A [(x, .inr (10, fx)), (tp, .inl (y 0, 940, .inl (upd ftp 0 (vp_nar .byte ((Int32.toInt8 ((Int32.toUInt32 p0 >>> (Int32.toUInt32 24 &&& Int32.toUInt32 31)).toInt32)).toInt32)))))] := hD_3
  have hS := hS_3
  clear hP_3 hD_3 hS_3
  refine lv_aload_n hx hb dX10_putFour_30 rfl (lv_at hl 1 rfl) ?_
  refine lv_dup hx hb dX10_putFour_31 rfl ?_
  refine va_get (D := D) (ci := 10) (v := .int 0) (C := RX10) (T := TX10) (N := 20) hx hb hg inGX10 hown hK hP 0 rfl rfl 1 (by decide) (hg _ q_2_104) (fun _ h9 => h9) hx_1 dX10_putFour_32 ?_
  refine lv_iconst (v := 1) hx hb dX10_putFour_35 (by decide) ?_
  refine lv_iadd hx hb dX10_putFour_36 ?_
  refine px_top (v := 1) (by decide) ?_
  refine va_put (D := D) (ci := 10) (v := .int 1) (ty := .int) (C := RX10) (T := TX10) (N := 20) hx hb hg inGX10 tyX10 tyX10_ok nmX10 hown hK hP hD hS 0 rfl rfl 1 (by decide) (hg _ q_2_104) (fun _ h9 => h9) rfl (by decide +kernel) rfl rfl (px_len hx_1) dX10_putFour_37 (fun H_4 locs_4 hP_4 hD_4 hS_4 => ?_)
  clear hP hD hS
  have hP : va_P D vwCl [(x, .inr (10, (fx.set 1 (.int 1)))), (tp, .inl (y 0, 940, .inl (upd ftp 0 (vp_nar .byte ((Int32.toInt8 ((Int32.toUInt32 p0 >>> (Int32.toUInt32 24 &&& Int32.toUInt32 31)).toInt32)).toInt32)))))] H_4 := hP_4
  have hD : va_D A [(x, .inr (10, (fx.set 1 (.int 1)))), (tp, .inl (y 0, 940, .inl (upd ftp 0 (vp_nar .byte ((Int32.toInt8 ((Int32.toUInt32 p0 >>> (Int32.toUInt32 24 &&& Int32.toUInt32 31)).toInt32)).toInt32)))))] := hD_4
  have hS := hS_4
  clear hP_4 hD_4 hS_4
  refine lv_iinc (v := 16) (lv' := [(2, .int 16), (0, .ref x), (1, .int p0)]) hx hb dX10_putFour_40 hl (k := 0) rfl (by decide) (by decide) rfl (fun ls hl => ?_)
  refine lv_goto (tgt := 3) hx hb dX10_putFour_43 (by decide) ?_
  refine lv_iload_n hx hb dX10_putFour_3 rfl (lv_at hl 0 rfl) ?_
  refine lv_if_lt (tgt := 46) hx hb dX10_putFour_4 (by decide) (fun c_5 => absurd c_5 (by decide)) (fun _ => ?_)
  refine lv_aload_n hx hb dX10_putFour_7 rfl (lv_at hl 1 rfl) ?_
  refine va_get (D := D) (ci := 10) (v := .int 1) (C := RX10) (T := TX10) (N := 20) hx hb hg inGX10 hown hK hP 0 rfl rfl 1 (by decide) (hg _ q_2_104) (fun _ h9 => h9) (px_ss hx_1) dX10_putFour_8 ?_
  refine lv_sipush (v := 940) hx hb dX10_putFour_11 (by decide) ?_
  refine lv_icmp_ge (tgt := 46) hx hb dX10_putFour_14 (by decide) (fun c_6 => absurd c_6 (by decide)) (fun _ => ?_)
  refine lv_aload_n hx hb dX10_putFour_17 rfl (lv_at hl 1 rfl) ?_
  refine va_get (D := D) (ci := 10) (v := .ref tp) (C := RX10) (T := TX10) (N := 20) hx hb hg inGX10 hown hK hP 0 rfl rfl 0 (by decide) (hg _ q_2_103) (fun _ h9 => h9) (px_sn (by decide) hx_0) dX10_putFour_18 ?_
  refine lv_aload_n hx hb dX10_putFour_21 rfl (lv_at hl 1 rfl) ?_
  refine va_get (D := D) (ci := 10) (v := .int 1) (C := RX10) (T := TX10) (N := 20) hx hb hg inGX10 hown hK hP 0 rfl rfl 1 (by decide) (hg _ q_2_104) (fun _ h9 => h9) (px_ss hx_1) dX10_putFour_22 ?_
  refine lv_iload_n hx hb dX10_putFour_25 rfl (lv_at hl 2 rfl) ?_
  refine lv_iload_n hx hb dX10_putFour_26 rfl (lv_at hl 0 rfl) ?_
  refine lv_iushr hx hb dX10_putFour_27 rfl ?_
  refine lv_i2b hx hb dX10_putFour_28 rfl ?_
  refine va_bast hx hb hK hP hD hS 1 0 rfl rfl (i := 1) (px_in (by decide)) dX10_putFour_29 (fun H_7 locs_7 hP_7 hD_7 hS_7 => ?_)
  clear hP hD hS
  have hP : va_P D vwCl [(x, .inr (10, (fx.set 1 (.int 1)))), (tp, .inl (y 0, 940, .inl (upd (upd ftp 0 (vp_nar .byte ((Int32.toInt8 ((Int32.toUInt32 p0 >>> (Int32.toUInt32 24 &&& Int32.toUInt32 31)).toInt32)).toInt32))) 1 (vp_nar .byte ((Int32.toInt8 ((Int32.toUInt32 p0 >>> (Int32.toUInt32 16 &&& Int32.toUInt32 31)).toInt32)).toInt32)))))] H_7 := hP_7
  have hD : va_D A [(x, .inr (10, (fx.set 1 (.int 1)))), (tp, .inl (y 0, 940, .inl (upd (upd ftp 0 (vp_nar .byte ((Int32.toInt8 ((Int32.toUInt32 p0 >>> (Int32.toUInt32 24 &&& Int32.toUInt32 31)).toInt32)).toInt32))) 1 (vp_nar .byte ((Int32.toInt8 ((Int32.toUInt32 p0 >>> (Int32.toUInt32 16 &&& Int32.toUInt32 31)).toInt32)).toInt32)))))] := hD_7
  have hS := hS_7
  clear hP_7 hD_7 hS_7
  refine lv_aload_n hx hb dX10_putFour_30 rfl (lv_at hl 1 rfl) ?_
  refine lv_dup hx hb dX10_putFour_31 rfl ?_
  refine va_get (D := D) (ci := 10) (v := .int 1) (C := RX10) (T := TX10) (N := 20) hx hb hg inGX10 hown hK hP 0 rfl rfl 1 (by decide) (hg _ q_2_104) (fun _ h9 => h9) (px_ss hx_1) dX10_putFour_32 ?_
  refine lv_iconst (v := 1) hx hb dX10_putFour_35 (by decide) ?_
  refine lv_iadd hx hb dX10_putFour_36 ?_
  refine px_top (v := 2) (by decide) ?_
  refine va_put (D := D) (ci := 10) (v := .int 2) (ty := .int) (C := RX10) (T := TX10) (N := 20) hx hb hg inGX10 tyX10 tyX10_ok nmX10 hown hK hP hD hS 0 rfl rfl 1 (by decide) (hg _ q_2_104) (fun _ h9 => h9) rfl (by decide +kernel) rfl rfl (px_len (px_ss hx_1)) dX10_putFour_37 (fun H_8 locs_8 hP_8 hD_8 hS_8 => ?_)
  clear hP hD hS
  have hP : va_P D vwCl [(x, .inr (10, ((fx.set 1 (.int 1)).set 1 (.int 2)))), (tp, .inl (y 0, 940, .inl (upd (upd ftp 0 (vp_nar .byte ((Int32.toInt8 ((Int32.toUInt32 p0 >>> (Int32.toUInt32 24 &&& Int32.toUInt32 31)).toInt32)).toInt32))) 1 (vp_nar .byte ((Int32.toInt8 ((Int32.toUInt32 p0 >>> (Int32.toUInt32 16 &&& Int32.toUInt32 31)).toInt32)).toInt32)))))] H_8 := hP_8
  have hD : va_D A [(x, .inr (10, ((fx.set 1 (.int 1)).set 1 (.int 2)))), (tp, .inl (y 0, 940, .inl (upd (upd ftp 0 (vp_nar .byte ((Int32.toInt8 ((Int32.toUInt32 p0 >>> (Int32.toUInt32 24 &&& Int32.toUInt32 31)).toInt32)).toInt32))) 1 (vp_nar .byte ((Int32.toInt8 ((Int32.toUInt32 p0 >>> (Int32.toUInt32 16 &&& Int32.toUInt32 31)).toInt32)).toInt32)))))] := hD_8
  have hS := hS_8
  clear hP_8 hD_8 hS_8
  refine lv_iinc (v := 8) (lv' := [(2, .int 8), (0, .ref x), (1, .int p0)]) hx hb dX10_putFour_40 hl (k := 0) rfl (by decide) (by decide) rfl (fun ls hl => ?_)
  refine lv_goto (tgt := 3) hx hb dX10_putFour_43 (by decide) ?_
  refine lv_iload_n hx hb dX10_putFour_3 rfl (lv_at hl 0 rfl) ?_
  refine lv_if_lt (tgt := 46) hx hb dX10_putFour_4 (by decide) (fun c_9 => absurd c_9 (by decide)) (fun _ => ?_)
  refine lv_aload_n hx hb dX10_putFour_7 rfl (lv_at hl 1 rfl) ?_
  refine va_get (D := D) (ci := 10) (v := .int 2) (C := RX10) (T := TX10) (N := 20) hx hb hg inGX10 hown hK hP 0 rfl rfl 1 (by decide) (hg _ q_2_104) (fun _ h9 => h9) (px_ss (px_ss hx_1)) dX10_putFour_8 ?_
  refine lv_sipush (v := 940) hx hb dX10_putFour_11 (by decide) ?_
  refine lv_icmp_ge (tgt := 46) hx hb dX10_putFour_14 (by decide) (fun c_10 => absurd c_10 (by decide)) (fun _ => ?_)
  refine lv_aload_n hx hb dX10_putFour_17 rfl (lv_at hl 1 rfl) ?_
  refine va_get (D := D) (ci := 10) (v := .ref tp) (C := RX10) (T := TX10) (N := 20) hx hb hg inGX10 hown hK hP 0 rfl rfl 0 (by decide) (hg _ q_2_103) (fun _ h9 => h9) (px_sn (by decide) (px_sn (by decide) hx_0)) dX10_putFour_18 ?_
  refine lv_aload_n hx hb dX10_putFour_21 rfl (lv_at hl 1 rfl) ?_
  refine va_get (D := D) (ci := 10) (v := .int 2) (C := RX10) (T := TX10) (N := 20) hx hb hg inGX10 hown hK hP 0 rfl rfl 1 (by decide) (hg _ q_2_104) (fun _ h9 => h9) (px_ss (px_ss hx_1)) dX10_putFour_22 ?_
  refine lv_iload_n hx hb dX10_putFour_25 rfl (lv_at hl 2 rfl) ?_
  refine lv_iload_n hx hb dX10_putFour_26 rfl (lv_at hl 0 rfl) ?_
  refine lv_iushr hx hb dX10_putFour_27 rfl ?_
  refine lv_i2b hx hb dX10_putFour_28 rfl ?_
  refine va_bast hx hb hK hP hD hS 1 0 rfl rfl (i := 2) (px_in (by decide)) dX10_putFour_29 (fun H_11 locs_11 hP_11 hD_11 hS_11 => ?_)
  clear hP hD hS
  have hP : va_P D vwCl [(x, .inr (10, ((fx.set 1 (.int 1)).set 1 (.int 2)))), (tp, .inl (y 0, 940, .inl (upd (upd (upd ftp 0 (vp_nar .byte ((Int32.toInt8 ((Int32.toUInt32 p0 >>> (Int32.toUInt32 24 &&& Int32.toUInt32 31)).toInt32)).toInt32))) 1 (vp_nar .byte ((Int32.toInt8 ((Int32.toUInt32 p0 >>> (Int32.toUInt32 16 &&& Int32.toUInt32 31)).toInt32)).toInt32))) 2 (vp_nar .byte ((Int32.toInt8 ((Int32.toUInt32 p0 >>> (Int32.toUInt32 8 &&& Int32.toUInt32 31)).toInt32)).toInt32)))))] H_11 := hP_11
  have hD : va_D A [(x, .inr (10, ((fx.set 1 (.int 1)).set 1 (.int 2)))), (tp, .inl (y 0, 940, .inl (upd (upd (upd ftp 0 (vp_nar .byte ((Int32.toInt8 ((Int32.toUInt32 p0 >>> (Int32.toUInt32 24 &&& Int32.toUInt32 31)).toInt32)).toInt32))) 1 (vp_nar .byte ((Int32.toInt8 ((Int32.toUInt32 p0 >>> (Int32.toUInt32 16 &&& Int32.toUInt32 31)).toInt32)).toInt32))) 2 (vp_nar .byte ((Int32.toInt8 ((Int32.toUInt32 p0 >>> (Int32.toUInt32 8 &&& Int32.toUInt32 31)).toInt32)).toInt32)))))] := hD_11
  have hS := hS_11
  clear hP_11 hD_11 hS_11
  refine lv_aload_n hx hb dX10_putFour_30 rfl (lv_at hl 1 rfl) ?_
  refine lv_dup hx hb dX10_putFour_31 rfl ?_
  refine va_get (D := D) (ci := 10) (v := .int 2) (C := RX10) (T := TX10) (N := 20) hx hb hg inGX10 hown hK hP 0 rfl rfl 1 (by decide) (hg _ q_2_104) (fun _ h9 => h9) (px_ss (px_ss hx_1)) dX10_putFour_32 ?_
  refine lv_iconst (v := 1) hx hb dX10_putFour_35 (by decide) ?_
  refine lv_iadd hx hb dX10_putFour_36 ?_
  refine px_top (v := 3) (by decide) ?_
  refine va_put (D := D) (ci := 10) (v := .int 3) (ty := .int) (C := RX10) (T := TX10) (N := 20) hx hb hg inGX10 tyX10 tyX10_ok nmX10 hown hK hP hD hS 0 rfl rfl 1 (by decide) (hg _ q_2_104) (fun _ h9 => h9) rfl (by decide +kernel) rfl rfl (px_len (px_ss (px_ss hx_1))) dX10_putFour_37 (fun H_12 locs_12 hP_12 hD_12 hS_12 => ?_)
  clear hP hD hS
  have hP : va_P D vwCl [(x, .inr (10, (((fx.set 1 (.int 1)).set 1 (.int 2)).set 1 (.int 3)))), (tp, .inl (y 0, 940, .inl (upd (upd (upd ftp 0 (vp_nar .byte ((Int32.toInt8 ((Int32.toUInt32 p0 >>> (Int32.toUInt32 24 &&& Int32.toUInt32 31)).toInt32)).toInt32))) 1 (vp_nar .byte ((Int32.toInt8 ((Int32.toUInt32 p0 >>> (Int32.toUInt32 16 &&& Int32.toUInt32 31)).toInt32)).toInt32))) 2 (vp_nar .byte ((Int32.toInt8 ((Int32.toUInt32 p0 >>> (Int32.toUInt32 8 &&& Int32.toUInt32 31)).toInt32)).toInt32)))))] H_12 := hP_12
  have hD : va_D A [(x, .inr (10, (((fx.set 1 (.int 1)).set 1 (.int 2)).set 1 (.int 3)))), (tp, .inl (y 0, 940, .inl (upd (upd (upd ftp 0 (vp_nar .byte ((Int32.toInt8 ((Int32.toUInt32 p0 >>> (Int32.toUInt32 24 &&& Int32.toUInt32 31)).toInt32)).toInt32))) 1 (vp_nar .byte ((Int32.toInt8 ((Int32.toUInt32 p0 >>> (Int32.toUInt32 16 &&& Int32.toUInt32 31)).toInt32)).toInt32))) 2 (vp_nar .byte ((Int32.toInt8 ((Int32.toUInt32 p0 >>> (Int32.toUInt32 8 &&& Int32.toUInt32 31)).toInt32)).toInt32)))))] := hD_12
  have hS := hS_12
  clear hP_12 hD_12 hS_12
  refine lv_iinc (v := 0) (lv' := [(2, .int 0), (0, .ref x), (1, .int p0)]) hx hb dX10_putFour_40 hl (k := 0) rfl (by decide) (by decide) rfl (fun ls hl => ?_)
  refine lv_goto (tgt := 3) hx hb dX10_putFour_43 (by decide) ?_
  refine lv_iload_n hx hb dX10_putFour_3 rfl (lv_at hl 0 rfl) ?_
  refine lv_if_lt (tgt := 46) hx hb dX10_putFour_4 (by decide) (fun c_13 => absurd c_13 (by decide)) (fun _ => ?_)
  refine lv_aload_n hx hb dX10_putFour_7 rfl (lv_at hl 1 rfl) ?_
  refine va_get (D := D) (ci := 10) (v := .int 3) (C := RX10) (T := TX10) (N := 20) hx hb hg inGX10 hown hK hP 0 rfl rfl 1 (by decide) (hg _ q_2_104) (fun _ h9 => h9) (px_ss (px_ss (px_ss hx_1))) dX10_putFour_8 ?_
  refine lv_sipush (v := 940) hx hb dX10_putFour_11 (by decide) ?_
  refine lv_icmp_ge (tgt := 46) hx hb dX10_putFour_14 (by decide) (fun c_14 => absurd c_14 (by decide)) (fun _ => ?_)
  refine lv_aload_n hx hb dX10_putFour_17 rfl (lv_at hl 1 rfl) ?_
  refine va_get (D := D) (ci := 10) (v := .ref tp) (C := RX10) (T := TX10) (N := 20) hx hb hg inGX10 hown hK hP 0 rfl rfl 0 (by decide) (hg _ q_2_103) (fun _ h9 => h9) (px_sn (by decide) (px_sn (by decide) (px_sn (by decide) hx_0))) dX10_putFour_18 ?_
  refine lv_aload_n hx hb dX10_putFour_21 rfl (lv_at hl 1 rfl) ?_
  refine va_get (D := D) (ci := 10) (v := .int 3) (C := RX10) (T := TX10) (N := 20) hx hb hg inGX10 hown hK hP 0 rfl rfl 1 (by decide) (hg _ q_2_104) (fun _ h9 => h9) (px_ss (px_ss (px_ss hx_1))) dX10_putFour_22 ?_
  refine lv_iload_n hx hb dX10_putFour_25 rfl (lv_at hl 2 rfl) ?_
  refine lv_iload_n hx hb dX10_putFour_26 rfl (lv_at hl 0 rfl) ?_
  refine lv_iushr hx hb dX10_putFour_27 rfl ?_
  refine lv_i2b hx hb dX10_putFour_28 rfl ?_
  refine va_bast hx hb hK hP hD hS 1 0 rfl rfl (i := 3) (px_in (by decide)) dX10_putFour_29 (fun H_15 locs_15 hP_15 hD_15 hS_15 => ?_)
  clear hP hD hS
  have hP : va_P D vwCl [(x, .inr (10, (((fx.set 1 (.int 1)).set 1 (.int 2)).set 1 (.int 3)))), (tp, .inl (y 0, 940, .inl (upd (upd (upd (upd ftp 0 (vp_nar .byte ((Int32.toInt8 ((Int32.toUInt32 p0 >>> (Int32.toUInt32 24 &&& Int32.toUInt32 31)).toInt32)).toInt32))) 1 (vp_nar .byte ((Int32.toInt8 ((Int32.toUInt32 p0 >>> (Int32.toUInt32 16 &&& Int32.toUInt32 31)).toInt32)).toInt32))) 2 (vp_nar .byte ((Int32.toInt8 ((Int32.toUInt32 p0 >>> (Int32.toUInt32 8 &&& Int32.toUInt32 31)).toInt32)).toInt32))) 3 (vp_nar .byte ((Int32.toInt8 ((Int32.toUInt32 p0 >>> (Int32.toUInt32 0 &&& Int32.toUInt32 31)).toInt32)).toInt32)))))] H_15 := hP_15
  have hD : va_D A [(x, .inr (10, (((fx.set 1 (.int 1)).set 1 (.int 2)).set 1 (.int 3)))), (tp, .inl (y 0, 940, .inl (upd (upd (upd (upd ftp 0 (vp_nar .byte ((Int32.toInt8 ((Int32.toUInt32 p0 >>> (Int32.toUInt32 24 &&& Int32.toUInt32 31)).toInt32)).toInt32))) 1 (vp_nar .byte ((Int32.toInt8 ((Int32.toUInt32 p0 >>> (Int32.toUInt32 16 &&& Int32.toUInt32 31)).toInt32)).toInt32))) 2 (vp_nar .byte ((Int32.toInt8 ((Int32.toUInt32 p0 >>> (Int32.toUInt32 8 &&& Int32.toUInt32 31)).toInt32)).toInt32))) 3 (vp_nar .byte ((Int32.toInt8 ((Int32.toUInt32 p0 >>> (Int32.toUInt32 0 &&& Int32.toUInt32 31)).toInt32)).toInt32)))))] := hD_15
  have hS := hS_15
  clear hP_15 hD_15 hS_15
  refine lv_aload_n hx hb dX10_putFour_30 rfl (lv_at hl 1 rfl) ?_
  refine lv_dup hx hb dX10_putFour_31 rfl ?_
  refine va_get (D := D) (ci := 10) (v := .int 3) (C := RX10) (T := TX10) (N := 20) hx hb hg inGX10 hown hK hP 0 rfl rfl 1 (by decide) (hg _ q_2_104) (fun _ h9 => h9) (px_ss (px_ss (px_ss hx_1))) dX10_putFour_32 ?_
  refine lv_iconst (v := 1) hx hb dX10_putFour_35 (by decide) ?_
  refine lv_iadd hx hb dX10_putFour_36 ?_
  refine px_top (v := 4) (by decide) ?_
  refine va_put (D := D) (ci := 10) (v := .int 4) (ty := .int) (C := RX10) (T := TX10) (N := 20) hx hb hg inGX10 tyX10 tyX10_ok nmX10 hown hK hP hD hS 0 rfl rfl 1 (by decide) (hg _ q_2_104) (fun _ h9 => h9) rfl (by decide +kernel) rfl rfl (px_len (px_ss (px_ss (px_ss hx_1)))) dX10_putFour_37 (fun H_16 locs_16 hP_16 hD_16 hS_16 => ?_)
  clear hP hD hS
  have hP : va_P D vwCl [(x, .inr (10, ((((fx.set 1 (.int 1)).set 1 (.int 2)).set 1 (.int 3)).set 1 (.int 4)))), (tp, .inl (y 0, 940, .inl (upd (upd (upd (upd ftp 0 (vp_nar .byte ((Int32.toInt8 ((Int32.toUInt32 p0 >>> (Int32.toUInt32 24 &&& Int32.toUInt32 31)).toInt32)).toInt32))) 1 (vp_nar .byte ((Int32.toInt8 ((Int32.toUInt32 p0 >>> (Int32.toUInt32 16 &&& Int32.toUInt32 31)).toInt32)).toInt32))) 2 (vp_nar .byte ((Int32.toInt8 ((Int32.toUInt32 p0 >>> (Int32.toUInt32 8 &&& Int32.toUInt32 31)).toInt32)).toInt32))) 3 (vp_nar .byte ((Int32.toInt8 ((Int32.toUInt32 p0 >>> (Int32.toUInt32 0 &&& Int32.toUInt32 31)).toInt32)).toInt32)))))] H_16 := hP_16
  have hD : va_D A [(x, .inr (10, ((((fx.set 1 (.int 1)).set 1 (.int 2)).set 1 (.int 3)).set 1 (.int 4)))), (tp, .inl (y 0, 940, .inl (upd (upd (upd (upd ftp 0 (vp_nar .byte ((Int32.toInt8 ((Int32.toUInt32 p0 >>> (Int32.toUInt32 24 &&& Int32.toUInt32 31)).toInt32)).toInt32))) 1 (vp_nar .byte ((Int32.toInt8 ((Int32.toUInt32 p0 >>> (Int32.toUInt32 16 &&& Int32.toUInt32 31)).toInt32)).toInt32))) 2 (vp_nar .byte ((Int32.toInt8 ((Int32.toUInt32 p0 >>> (Int32.toUInt32 8 &&& Int32.toUInt32 31)).toInt32)).toInt32))) 3 (vp_nar .byte ((Int32.toInt8 ((Int32.toUInt32 p0 >>> (Int32.toUInt32 0 &&& Int32.toUInt32 31)).toInt32)).toInt32)))))] := hD_16
  have hS := hS_16
  clear hP_16 hD_16 hS_16
  refine lv_iinc (v := (-8)) (lv' := [(2, .int (-8)), (0, .ref x), (1, .int p0)]) hx hb dX10_putFour_40 hl (k := 0) rfl (by decide) (by decide) rfl (fun ls hl => ?_)
  refine lv_goto (tgt := 3) hx hb dX10_putFour_43 (by decide) ?_
  refine lv_iload_n hx hb dX10_putFour_3 rfl (lv_at hl 0 rfl) ?_
  refine lv_if_lt (tgt := 46) hx hb dX10_putFour_4 (by decide) (fun _ => ?_) (fun c_17 => absurd c_17 (by decide))
  have hP9 := hP.sub (ws' := [(x, .inr (10, ((((fx.set 1 (.int 1)).set 1 (.int 2)).set 1 (.int 3)).set 1 (.int 4)))), (tp, .inl (y 0, 940, .inl (upd (upd (upd (upd ftp 0 (vp_nar .byte ((Int32.toInt8 ((Int32.toUInt32 p0 >>> (Int32.toUInt32 24 &&& Int32.toUInt32 31)).toInt32)).toInt32))) 1 (vp_nar .byte ((Int32.toInt8 ((Int32.toUInt32 p0 >>> (Int32.toUInt32 16 &&& Int32.toUInt32 31)).toInt32)).toInt32))) 2 (vp_nar .byte ((Int32.toInt8 ((Int32.toUInt32 p0 >>> (Int32.toUInt32 8 &&& Int32.toUInt32 31)).toInt32)).toInt32))) 3 (vp_nar .byte ((Int32.toInt8 ((Int32.toUInt32 p0 >>> (Int32.toUInt32 0 &&& Int32.toUInt32 31)).toInt32)).toInt32)))))]) [0, 1] rfl
  have hD9 := hD.sub (ws' := [(x, .inr (10, ((((fx.set 1 (.int 1)).set 1 (.int 2)).set 1 (.int 3)).set 1 (.int 4)))), (tp, .inl (y 0, 940, .inl (upd (upd (upd (upd ftp 0 (vp_nar .byte ((Int32.toInt8 ((Int32.toUInt32 p0 >>> (Int32.toUInt32 24 &&& Int32.toUInt32 31)).toInt32)).toInt32))) 1 (vp_nar .byte ((Int32.toInt8 ((Int32.toUInt32 p0 >>> (Int32.toUInt32 16 &&& Int32.toUInt32 31)).toInt32)).toInt32))) 2 (vp_nar .byte ((Int32.toInt8 ((Int32.toUInt32 p0 >>> (Int32.toUInt32 8 &&& Int32.toUInt32 31)).toInt32)).toInt32))) 3 (vp_nar .byte ((Int32.toInt8 ((Int32.toUInt32 p0 >>> (Int32.toUInt32 0 &&& Int32.toUInt32 31)).toInt32)).toInt32)))))]) [0, 1] (by decide +kernel) rfl
  exact W.vret hx hb hr (fun t ht hW => ⟨⟨(px_v [], px_vi [(upd (upd (upd (upd ftp 0 (vp_nar .byte ((Int32.toInt8 ((Int32.toUInt32 p0 >>> (Int32.toUInt32 24 &&& Int32.toUInt32 31)).toInt32)).toInt32))) 1 (vp_nar .byte ((Int32.toInt8 ((Int32.toUInt32 p0 >>> (Int32.toUInt32 16 &&& Int32.toUInt32 31)).toInt32)).toInt32))) 2 (vp_nar .byte ((Int32.toInt8 ((Int32.toUInt32 p0 >>> (Int32.toUInt32 8 &&& Int32.toUInt32 31)).toInt32)).toInt32))) 3 (vp_nar .byte ((Int32.toInt8 ((Int32.toUInt32 p0 >>> (Int32.toUInt32 0 &&& Int32.toUInt32 31)).toInt32)).toInt32)))], px_vl []), rfl, trivial, by rw [ht]; exact hP9, hD9⟩, hS.F ht⟩) hS.2.2 dX10_putFour_46

set_option maxHeartbeats 4000000 in
set_option maxRecDepth 100000 in
theorem c_X10_putFour_4 (l : Launch) (D : va_G) (y : Nat → ClassId) (sz : Nat) (x : Nat) (fx : List Value) (tp : Nat) (ftp : Nat → Int32) (p0 : Int32) (hx_0 : fx[0]? = some (.ref tp)) (hx_1 : fx[1]? = some (.int 4)) : Met l yX10_putFour (px_w yX10_putFour cX10_putFour 3 none) ({ frames := 0, cells := 0, slots := 0, locals := 0 }) (va_Pc [.ref x, .int p0] (px_P D y sz [(x, .inr (10, fx)), (tp, .inl (y 0, 940, .inl ftp))])) (va_Qv (fun (u : px_U) => True) (fun (u : px_U) t => va_P D vwCl [(x, .inr (10, ((((fx.set 1 (.int 5)).set 1 (.int 6)).set 1 (.int 7)).set 1 (.int 8)))), (tp, .inl (y 0, 940, .inl (u.2.1 0)))] t.heap ∧ va_D (va_A [(x, .inr (10, fx)), (tp, .inl (y 0, 940, .inl ftp))] sz) [(x, .inr (10, ((((fx.set 1 (.int 5)).set 1 (.int 6)).set 1 (.int 7)).set 1 (.int 8)))), (tp, .inl (y 0, 940, .inl (u.2.1 0)))]) (va_A [(x, .inr (10, fx)), (tp, .inl (y 0, 940, .inl ftp))] sz)) 0 0 (va_A [(x, .inr (10, fx)), (tp, .inl (y 0, 940, .inl ftp))] sz) := by
  refine Met.ofW (cc := cX10_putFour) (maxL := 3) (ret := none) (by decide) rfl ?_
  intro p e s m args below meth c s₁ B hml hv
  obtain ⟨rfl, hsz, hP, hK, hD0⟩ := hv
  have hx := B.exec
  have hb := B.bytes
  have hr := B.returns
  have hts := atoms_spec (ws := px_w yX10_putFour cX10_putFour 3 none) B.pre
  have hg : ∀ w ∈ gw, w.before [.ref x, .int p0].toArray s = true := fun w h => hts w (List.mem_cons_of_mem _ h)
  have hown : s.vm.findClass RX10 = some m.cls := findClass_of_methodNamed B.named
  have hlocks := B.notSynchronized
  subst hsz
  have hD := hD0.self (sz := s.heap.size)
  generalize hAe : va_A [(x, .inr (10, fx)), (tp, .inl (y 0, 940, .inl ftp))] s.heap.size = A at hD ⊢
  have hA : ∀ q : Nat, s.heap.size ≤ q → A q := fun q h => by rw [← hAe]; exact Or.inr h
  have hS : va_S A s.heap s.heap [] := va_S.rf
  have hP : va_P D vwCl [(x, .inr (10, fx)), (tp, .inl (y 0, 940, .inl ftp))] s.heap := hP
  have hl := lv_entry ([.ref x, .int p0]) (n := 3) (Nat.le_of_ble_eq_true rfl)
  rw [lg_entry_eq]
  generalize (lg_sl ([.ref x, .int p0]) ++ List.replicate (3 - (lg_sl ([.ref x, .int p0])).length) Slot.unset).toArray = ls at hl ⊢
  have hl : lv_has ls 3 [(0, .ref x), (1, .int p0)] := hl
  refine lv_bipush (v := 24) hx hb dX10_putFour_0 (by decide) ?_
  refine lv_istore_n (lv' := [(2, .int 24), (0, .ref x), (1, .int p0)]) hx hb dX10_putFour_2 rfl hl (by decide) rfl (fun ls hl => ?_)
  refine lv_iload_n hx hb dX10_putFour_3 rfl (lv_at hl 0 rfl) ?_
  refine lv_if_lt (tgt := 46) hx hb dX10_putFour_4 (by decide) (fun c_1 => absurd c_1 (by decide)) (fun _ => ?_)
  refine lv_aload_n hx hb dX10_putFour_7 rfl (lv_at hl 1 rfl) ?_
  refine va_get (D := D) (ci := 10) (v := .int 4) (C := RX10) (T := TX10) (N := 20) hx hb hg inGX10 hown hK hP 0 rfl rfl 1 (by decide) (hg _ q_2_104) (fun _ h9 => h9) hx_1 dX10_putFour_8 ?_
  refine lv_sipush (v := 940) hx hb dX10_putFour_11 (by decide) ?_
  refine lv_icmp_ge (tgt := 46) hx hb dX10_putFour_14 (by decide) (fun c_2 => absurd c_2 (by decide)) (fun _ => ?_)
  refine lv_aload_n hx hb dX10_putFour_17 rfl (lv_at hl 1 rfl) ?_
  refine va_get (D := D) (ci := 10) (v := .ref tp) (C := RX10) (T := TX10) (N := 20) hx hb hg inGX10 hown hK hP 0 rfl rfl 0 (by decide) (hg _ q_2_103) (fun _ h9 => h9) hx_0 dX10_putFour_18 ?_
  refine lv_aload_n hx hb dX10_putFour_21 rfl (lv_at hl 1 rfl) ?_
  refine va_get (D := D) (ci := 10) (v := .int 4) (C := RX10) (T := TX10) (N := 20) hx hb hg inGX10 hown hK hP 0 rfl rfl 1 (by decide) (hg _ q_2_104) (fun _ h9 => h9) hx_1 dX10_putFour_22 ?_
  refine lv_iload_n hx hb dX10_putFour_25 rfl (lv_at hl 2 rfl) ?_
  refine lv_iload_n hx hb dX10_putFour_26 rfl (lv_at hl 0 rfl) ?_
  refine lv_iushr hx hb dX10_putFour_27 rfl ?_
  refine lv_i2b hx hb dX10_putFour_28 rfl ?_
  refine va_bast hx hb hK hP hD hS 1 0 rfl rfl (i := 4) (px_in (by decide)) dX10_putFour_29 (fun H_3 locs_3 hP_3 hD_3 hS_3 => ?_)
  clear hP hD hS
  have hP : va_P D vwCl [(x, .inr (10, fx)), (tp, .inl (y 0, 940, .inl (upd ftp 4 (vp_nar .byte ((Int32.toInt8 ((Int32.toUInt32 p0 >>> (Int32.toUInt32 24 &&& Int32.toUInt32 31)).toInt32)).toInt32)))))] H_3 := hP_3
  have hD : va_D A [(x, .inr (10, fx)), (tp, .inl (y 0, 940, .inl (upd ftp 4 (vp_nar .byte ((Int32.toInt8 ((Int32.toUInt32 p0 >>> (Int32.toUInt32 24 &&& Int32.toUInt32 31)).toInt32)).toInt32)))))] := hD_3
  have hS := hS_3
  clear hP_3 hD_3 hS_3
  refine lv_aload_n hx hb dX10_putFour_30 rfl (lv_at hl 1 rfl) ?_
  refine lv_dup hx hb dX10_putFour_31 rfl ?_
  refine va_get (D := D) (ci := 10) (v := .int 4) (C := RX10) (T := TX10) (N := 20) hx hb hg inGX10 hown hK hP 0 rfl rfl 1 (by decide) (hg _ q_2_104) (fun _ h9 => h9) hx_1 dX10_putFour_32 ?_
  refine lv_iconst (v := 1) hx hb dX10_putFour_35 (by decide) ?_
  refine lv_iadd hx hb dX10_putFour_36 ?_
  refine px_top (v := 5) (by decide) ?_
  refine va_put (D := D) (ci := 10) (v := .int 5) (ty := .int) (C := RX10) (T := TX10) (N := 20) hx hb hg inGX10 tyX10 tyX10_ok nmX10 hown hK hP hD hS 0 rfl rfl 1 (by decide) (hg _ q_2_104) (fun _ h9 => h9) rfl (by decide +kernel) rfl rfl (px_len hx_1) dX10_putFour_37 (fun H_4 locs_4 hP_4 hD_4 hS_4 => ?_)
  clear hP hD hS
  have hP : va_P D vwCl [(x, .inr (10, (fx.set 1 (.int 5)))), (tp, .inl (y 0, 940, .inl (upd ftp 4 (vp_nar .byte ((Int32.toInt8 ((Int32.toUInt32 p0 >>> (Int32.toUInt32 24 &&& Int32.toUInt32 31)).toInt32)).toInt32)))))] H_4 := hP_4
  have hD : va_D A [(x, .inr (10, (fx.set 1 (.int 5)))), (tp, .inl (y 0, 940, .inl (upd ftp 4 (vp_nar .byte ((Int32.toInt8 ((Int32.toUInt32 p0 >>> (Int32.toUInt32 24 &&& Int32.toUInt32 31)).toInt32)).toInt32)))))] := hD_4
  have hS := hS_4
  clear hP_4 hD_4 hS_4
  refine lv_iinc (v := 16) (lv' := [(2, .int 16), (0, .ref x), (1, .int p0)]) hx hb dX10_putFour_40 hl (k := 0) rfl (by decide) (by decide) rfl (fun ls hl => ?_)
  refine lv_goto (tgt := 3) hx hb dX10_putFour_43 (by decide) ?_
  refine lv_iload_n hx hb dX10_putFour_3 rfl (lv_at hl 0 rfl) ?_
  refine lv_if_lt (tgt := 46) hx hb dX10_putFour_4 (by decide) (fun c_5 => absurd c_5 (by decide)) (fun _ => ?_)
  refine lv_aload_n hx hb dX10_putFour_7 rfl (lv_at hl 1 rfl) ?_
  refine va_get (D := D) (ci := 10) (v := .int 5) (C := RX10) (T := TX10) (N := 20) hx hb hg inGX10 hown hK hP 0 rfl rfl 1 (by decide) (hg _ q_2_104) (fun _ h9 => h9) (px_ss hx_1) dX10_putFour_8 ?_
  refine lv_sipush (v := 940) hx hb dX10_putFour_11 (by decide) ?_
  refine lv_icmp_ge (tgt := 46) hx hb dX10_putFour_14 (by decide) (fun c_6 => absurd c_6 (by decide)) (fun _ => ?_)
  refine lv_aload_n hx hb dX10_putFour_17 rfl (lv_at hl 1 rfl) ?_
  refine va_get (D := D) (ci := 10) (v := .ref tp) (C := RX10) (T := TX10) (N := 20) hx hb hg inGX10 hown hK hP 0 rfl rfl 0 (by decide) (hg _ q_2_103) (fun _ h9 => h9) (px_sn (by decide) hx_0) dX10_putFour_18 ?_
  refine lv_aload_n hx hb dX10_putFour_21 rfl (lv_at hl 1 rfl) ?_
  refine va_get (D := D) (ci := 10) (v := .int 5) (C := RX10) (T := TX10) (N := 20) hx hb hg inGX10 hown hK hP 0 rfl rfl 1 (by decide) (hg _ q_2_104) (fun _ h9 => h9) (px_ss hx_1) dX10_putFour_22 ?_
  refine lv_iload_n hx hb dX10_putFour_25 rfl (lv_at hl 2 rfl) ?_
  refine lv_iload_n hx hb dX10_putFour_26 rfl (lv_at hl 0 rfl) ?_
  refine lv_iushr hx hb dX10_putFour_27 rfl ?_
  refine lv_i2b hx hb dX10_putFour_28 rfl ?_
  refine va_bast hx hb hK hP hD hS 1 0 rfl rfl (i := 5) (px_in (by decide)) dX10_putFour_29 (fun H_7 locs_7 hP_7 hD_7 hS_7 => ?_)
  clear hP hD hS
  have hP : va_P D vwCl [(x, .inr (10, (fx.set 1 (.int 5)))), (tp, .inl (y 0, 940, .inl (upd (upd ftp 4 (vp_nar .byte ((Int32.toInt8 ((Int32.toUInt32 p0 >>> (Int32.toUInt32 24 &&& Int32.toUInt32 31)).toInt32)).toInt32))) 5 (vp_nar .byte ((Int32.toInt8 ((Int32.toUInt32 p0 >>> (Int32.toUInt32 16 &&& Int32.toUInt32 31)).toInt32)).toInt32)))))] H_7 := hP_7
  have hD : va_D A [(x, .inr (10, (fx.set 1 (.int 5)))), (tp, .inl (y 0, 940, .inl (upd (upd ftp 4 (vp_nar .byte ((Int32.toInt8 ((Int32.toUInt32 p0 >>> (Int32.toUInt32 24 &&& Int32.toUInt32 31)).toInt32)).toInt32))) 5 (vp_nar .byte ((Int32.toInt8 ((Int32.toUInt32 p0 >>> (Int32.toUInt32 16 &&& Int32.toUInt32 31)).toInt32)).toInt32)))))] := hD_7
  have hS := hS_7
  clear hP_7 hD_7 hS_7
  refine lv_aload_n hx hb dX10_putFour_30 rfl (lv_at hl 1 rfl) ?_
  refine lv_dup hx hb dX10_putFour_31 rfl ?_
  refine va_get (D := D) (ci := 10) (v := .int 5) (C := RX10) (T := TX10) (N := 20) hx hb hg inGX10 hown hK hP 0 rfl rfl 1 (by decide) (hg _ q_2_104) (fun _ h9 => h9) (px_ss hx_1) dX10_putFour_32 ?_
  refine lv_iconst (v := 1) hx hb dX10_putFour_35 (by decide) ?_
  refine lv_iadd hx hb dX10_putFour_36 ?_
  refine px_top (v := 6) (by decide) ?_
  refine va_put (D := D) (ci := 10) (v := .int 6) (ty := .int) (C := RX10) (T := TX10) (N := 20) hx hb hg inGX10 tyX10 tyX10_ok nmX10 hown hK hP hD hS 0 rfl rfl 1 (by decide) (hg _ q_2_104) (fun _ h9 => h9) rfl (by decide +kernel) rfl rfl (px_len (px_ss hx_1)) dX10_putFour_37 (fun H_8 locs_8 hP_8 hD_8 hS_8 => ?_)
  clear hP hD hS
  have hP : va_P D vwCl [(x, .inr (10, ((fx.set 1 (.int 5)).set 1 (.int 6)))), (tp, .inl (y 0, 940, .inl (upd (upd ftp 4 (vp_nar .byte ((Int32.toInt8 ((Int32.toUInt32 p0 >>> (Int32.toUInt32 24 &&& Int32.toUInt32 31)).toInt32)).toInt32))) 5 (vp_nar .byte ((Int32.toInt8 ((Int32.toUInt32 p0 >>> (Int32.toUInt32 16 &&& Int32.toUInt32 31)).toInt32)).toInt32)))))] H_8 := hP_8
  have hD : va_D A [(x, .inr (10, ((fx.set 1 (.int 5)).set 1 (.int 6)))), (tp, .inl (y 0, 940, .inl (upd (upd ftp 4 (vp_nar .byte ((Int32.toInt8 ((Int32.toUInt32 p0 >>> (Int32.toUInt32 24 &&& Int32.toUInt32 31)).toInt32)).toInt32))) 5 (vp_nar .byte ((Int32.toInt8 ((Int32.toUInt32 p0 >>> (Int32.toUInt32 16 &&& Int32.toUInt32 31)).toInt32)).toInt32)))))] := hD_8
  have hS := hS_8
  clear hP_8 hD_8 hS_8
  refine lv_iinc (v := 8) (lv' := [(2, .int 8), (0, .ref x), (1, .int p0)]) hx hb dX10_putFour_40 hl (k := 0) rfl (by decide) (by decide) rfl (fun ls hl => ?_)
  refine lv_goto (tgt := 3) hx hb dX10_putFour_43 (by decide) ?_
  refine lv_iload_n hx hb dX10_putFour_3 rfl (lv_at hl 0 rfl) ?_
  refine lv_if_lt (tgt := 46) hx hb dX10_putFour_4 (by decide) (fun c_9 => absurd c_9 (by decide)) (fun _ => ?_)
  refine lv_aload_n hx hb dX10_putFour_7 rfl (lv_at hl 1 rfl) ?_
  refine va_get (D := D) (ci := 10) (v := .int 6) (C := RX10) (T := TX10) (N := 20) hx hb hg inGX10 hown hK hP 0 rfl rfl 1 (by decide) (hg _ q_2_104) (fun _ h9 => h9) (px_ss (px_ss hx_1)) dX10_putFour_8 ?_
  refine lv_sipush (v := 940) hx hb dX10_putFour_11 (by decide) ?_
  refine lv_icmp_ge (tgt := 46) hx hb dX10_putFour_14 (by decide) (fun c_10 => absurd c_10 (by decide)) (fun _ => ?_)
  refine lv_aload_n hx hb dX10_putFour_17 rfl (lv_at hl 1 rfl) ?_
  refine va_get (D := D) (ci := 10) (v := .ref tp) (C := RX10) (T := TX10) (N := 20) hx hb hg inGX10 hown hK hP 0 rfl rfl 0 (by decide) (hg _ q_2_103) (fun _ h9 => h9) (px_sn (by decide) (px_sn (by decide) hx_0)) dX10_putFour_18 ?_
  refine lv_aload_n hx hb dX10_putFour_21 rfl (lv_at hl 1 rfl) ?_
  refine va_get (D := D) (ci := 10) (v := .int 6) (C := RX10) (T := TX10) (N := 20) hx hb hg inGX10 hown hK hP 0 rfl rfl 1 (by decide) (hg _ q_2_104) (fun _ h9 => h9) (px_ss (px_ss hx_1)) dX10_putFour_22 ?_
  refine lv_iload_n hx hb dX10_putFour_25 rfl (lv_at hl 2 rfl) ?_
  refine lv_iload_n hx hb dX10_putFour_26 rfl (lv_at hl 0 rfl) ?_
  refine lv_iushr hx hb dX10_putFour_27 rfl ?_
  refine lv_i2b hx hb dX10_putFour_28 rfl ?_
  refine va_bast hx hb hK hP hD hS 1 0 rfl rfl (i := 6) (px_in (by decide)) dX10_putFour_29 (fun H_11 locs_11 hP_11 hD_11 hS_11 => ?_)
  clear hP hD hS
  have hP : va_P D vwCl [(x, .inr (10, ((fx.set 1 (.int 5)).set 1 (.int 6)))), (tp, .inl (y 0, 940, .inl (upd (upd (upd ftp 4 (vp_nar .byte ((Int32.toInt8 ((Int32.toUInt32 p0 >>> (Int32.toUInt32 24 &&& Int32.toUInt32 31)).toInt32)).toInt32))) 5 (vp_nar .byte ((Int32.toInt8 ((Int32.toUInt32 p0 >>> (Int32.toUInt32 16 &&& Int32.toUInt32 31)).toInt32)).toInt32))) 6 (vp_nar .byte ((Int32.toInt8 ((Int32.toUInt32 p0 >>> (Int32.toUInt32 8 &&& Int32.toUInt32 31)).toInt32)).toInt32)))))] H_11 := hP_11
  have hD : va_D A [(x, .inr (10, ((fx.set 1 (.int 5)).set 1 (.int 6)))), (tp, .inl (y 0, 940, .inl (upd (upd (upd ftp 4 (vp_nar .byte ((Int32.toInt8 ((Int32.toUInt32 p0 >>> (Int32.toUInt32 24 &&& Int32.toUInt32 31)).toInt32)).toInt32))) 5 (vp_nar .byte ((Int32.toInt8 ((Int32.toUInt32 p0 >>> (Int32.toUInt32 16 &&& Int32.toUInt32 31)).toInt32)).toInt32))) 6 (vp_nar .byte ((Int32.toInt8 ((Int32.toUInt32 p0 >>> (Int32.toUInt32 8 &&& Int32.toUInt32 31)).toInt32)).toInt32)))))] := hD_11
  have hS := hS_11
  clear hP_11 hD_11 hS_11
  refine lv_aload_n hx hb dX10_putFour_30 rfl (lv_at hl 1 rfl) ?_
  refine lv_dup hx hb dX10_putFour_31 rfl ?_
  refine va_get (D := D) (ci := 10) (v := .int 6) (C := RX10) (T := TX10) (N := 20) hx hb hg inGX10 hown hK hP 0 rfl rfl 1 (by decide) (hg _ q_2_104) (fun _ h9 => h9) (px_ss (px_ss hx_1)) dX10_putFour_32 ?_
  refine lv_iconst (v := 1) hx hb dX10_putFour_35 (by decide) ?_
  refine lv_iadd hx hb dX10_putFour_36 ?_
  refine px_top (v := 7) (by decide) ?_
  refine va_put (D := D) (ci := 10) (v := .int 7) (ty := .int) (C := RX10) (T := TX10) (N := 20) hx hb hg inGX10 tyX10 tyX10_ok nmX10 hown hK hP hD hS 0 rfl rfl 1 (by decide) (hg _ q_2_104) (fun _ h9 => h9) rfl (by decide +kernel) rfl rfl (px_len (px_ss (px_ss hx_1))) dX10_putFour_37 (fun H_12 locs_12 hP_12 hD_12 hS_12 => ?_)
  clear hP hD hS
  have hP : va_P D vwCl [(x, .inr (10, (((fx.set 1 (.int 5)).set 1 (.int 6)).set 1 (.int 7)))), (tp, .inl (y 0, 940, .inl (upd (upd (upd ftp 4 (vp_nar .byte ((Int32.toInt8 ((Int32.toUInt32 p0 >>> (Int32.toUInt32 24 &&& Int32.toUInt32 31)).toInt32)).toInt32))) 5 (vp_nar .byte ((Int32.toInt8 ((Int32.toUInt32 p0 >>> (Int32.toUInt32 16 &&& Int32.toUInt32 31)).toInt32)).toInt32))) 6 (vp_nar .byte ((Int32.toInt8 ((Int32.toUInt32 p0 >>> (Int32.toUInt32 8 &&& Int32.toUInt32 31)).toInt32)).toInt32)))))] H_12 := hP_12
  have hD : va_D A [(x, .inr (10, (((fx.set 1 (.int 5)).set 1 (.int 6)).set 1 (.int 7)))), (tp, .inl (y 0, 940, .inl (upd (upd (upd ftp 4 (vp_nar .byte ((Int32.toInt8 ((Int32.toUInt32 p0 >>> (Int32.toUInt32 24 &&& Int32.toUInt32 31)).toInt32)).toInt32))) 5 (vp_nar .byte ((Int32.toInt8 ((Int32.toUInt32 p0 >>> (Int32.toUInt32 16 &&& Int32.toUInt32 31)).toInt32)).toInt32))) 6 (vp_nar .byte ((Int32.toInt8 ((Int32.toUInt32 p0 >>> (Int32.toUInt32 8 &&& Int32.toUInt32 31)).toInt32)).toInt32)))))] := hD_12
  have hS := hS_12
  clear hP_12 hD_12 hS_12
  refine lv_iinc (v := 0) (lv' := [(2, .int 0), (0, .ref x), (1, .int p0)]) hx hb dX10_putFour_40 hl (k := 0) rfl (by decide) (by decide) rfl (fun ls hl => ?_)
  refine lv_goto (tgt := 3) hx hb dX10_putFour_43 (by decide) ?_
  refine lv_iload_n hx hb dX10_putFour_3 rfl (lv_at hl 0 rfl) ?_
  refine lv_if_lt (tgt := 46) hx hb dX10_putFour_4 (by decide) (fun c_13 => absurd c_13 (by decide)) (fun _ => ?_)
  refine lv_aload_n hx hb dX10_putFour_7 rfl (lv_at hl 1 rfl) ?_
  refine va_get (D := D) (ci := 10) (v := .int 7) (C := RX10) (T := TX10) (N := 20) hx hb hg inGX10 hown hK hP 0 rfl rfl 1 (by decide) (hg _ q_2_104) (fun _ h9 => h9) (px_ss (px_ss (px_ss hx_1))) dX10_putFour_8 ?_
  refine lv_sipush (v := 940) hx hb dX10_putFour_11 (by decide) ?_
  refine lv_icmp_ge (tgt := 46) hx hb dX10_putFour_14 (by decide) (fun c_14 => absurd c_14 (by decide)) (fun _ => ?_)
  refine lv_aload_n hx hb dX10_putFour_17 rfl (lv_at hl 1 rfl) ?_
  refine va_get (D := D) (ci := 10) (v := .ref tp) (C := RX10) (T := TX10) (N := 20) hx hb hg inGX10 hown hK hP 0 rfl rfl 0 (by decide) (hg _ q_2_103) (fun _ h9 => h9) (px_sn (by decide) (px_sn (by decide) (px_sn (by decide) hx_0))) dX10_putFour_18 ?_
  refine lv_aload_n hx hb dX10_putFour_21 rfl (lv_at hl 1 rfl) ?_
  refine va_get (D := D) (ci := 10) (v := .int 7) (C := RX10) (T := TX10) (N := 20) hx hb hg inGX10 hown hK hP 0 rfl rfl 1 (by decide) (hg _ q_2_104) (fun _ h9 => h9) (px_ss (px_ss (px_ss hx_1))) dX10_putFour_22 ?_
  refine lv_iload_n hx hb dX10_putFour_25 rfl (lv_at hl 2 rfl) ?_
  refine lv_iload_n hx hb dX10_putFour_26 rfl (lv_at hl 0 rfl) ?_
  refine lv_iushr hx hb dX10_putFour_27 rfl ?_
  refine lv_i2b hx hb dX10_putFour_28 rfl ?_
  refine va_bast hx hb hK hP hD hS 1 0 rfl rfl (i := 7) (px_in (by decide)) dX10_putFour_29 (fun H_15 locs_15 hP_15 hD_15 hS_15 => ?_)
  clear hP hD hS
  have hP : va_P D vwCl [(x, .inr (10, (((fx.set 1 (.int 5)).set 1 (.int 6)).set 1 (.int 7)))), (tp, .inl (y 0, 940, .inl (upd (upd (upd (upd ftp 4 (vp_nar .byte ((Int32.toInt8 ((Int32.toUInt32 p0 >>> (Int32.toUInt32 24 &&& Int32.toUInt32 31)).toInt32)).toInt32))) 5 (vp_nar .byte ((Int32.toInt8 ((Int32.toUInt32 p0 >>> (Int32.toUInt32 16 &&& Int32.toUInt32 31)).toInt32)).toInt32))) 6 (vp_nar .byte ((Int32.toInt8 ((Int32.toUInt32 p0 >>> (Int32.toUInt32 8 &&& Int32.toUInt32 31)).toInt32)).toInt32))) 7 (vp_nar .byte ((Int32.toInt8 ((Int32.toUInt32 p0 >>> (Int32.toUInt32 0 &&& Int32.toUInt32 31)).toInt32)).toInt32)))))] H_15 := hP_15
  have hD : va_D A [(x, .inr (10, (((fx.set 1 (.int 5)).set 1 (.int 6)).set 1 (.int 7)))), (tp, .inl (y 0, 940, .inl (upd (upd (upd (upd ftp 4 (vp_nar .byte ((Int32.toInt8 ((Int32.toUInt32 p0 >>> (Int32.toUInt32 24 &&& Int32.toUInt32 31)).toInt32)).toInt32))) 5 (vp_nar .byte ((Int32.toInt8 ((Int32.toUInt32 p0 >>> (Int32.toUInt32 16 &&& Int32.toUInt32 31)).toInt32)).toInt32))) 6 (vp_nar .byte ((Int32.toInt8 ((Int32.toUInt32 p0 >>> (Int32.toUInt32 8 &&& Int32.toUInt32 31)).toInt32)).toInt32))) 7 (vp_nar .byte ((Int32.toInt8 ((Int32.toUInt32 p0 >>> (Int32.toUInt32 0 &&& Int32.toUInt32 31)).toInt32)).toInt32)))))] := hD_15
  have hS := hS_15
  clear hP_15 hD_15 hS_15
  refine lv_aload_n hx hb dX10_putFour_30 rfl (lv_at hl 1 rfl) ?_
  refine lv_dup hx hb dX10_putFour_31 rfl ?_
  refine va_get (D := D) (ci := 10) (v := .int 7) (C := RX10) (T := TX10) (N := 20) hx hb hg inGX10 hown hK hP 0 rfl rfl 1 (by decide) (hg _ q_2_104) (fun _ h9 => h9) (px_ss (px_ss (px_ss hx_1))) dX10_putFour_32 ?_
  refine lv_iconst (v := 1) hx hb dX10_putFour_35 (by decide) ?_
  refine lv_iadd hx hb dX10_putFour_36 ?_
  refine px_top (v := 8) (by decide) ?_
  refine va_put (D := D) (ci := 10) (v := .int 8) (ty := .int) (C := RX10) (T := TX10) (N := 20) hx hb hg inGX10 tyX10 tyX10_ok nmX10 hown hK hP hD hS 0 rfl rfl 1 (by decide) (hg _ q_2_104) (fun _ h9 => h9) rfl (by decide +kernel) rfl rfl (px_len (px_ss (px_ss (px_ss hx_1)))) dX10_putFour_37 (fun H_16 locs_16 hP_16 hD_16 hS_16 => ?_)
  clear hP hD hS
  have hP : va_P D vwCl [(x, .inr (10, ((((fx.set 1 (.int 5)).set 1 (.int 6)).set 1 (.int 7)).set 1 (.int 8)))), (tp, .inl (y 0, 940, .inl (upd (upd (upd (upd ftp 4 (vp_nar .byte ((Int32.toInt8 ((Int32.toUInt32 p0 >>> (Int32.toUInt32 24 &&& Int32.toUInt32 31)).toInt32)).toInt32))) 5 (vp_nar .byte ((Int32.toInt8 ((Int32.toUInt32 p0 >>> (Int32.toUInt32 16 &&& Int32.toUInt32 31)).toInt32)).toInt32))) 6 (vp_nar .byte ((Int32.toInt8 ((Int32.toUInt32 p0 >>> (Int32.toUInt32 8 &&& Int32.toUInt32 31)).toInt32)).toInt32))) 7 (vp_nar .byte ((Int32.toInt8 ((Int32.toUInt32 p0 >>> (Int32.toUInt32 0 &&& Int32.toUInt32 31)).toInt32)).toInt32)))))] H_16 := hP_16
  have hD : va_D A [(x, .inr (10, ((((fx.set 1 (.int 5)).set 1 (.int 6)).set 1 (.int 7)).set 1 (.int 8)))), (tp, .inl (y 0, 940, .inl (upd (upd (upd (upd ftp 4 (vp_nar .byte ((Int32.toInt8 ((Int32.toUInt32 p0 >>> (Int32.toUInt32 24 &&& Int32.toUInt32 31)).toInt32)).toInt32))) 5 (vp_nar .byte ((Int32.toInt8 ((Int32.toUInt32 p0 >>> (Int32.toUInt32 16 &&& Int32.toUInt32 31)).toInt32)).toInt32))) 6 (vp_nar .byte ((Int32.toInt8 ((Int32.toUInt32 p0 >>> (Int32.toUInt32 8 &&& Int32.toUInt32 31)).toInt32)).toInt32))) 7 (vp_nar .byte ((Int32.toInt8 ((Int32.toUInt32 p0 >>> (Int32.toUInt32 0 &&& Int32.toUInt32 31)).toInt32)).toInt32)))))] := hD_16
  have hS := hS_16
  clear hP_16 hD_16 hS_16
  refine lv_iinc (v := (-8)) (lv' := [(2, .int (-8)), (0, .ref x), (1, .int p0)]) hx hb dX10_putFour_40 hl (k := 0) rfl (by decide) (by decide) rfl (fun ls hl => ?_)
  refine lv_goto (tgt := 3) hx hb dX10_putFour_43 (by decide) ?_
  refine lv_iload_n hx hb dX10_putFour_3 rfl (lv_at hl 0 rfl) ?_
  refine lv_if_lt (tgt := 46) hx hb dX10_putFour_4 (by decide) (fun _ => ?_) (fun c_17 => absurd c_17 (by decide))
  have hP9 := hP.sub (ws' := [(x, .inr (10, ((((fx.set 1 (.int 5)).set 1 (.int 6)).set 1 (.int 7)).set 1 (.int 8)))), (tp, .inl (y 0, 940, .inl (upd (upd (upd (upd ftp 4 (vp_nar .byte ((Int32.toInt8 ((Int32.toUInt32 p0 >>> (Int32.toUInt32 24 &&& Int32.toUInt32 31)).toInt32)).toInt32))) 5 (vp_nar .byte ((Int32.toInt8 ((Int32.toUInt32 p0 >>> (Int32.toUInt32 16 &&& Int32.toUInt32 31)).toInt32)).toInt32))) 6 (vp_nar .byte ((Int32.toInt8 ((Int32.toUInt32 p0 >>> (Int32.toUInt32 8 &&& Int32.toUInt32 31)).toInt32)).toInt32))) 7 (vp_nar .byte ((Int32.toInt8 ((Int32.toUInt32 p0 >>> (Int32.toUInt32 0 &&& Int32.toUInt32 31)).toInt32)).toInt32)))))]) [0, 1] rfl
  have hD9 := hD.sub (ws' := [(x, .inr (10, ((((fx.set 1 (.int 5)).set 1 (.int 6)).set 1 (.int 7)).set 1 (.int 8)))), (tp, .inl (y 0, 940, .inl (upd (upd (upd (upd ftp 4 (vp_nar .byte ((Int32.toInt8 ((Int32.toUInt32 p0 >>> (Int32.toUInt32 24 &&& Int32.toUInt32 31)).toInt32)).toInt32))) 5 (vp_nar .byte ((Int32.toInt8 ((Int32.toUInt32 p0 >>> (Int32.toUInt32 16 &&& Int32.toUInt32 31)).toInt32)).toInt32))) 6 (vp_nar .byte ((Int32.toInt8 ((Int32.toUInt32 p0 >>> (Int32.toUInt32 8 &&& Int32.toUInt32 31)).toInt32)).toInt32))) 7 (vp_nar .byte ((Int32.toInt8 ((Int32.toUInt32 p0 >>> (Int32.toUInt32 0 &&& Int32.toUInt32 31)).toInt32)).toInt32)))))]) [0, 1] (by decide +kernel) rfl
  exact W.vret hx hb hr (fun t ht hW => ⟨⟨(px_v [], px_vi [(upd (upd (upd (upd ftp 4 (vp_nar .byte ((Int32.toInt8 ((Int32.toUInt32 p0 >>> (Int32.toUInt32 24 &&& Int32.toUInt32 31)).toInt32)).toInt32))) 5 (vp_nar .byte ((Int32.toInt8 ((Int32.toUInt32 p0 >>> (Int32.toUInt32 16 &&& Int32.toUInt32 31)).toInt32)).toInt32))) 6 (vp_nar .byte ((Int32.toInt8 ((Int32.toUInt32 p0 >>> (Int32.toUInt32 8 &&& Int32.toUInt32 31)).toInt32)).toInt32))) 7 (vp_nar .byte ((Int32.toInt8 ((Int32.toUInt32 p0 >>> (Int32.toUInt32 0 &&& Int32.toUInt32 31)).toInt32)).toInt32)))], px_vl []), rfl, trivial, by rw [ht]; exact hP9, hD9⟩, hS.F ht⟩) hS.2.2 dX10_putFour_46

set_option maxHeartbeats 4000000 in
set_option maxRecDepth 100000 in
theorem c_X10_putFour_8 (l : Launch) (D : va_G) (y : Nat → ClassId) (sz : Nat) (x : Nat) (fx : List Value) (tp : Nat) (ftp : Nat → Int32) (p0 : Int32) (hx_0 : fx[0]? = some (.ref tp)) (hx_1 : fx[1]? = some (.int 8)) : Met l yX10_putFour (px_w yX10_putFour cX10_putFour 3 none) ({ frames := 0, cells := 0, slots := 0, locals := 0 }) (va_Pc [.ref x, .int p0] (px_P D y sz [(x, .inr (10, fx)), (tp, .inl (y 0, 940, .inl ftp))])) (va_Qv (fun (u : px_U) => True) (fun (u : px_U) t => va_P D vwCl [(x, .inr (10, ((((fx.set 1 (.int 9)).set 1 (.int 10)).set 1 (.int 11)).set 1 (.int 12)))), (tp, .inl (y 0, 940, .inl (u.2.1 0)))] t.heap ∧ va_D (va_A [(x, .inr (10, fx)), (tp, .inl (y 0, 940, .inl ftp))] sz) [(x, .inr (10, ((((fx.set 1 (.int 9)).set 1 (.int 10)).set 1 (.int 11)).set 1 (.int 12)))), (tp, .inl (y 0, 940, .inl (u.2.1 0)))]) (va_A [(x, .inr (10, fx)), (tp, .inl (y 0, 940, .inl ftp))] sz)) 0 0 (va_A [(x, .inr (10, fx)), (tp, .inl (y 0, 940, .inl ftp))] sz) := by
  refine Met.ofW (cc := cX10_putFour) (maxL := 3) (ret := none) (by decide) rfl ?_
  intro p e s m args below meth c s₁ B hml hv
  obtain ⟨rfl, hsz, hP, hK, hD0⟩ := hv
  have hx := B.exec
  have hb := B.bytes
  have hr := B.returns
  have hts := atoms_spec (ws := px_w yX10_putFour cX10_putFour 3 none) B.pre
  have hg : ∀ w ∈ gw, w.before [.ref x, .int p0].toArray s = true := fun w h => hts w (List.mem_cons_of_mem _ h)
  have hown : s.vm.findClass RX10 = some m.cls := findClass_of_methodNamed B.named
  have hlocks := B.notSynchronized
  subst hsz
  have hD := hD0.self (sz := s.heap.size)
  generalize hAe : va_A [(x, .inr (10, fx)), (tp, .inl (y 0, 940, .inl ftp))] s.heap.size = A at hD ⊢
  have hA : ∀ q : Nat, s.heap.size ≤ q → A q := fun q h => by rw [← hAe]; exact Or.inr h
  have hS : va_S A s.heap s.heap [] := va_S.rf
  have hP : va_P D vwCl [(x, .inr (10, fx)), (tp, .inl (y 0, 940, .inl ftp))] s.heap := hP
  have hl := lv_entry ([.ref x, .int p0]) (n := 3) (Nat.le_of_ble_eq_true rfl)
  rw [lg_entry_eq]
  generalize (lg_sl ([.ref x, .int p0]) ++ List.replicate (3 - (lg_sl ([.ref x, .int p0])).length) Slot.unset).toArray = ls at hl ⊢
  have hl : lv_has ls 3 [(0, .ref x), (1, .int p0)] := hl
  refine lv_bipush (v := 24) hx hb dX10_putFour_0 (by decide) ?_
  refine lv_istore_n (lv' := [(2, .int 24), (0, .ref x), (1, .int p0)]) hx hb dX10_putFour_2 rfl hl (by decide) rfl (fun ls hl => ?_)
  refine lv_iload_n hx hb dX10_putFour_3 rfl (lv_at hl 0 rfl) ?_
  refine lv_if_lt (tgt := 46) hx hb dX10_putFour_4 (by decide) (fun c_1 => absurd c_1 (by decide)) (fun _ => ?_)
  refine lv_aload_n hx hb dX10_putFour_7 rfl (lv_at hl 1 rfl) ?_
  refine va_get (D := D) (ci := 10) (v := .int 8) (C := RX10) (T := TX10) (N := 20) hx hb hg inGX10 hown hK hP 0 rfl rfl 1 (by decide) (hg _ q_2_104) (fun _ h9 => h9) hx_1 dX10_putFour_8 ?_
  refine lv_sipush (v := 940) hx hb dX10_putFour_11 (by decide) ?_
  refine lv_icmp_ge (tgt := 46) hx hb dX10_putFour_14 (by decide) (fun c_2 => absurd c_2 (by decide)) (fun _ => ?_)
  refine lv_aload_n hx hb dX10_putFour_17 rfl (lv_at hl 1 rfl) ?_
  refine va_get (D := D) (ci := 10) (v := .ref tp) (C := RX10) (T := TX10) (N := 20) hx hb hg inGX10 hown hK hP 0 rfl rfl 0 (by decide) (hg _ q_2_103) (fun _ h9 => h9) hx_0 dX10_putFour_18 ?_
  refine lv_aload_n hx hb dX10_putFour_21 rfl (lv_at hl 1 rfl) ?_
  refine va_get (D := D) (ci := 10) (v := .int 8) (C := RX10) (T := TX10) (N := 20) hx hb hg inGX10 hown hK hP 0 rfl rfl 1 (by decide) (hg _ q_2_104) (fun _ h9 => h9) hx_1 dX10_putFour_22 ?_
  refine lv_iload_n hx hb dX10_putFour_25 rfl (lv_at hl 2 rfl) ?_
  refine lv_iload_n hx hb dX10_putFour_26 rfl (lv_at hl 0 rfl) ?_
  refine lv_iushr hx hb dX10_putFour_27 rfl ?_
  refine lv_i2b hx hb dX10_putFour_28 rfl ?_
  refine va_bast hx hb hK hP hD hS 1 0 rfl rfl (i := 8) (px_in (by decide)) dX10_putFour_29 (fun H_3 locs_3 hP_3 hD_3 hS_3 => ?_)
  clear hP hD hS
  have hP : va_P D vwCl [(x, .inr (10, fx)), (tp, .inl (y 0, 940, .inl (upd ftp 8 (vp_nar .byte ((Int32.toInt8 ((Int32.toUInt32 p0 >>> (Int32.toUInt32 24 &&& Int32.toUInt32 31)).toInt32)).toInt32)))))] H_3 := hP_3
  have hD : va_D A [(x, .inr (10, fx)), (tp, .inl (y 0, 940, .inl (upd ftp 8 (vp_nar .byte ((Int32.toInt8 ((Int32.toUInt32 p0 >>> (Int32.toUInt32 24 &&& Int32.toUInt32 31)).toInt32)).toInt32)))))] := hD_3
  have hS := hS_3
  clear hP_3 hD_3 hS_3
  refine lv_aload_n hx hb dX10_putFour_30 rfl (lv_at hl 1 rfl) ?_
  refine lv_dup hx hb dX10_putFour_31 rfl ?_
  refine va_get (D := D) (ci := 10) (v := .int 8) (C := RX10) (T := TX10) (N := 20) hx hb hg inGX10 hown hK hP 0 rfl rfl 1 (by decide) (hg _ q_2_104) (fun _ h9 => h9) hx_1 dX10_putFour_32 ?_
  refine lv_iconst (v := 1) hx hb dX10_putFour_35 (by decide) ?_
  refine lv_iadd hx hb dX10_putFour_36 ?_
  refine px_top (v := 9) (by decide) ?_
  refine va_put (D := D) (ci := 10) (v := .int 9) (ty := .int) (C := RX10) (T := TX10) (N := 20) hx hb hg inGX10 tyX10 tyX10_ok nmX10 hown hK hP hD hS 0 rfl rfl 1 (by decide) (hg _ q_2_104) (fun _ h9 => h9) rfl (by decide +kernel) rfl rfl (px_len hx_1) dX10_putFour_37 (fun H_4 locs_4 hP_4 hD_4 hS_4 => ?_)
  clear hP hD hS
  have hP : va_P D vwCl [(x, .inr (10, (fx.set 1 (.int 9)))), (tp, .inl (y 0, 940, .inl (upd ftp 8 (vp_nar .byte ((Int32.toInt8 ((Int32.toUInt32 p0 >>> (Int32.toUInt32 24 &&& Int32.toUInt32 31)).toInt32)).toInt32)))))] H_4 := hP_4
  have hD : va_D A [(x, .inr (10, (fx.set 1 (.int 9)))), (tp, .inl (y 0, 940, .inl (upd ftp 8 (vp_nar .byte ((Int32.toInt8 ((Int32.toUInt32 p0 >>> (Int32.toUInt32 24 &&& Int32.toUInt32 31)).toInt32)).toInt32)))))] := hD_4
  have hS := hS_4
  clear hP_4 hD_4 hS_4
  refine lv_iinc (v := 16) (lv' := [(2, .int 16), (0, .ref x), (1, .int p0)]) hx hb dX10_putFour_40 hl (k := 0) rfl (by decide) (by decide) rfl (fun ls hl => ?_)
  refine lv_goto (tgt := 3) hx hb dX10_putFour_43 (by decide) ?_
  refine lv_iload_n hx hb dX10_putFour_3 rfl (lv_at hl 0 rfl) ?_
  refine lv_if_lt (tgt := 46) hx hb dX10_putFour_4 (by decide) (fun c_5 => absurd c_5 (by decide)) (fun _ => ?_)
  refine lv_aload_n hx hb dX10_putFour_7 rfl (lv_at hl 1 rfl) ?_
  refine va_get (D := D) (ci := 10) (v := .int 9) (C := RX10) (T := TX10) (N := 20) hx hb hg inGX10 hown hK hP 0 rfl rfl 1 (by decide) (hg _ q_2_104) (fun _ h9 => h9) (px_ss hx_1) dX10_putFour_8 ?_
  refine lv_sipush (v := 940) hx hb dX10_putFour_11 (by decide) ?_
  refine lv_icmp_ge (tgt := 46) hx hb dX10_putFour_14 (by decide) (fun c_6 => absurd c_6 (by decide)) (fun _ => ?_)
  refine lv_aload_n hx hb dX10_putFour_17 rfl (lv_at hl 1 rfl) ?_
  refine va_get (D := D) (ci := 10) (v := .ref tp) (C := RX10) (T := TX10) (N := 20) hx hb hg inGX10 hown hK hP 0 rfl rfl 0 (by decide) (hg _ q_2_103) (fun _ h9 => h9) (px_sn (by decide) hx_0) dX10_putFour_18 ?_
  refine lv_aload_n hx hb dX10_putFour_21 rfl (lv_at hl 1 rfl) ?_
  refine va_get (D := D) (ci := 10) (v := .int 9) (C := RX10) (T := TX10) (N := 20) hx hb hg inGX10 hown hK hP 0 rfl rfl 1 (by decide) (hg _ q_2_104) (fun _ h9 => h9) (px_ss hx_1) dX10_putFour_22 ?_
  refine lv_iload_n hx hb dX10_putFour_25 rfl (lv_at hl 2 rfl) ?_
  refine lv_iload_n hx hb dX10_putFour_26 rfl (lv_at hl 0 rfl) ?_
  refine lv_iushr hx hb dX10_putFour_27 rfl ?_
  refine lv_i2b hx hb dX10_putFour_28 rfl ?_
  refine va_bast hx hb hK hP hD hS 1 0 rfl rfl (i := 9) (px_in (by decide)) dX10_putFour_29 (fun H_7 locs_7 hP_7 hD_7 hS_7 => ?_)
  clear hP hD hS
  have hP : va_P D vwCl [(x, .inr (10, (fx.set 1 (.int 9)))), (tp, .inl (y 0, 940, .inl (upd (upd ftp 8 (vp_nar .byte ((Int32.toInt8 ((Int32.toUInt32 p0 >>> (Int32.toUInt32 24 &&& Int32.toUInt32 31)).toInt32)).toInt32))) 9 (vp_nar .byte ((Int32.toInt8 ((Int32.toUInt32 p0 >>> (Int32.toUInt32 16 &&& Int32.toUInt32 31)).toInt32)).toInt32)))))] H_7 := hP_7
  have hD : va_D A [(x, .inr (10, (fx.set 1 (.int 9)))), (tp, .inl (y 0, 940, .inl (upd (upd ftp 8 (vp_nar .byte ((Int32.toInt8 ((Int32.toUInt32 p0 >>> (Int32.toUInt32 24 &&& Int32.toUInt32 31)).toInt32)).toInt32))) 9 (vp_nar .byte ((Int32.toInt8 ((Int32.toUInt32 p0 >>> (Int32.toUInt32 16 &&& Int32.toUInt32 31)).toInt32)).toInt32)))))] := hD_7
  have hS := hS_7
  clear hP_7 hD_7 hS_7
  refine lv_aload_n hx hb dX10_putFour_30 rfl (lv_at hl 1 rfl) ?_
  refine lv_dup hx hb dX10_putFour_31 rfl ?_
  refine va_get (D := D) (ci := 10) (v := .int 9) (C := RX10) (T := TX10) (N := 20) hx hb hg inGX10 hown hK hP 0 rfl rfl 1 (by decide) (hg _ q_2_104) (fun _ h9 => h9) (px_ss hx_1) dX10_putFour_32 ?_
  refine lv_iconst (v := 1) hx hb dX10_putFour_35 (by decide) ?_
  refine lv_iadd hx hb dX10_putFour_36 ?_
  refine px_top (v := 10) (by decide) ?_
  refine va_put (D := D) (ci := 10) (v := .int 10) (ty := .int) (C := RX10) (T := TX10) (N := 20) hx hb hg inGX10 tyX10 tyX10_ok nmX10 hown hK hP hD hS 0 rfl rfl 1 (by decide) (hg _ q_2_104) (fun _ h9 => h9) rfl (by decide +kernel) rfl rfl (px_len (px_ss hx_1)) dX10_putFour_37 (fun H_8 locs_8 hP_8 hD_8 hS_8 => ?_)
  clear hP hD hS
  have hP : va_P D vwCl [(x, .inr (10, ((fx.set 1 (.int 9)).set 1 (.int 10)))), (tp, .inl (y 0, 940, .inl (upd (upd ftp 8 (vp_nar .byte ((Int32.toInt8 ((Int32.toUInt32 p0 >>> (Int32.toUInt32 24 &&& Int32.toUInt32 31)).toInt32)).toInt32))) 9 (vp_nar .byte ((Int32.toInt8 ((Int32.toUInt32 p0 >>> (Int32.toUInt32 16 &&& Int32.toUInt32 31)).toInt32)).toInt32)))))] H_8 := hP_8
  have hD : va_D A [(x, .inr (10, ((fx.set 1 (.int 9)).set 1 (.int 10)))), (tp, .inl (y 0, 940, .inl (upd (upd ftp 8 (vp_nar .byte ((Int32.toInt8 ((Int32.toUInt32 p0 >>> (Int32.toUInt32 24 &&& Int32.toUInt32 31)).toInt32)).toInt32))) 9 (vp_nar .byte ((Int32.toInt8 ((Int32.toUInt32 p0 >>> (Int32.toUInt32 16 &&& Int32.toUInt32 31)).toInt32)).toInt32)))))] := hD_8
  have hS := hS_8
  clear hP_8 hD_8 hS_8
  refine lv_iinc (v := 8) (lv' := [(2, .int 8), (0, .ref x), (1, .int p0)]) hx hb dX10_putFour_40 hl (k := 0) rfl (by decide) (by decide) rfl (fun ls hl => ?_)
  refine lv_goto (tgt := 3) hx hb dX10_putFour_43 (by decide) ?_
  refine lv_iload_n hx hb dX10_putFour_3 rfl (lv_at hl 0 rfl) ?_
  refine lv_if_lt (tgt := 46) hx hb dX10_putFour_4 (by decide) (fun c_9 => absurd c_9 (by decide)) (fun _ => ?_)
  refine lv_aload_n hx hb dX10_putFour_7 rfl (lv_at hl 1 rfl) ?_
  refine va_get (D := D) (ci := 10) (v := .int 10) (C := RX10) (T := TX10) (N := 20) hx hb hg inGX10 hown hK hP 0 rfl rfl 1 (by decide) (hg _ q_2_104) (fun _ h9 => h9) (px_ss (px_ss hx_1)) dX10_putFour_8 ?_
  refine lv_sipush (v := 940) hx hb dX10_putFour_11 (by decide) ?_
  refine lv_icmp_ge (tgt := 46) hx hb dX10_putFour_14 (by decide) (fun c_10 => absurd c_10 (by decide)) (fun _ => ?_)
  refine lv_aload_n hx hb dX10_putFour_17 rfl (lv_at hl 1 rfl) ?_
  refine va_get (D := D) (ci := 10) (v := .ref tp) (C := RX10) (T := TX10) (N := 20) hx hb hg inGX10 hown hK hP 0 rfl rfl 0 (by decide) (hg _ q_2_103) (fun _ h9 => h9) (px_sn (by decide) (px_sn (by decide) hx_0)) dX10_putFour_18 ?_
  refine lv_aload_n hx hb dX10_putFour_21 rfl (lv_at hl 1 rfl) ?_
  refine va_get (D := D) (ci := 10) (v := .int 10) (C := RX10) (T := TX10) (N := 20) hx hb hg inGX10 hown hK hP 0 rfl rfl 1 (by decide) (hg _ q_2_104) (fun _ h9 => h9) (px_ss (px_ss hx_1)) dX10_putFour_22 ?_
  refine lv_iload_n hx hb dX10_putFour_25 rfl (lv_at hl 2 rfl) ?_
  refine lv_iload_n hx hb dX10_putFour_26 rfl (lv_at hl 0 rfl) ?_
  refine lv_iushr hx hb dX10_putFour_27 rfl ?_
  refine lv_i2b hx hb dX10_putFour_28 rfl ?_
  refine va_bast hx hb hK hP hD hS 1 0 rfl rfl (i := 10) (px_in (by decide)) dX10_putFour_29 (fun H_11 locs_11 hP_11 hD_11 hS_11 => ?_)
  clear hP hD hS
  have hP : va_P D vwCl [(x, .inr (10, ((fx.set 1 (.int 9)).set 1 (.int 10)))), (tp, .inl (y 0, 940, .inl (upd (upd (upd ftp 8 (vp_nar .byte ((Int32.toInt8 ((Int32.toUInt32 p0 >>> (Int32.toUInt32 24 &&& Int32.toUInt32 31)).toInt32)).toInt32))) 9 (vp_nar .byte ((Int32.toInt8 ((Int32.toUInt32 p0 >>> (Int32.toUInt32 16 &&& Int32.toUInt32 31)).toInt32)).toInt32))) 10 (vp_nar .byte ((Int32.toInt8 ((Int32.toUInt32 p0 >>> (Int32.toUInt32 8 &&& Int32.toUInt32 31)).toInt32)).toInt32)))))] H_11 := hP_11
  have hD : va_D A [(x, .inr (10, ((fx.set 1 (.int 9)).set 1 (.int 10)))), (tp, .inl (y 0, 940, .inl (upd (upd (upd ftp 8 (vp_nar .byte ((Int32.toInt8 ((Int32.toUInt32 p0 >>> (Int32.toUInt32 24 &&& Int32.toUInt32 31)).toInt32)).toInt32))) 9 (vp_nar .byte ((Int32.toInt8 ((Int32.toUInt32 p0 >>> (Int32.toUInt32 16 &&& Int32.toUInt32 31)).toInt32)).toInt32))) 10 (vp_nar .byte ((Int32.toInt8 ((Int32.toUInt32 p0 >>> (Int32.toUInt32 8 &&& Int32.toUInt32 31)).toInt32)).toInt32)))))] := hD_11
  have hS := hS_11
  clear hP_11 hD_11 hS_11
  refine lv_aload_n hx hb dX10_putFour_30 rfl (lv_at hl 1 rfl) ?_
  refine lv_dup hx hb dX10_putFour_31 rfl ?_
  refine va_get (D := D) (ci := 10) (v := .int 10) (C := RX10) (T := TX10) (N := 20) hx hb hg inGX10 hown hK hP 0 rfl rfl 1 (by decide) (hg _ q_2_104) (fun _ h9 => h9) (px_ss (px_ss hx_1)) dX10_putFour_32 ?_
  refine lv_iconst (v := 1) hx hb dX10_putFour_35 (by decide) ?_
  refine lv_iadd hx hb dX10_putFour_36 ?_
  refine px_top (v := 11) (by decide) ?_
  refine va_put (D := D) (ci := 10) (v := .int 11) (ty := .int) (C := RX10) (T := TX10) (N := 20) hx hb hg inGX10 tyX10 tyX10_ok nmX10 hown hK hP hD hS 0 rfl rfl 1 (by decide) (hg _ q_2_104) (fun _ h9 => h9) rfl (by decide +kernel) rfl rfl (px_len (px_ss (px_ss hx_1))) dX10_putFour_37 (fun H_12 locs_12 hP_12 hD_12 hS_12 => ?_)
  clear hP hD hS
  have hP : va_P D vwCl [(x, .inr (10, (((fx.set 1 (.int 9)).set 1 (.int 10)).set 1 (.int 11)))), (tp, .inl (y 0, 940, .inl (upd (upd (upd ftp 8 (vp_nar .byte ((Int32.toInt8 ((Int32.toUInt32 p0 >>> (Int32.toUInt32 24 &&& Int32.toUInt32 31)).toInt32)).toInt32))) 9 (vp_nar .byte ((Int32.toInt8 ((Int32.toUInt32 p0 >>> (Int32.toUInt32 16 &&& Int32.toUInt32 31)).toInt32)).toInt32))) 10 (vp_nar .byte ((Int32.toInt8 ((Int32.toUInt32 p0 >>> (Int32.toUInt32 8 &&& Int32.toUInt32 31)).toInt32)).toInt32)))))] H_12 := hP_12
  have hD : va_D A [(x, .inr (10, (((fx.set 1 (.int 9)).set 1 (.int 10)).set 1 (.int 11)))), (tp, .inl (y 0, 940, .inl (upd (upd (upd ftp 8 (vp_nar .byte ((Int32.toInt8 ((Int32.toUInt32 p0 >>> (Int32.toUInt32 24 &&& Int32.toUInt32 31)).toInt32)).toInt32))) 9 (vp_nar .byte ((Int32.toInt8 ((Int32.toUInt32 p0 >>> (Int32.toUInt32 16 &&& Int32.toUInt32 31)).toInt32)).toInt32))) 10 (vp_nar .byte ((Int32.toInt8 ((Int32.toUInt32 p0 >>> (Int32.toUInt32 8 &&& Int32.toUInt32 31)).toInt32)).toInt32)))))] := hD_12
  have hS := hS_12
  clear hP_12 hD_12 hS_12
  refine lv_iinc (v := 0) (lv' := [(2, .int 0), (0, .ref x), (1, .int p0)]) hx hb dX10_putFour_40 hl (k := 0) rfl (by decide) (by decide) rfl (fun ls hl => ?_)
  refine lv_goto (tgt := 3) hx hb dX10_putFour_43 (by decide) ?_
  refine lv_iload_n hx hb dX10_putFour_3 rfl (lv_at hl 0 rfl) ?_
  refine lv_if_lt (tgt := 46) hx hb dX10_putFour_4 (by decide) (fun c_13 => absurd c_13 (by decide)) (fun _ => ?_)
  refine lv_aload_n hx hb dX10_putFour_7 rfl (lv_at hl 1 rfl) ?_
  refine va_get (D := D) (ci := 10) (v := .int 11) (C := RX10) (T := TX10) (N := 20) hx hb hg inGX10 hown hK hP 0 rfl rfl 1 (by decide) (hg _ q_2_104) (fun _ h9 => h9) (px_ss (px_ss (px_ss hx_1))) dX10_putFour_8 ?_
  refine lv_sipush (v := 940) hx hb dX10_putFour_11 (by decide) ?_
  refine lv_icmp_ge (tgt := 46) hx hb dX10_putFour_14 (by decide) (fun c_14 => absurd c_14 (by decide)) (fun _ => ?_)
  refine lv_aload_n hx hb dX10_putFour_17 rfl (lv_at hl 1 rfl) ?_
  refine va_get (D := D) (ci := 10) (v := .ref tp) (C := RX10) (T := TX10) (N := 20) hx hb hg inGX10 hown hK hP 0 rfl rfl 0 (by decide) (hg _ q_2_103) (fun _ h9 => h9) (px_sn (by decide) (px_sn (by decide) (px_sn (by decide) hx_0))) dX10_putFour_18 ?_
  refine lv_aload_n hx hb dX10_putFour_21 rfl (lv_at hl 1 rfl) ?_
  refine va_get (D := D) (ci := 10) (v := .int 11) (C := RX10) (T := TX10) (N := 20) hx hb hg inGX10 hown hK hP 0 rfl rfl 1 (by decide) (hg _ q_2_104) (fun _ h9 => h9) (px_ss (px_ss (px_ss hx_1))) dX10_putFour_22 ?_
  refine lv_iload_n hx hb dX10_putFour_25 rfl (lv_at hl 2 rfl) ?_
  refine lv_iload_n hx hb dX10_putFour_26 rfl (lv_at hl 0 rfl) ?_
  refine lv_iushr hx hb dX10_putFour_27 rfl ?_
  refine lv_i2b hx hb dX10_putFour_28 rfl ?_
  refine va_bast hx hb hK hP hD hS 1 0 rfl rfl (i := 11) (px_in (by decide)) dX10_putFour_29 (fun H_15 locs_15 hP_15 hD_15 hS_15 => ?_)
  clear hP hD hS
  have hP : va_P D vwCl [(x, .inr (10, (((fx.set 1 (.int 9)).set 1 (.int 10)).set 1 (.int 11)))), (tp, .inl (y 0, 940, .inl (upd (upd (upd (upd ftp 8 (vp_nar .byte ((Int32.toInt8 ((Int32.toUInt32 p0 >>> (Int32.toUInt32 24 &&& Int32.toUInt32 31)).toInt32)).toInt32))) 9 (vp_nar .byte ((Int32.toInt8 ((Int32.toUInt32 p0 >>> (Int32.toUInt32 16 &&& Int32.toUInt32 31)).toInt32)).toInt32))) 10 (vp_nar .byte ((Int32.toInt8 ((Int32.toUInt32 p0 >>> (Int32.toUInt32 8 &&& Int32.toUInt32 31)).toInt32)).toInt32))) 11 (vp_nar .byte ((Int32.toInt8 ((Int32.toUInt32 p0 >>> (Int32.toUInt32 0 &&& Int32.toUInt32 31)).toInt32)).toInt32)))))] H_15 := hP_15
  have hD : va_D A [(x, .inr (10, (((fx.set 1 (.int 9)).set 1 (.int 10)).set 1 (.int 11)))), (tp, .inl (y 0, 940, .inl (upd (upd (upd (upd ftp 8 (vp_nar .byte ((Int32.toInt8 ((Int32.toUInt32 p0 >>> (Int32.toUInt32 24 &&& Int32.toUInt32 31)).toInt32)).toInt32))) 9 (vp_nar .byte ((Int32.toInt8 ((Int32.toUInt32 p0 >>> (Int32.toUInt32 16 &&& Int32.toUInt32 31)).toInt32)).toInt32))) 10 (vp_nar .byte ((Int32.toInt8 ((Int32.toUInt32 p0 >>> (Int32.toUInt32 8 &&& Int32.toUInt32 31)).toInt32)).toInt32))) 11 (vp_nar .byte ((Int32.toInt8 ((Int32.toUInt32 p0 >>> (Int32.toUInt32 0 &&& Int32.toUInt32 31)).toInt32)).toInt32)))))] := hD_15
  have hS := hS_15
  clear hP_15 hD_15 hS_15
  refine lv_aload_n hx hb dX10_putFour_30 rfl (lv_at hl 1 rfl) ?_
  refine lv_dup hx hb dX10_putFour_31 rfl ?_
  refine va_get (D := D) (ci := 10) (v := .int 11) (C := RX10) (T := TX10) (N := 20) hx hb hg inGX10 hown hK hP 0 rfl rfl 1 (by decide) (hg _ q_2_104) (fun _ h9 => h9) (px_ss (px_ss (px_ss hx_1))) dX10_putFour_32 ?_
  refine lv_iconst (v := 1) hx hb dX10_putFour_35 (by decide) ?_
  refine lv_iadd hx hb dX10_putFour_36 ?_
  refine px_top (v := 12) (by decide) ?_
  refine va_put (D := D) (ci := 10) (v := .int 12) (ty := .int) (C := RX10) (T := TX10) (N := 20) hx hb hg inGX10 tyX10 tyX10_ok nmX10 hown hK hP hD hS 0 rfl rfl 1 (by decide) (hg _ q_2_104) (fun _ h9 => h9) rfl (by decide +kernel) rfl rfl (px_len (px_ss (px_ss (px_ss hx_1)))) dX10_putFour_37 (fun H_16 locs_16 hP_16 hD_16 hS_16 => ?_)
  clear hP hD hS
  have hP : va_P D vwCl [(x, .inr (10, ((((fx.set 1 (.int 9)).set 1 (.int 10)).set 1 (.int 11)).set 1 (.int 12)))), (tp, .inl (y 0, 940, .inl (upd (upd (upd (upd ftp 8 (vp_nar .byte ((Int32.toInt8 ((Int32.toUInt32 p0 >>> (Int32.toUInt32 24 &&& Int32.toUInt32 31)).toInt32)).toInt32))) 9 (vp_nar .byte ((Int32.toInt8 ((Int32.toUInt32 p0 >>> (Int32.toUInt32 16 &&& Int32.toUInt32 31)).toInt32)).toInt32))) 10 (vp_nar .byte ((Int32.toInt8 ((Int32.toUInt32 p0 >>> (Int32.toUInt32 8 &&& Int32.toUInt32 31)).toInt32)).toInt32))) 11 (vp_nar .byte ((Int32.toInt8 ((Int32.toUInt32 p0 >>> (Int32.toUInt32 0 &&& Int32.toUInt32 31)).toInt32)).toInt32)))))] H_16 := hP_16
  have hD : va_D A [(x, .inr (10, ((((fx.set 1 (.int 9)).set 1 (.int 10)).set 1 (.int 11)).set 1 (.int 12)))), (tp, .inl (y 0, 940, .inl (upd (upd (upd (upd ftp 8 (vp_nar .byte ((Int32.toInt8 ((Int32.toUInt32 p0 >>> (Int32.toUInt32 24 &&& Int32.toUInt32 31)).toInt32)).toInt32))) 9 (vp_nar .byte ((Int32.toInt8 ((Int32.toUInt32 p0 >>> (Int32.toUInt32 16 &&& Int32.toUInt32 31)).toInt32)).toInt32))) 10 (vp_nar .byte ((Int32.toInt8 ((Int32.toUInt32 p0 >>> (Int32.toUInt32 8 &&& Int32.toUInt32 31)).toInt32)).toInt32))) 11 (vp_nar .byte ((Int32.toInt8 ((Int32.toUInt32 p0 >>> (Int32.toUInt32 0 &&& Int32.toUInt32 31)).toInt32)).toInt32)))))] := hD_16
  have hS := hS_16
  clear hP_16 hD_16 hS_16
  refine lv_iinc (v := (-8)) (lv' := [(2, .int (-8)), (0, .ref x), (1, .int p0)]) hx hb dX10_putFour_40 hl (k := 0) rfl (by decide) (by decide) rfl (fun ls hl => ?_)
  refine lv_goto (tgt := 3) hx hb dX10_putFour_43 (by decide) ?_
  refine lv_iload_n hx hb dX10_putFour_3 rfl (lv_at hl 0 rfl) ?_
  refine lv_if_lt (tgt := 46) hx hb dX10_putFour_4 (by decide) (fun _ => ?_) (fun c_17 => absurd c_17 (by decide))
  have hP9 := hP.sub (ws' := [(x, .inr (10, ((((fx.set 1 (.int 9)).set 1 (.int 10)).set 1 (.int 11)).set 1 (.int 12)))), (tp, .inl (y 0, 940, .inl (upd (upd (upd (upd ftp 8 (vp_nar .byte ((Int32.toInt8 ((Int32.toUInt32 p0 >>> (Int32.toUInt32 24 &&& Int32.toUInt32 31)).toInt32)).toInt32))) 9 (vp_nar .byte ((Int32.toInt8 ((Int32.toUInt32 p0 >>> (Int32.toUInt32 16 &&& Int32.toUInt32 31)).toInt32)).toInt32))) 10 (vp_nar .byte ((Int32.toInt8 ((Int32.toUInt32 p0 >>> (Int32.toUInt32 8 &&& Int32.toUInt32 31)).toInt32)).toInt32))) 11 (vp_nar .byte ((Int32.toInt8 ((Int32.toUInt32 p0 >>> (Int32.toUInt32 0 &&& Int32.toUInt32 31)).toInt32)).toInt32)))))]) [0, 1] rfl
  have hD9 := hD.sub (ws' := [(x, .inr (10, ((((fx.set 1 (.int 9)).set 1 (.int 10)).set 1 (.int 11)).set 1 (.int 12)))), (tp, .inl (y 0, 940, .inl (upd (upd (upd (upd ftp 8 (vp_nar .byte ((Int32.toInt8 ((Int32.toUInt32 p0 >>> (Int32.toUInt32 24 &&& Int32.toUInt32 31)).toInt32)).toInt32))) 9 (vp_nar .byte ((Int32.toInt8 ((Int32.toUInt32 p0 >>> (Int32.toUInt32 16 &&& Int32.toUInt32 31)).toInt32)).toInt32))) 10 (vp_nar .byte ((Int32.toInt8 ((Int32.toUInt32 p0 >>> (Int32.toUInt32 8 &&& Int32.toUInt32 31)).toInt32)).toInt32))) 11 (vp_nar .byte ((Int32.toInt8 ((Int32.toUInt32 p0 >>> (Int32.toUInt32 0 &&& Int32.toUInt32 31)).toInt32)).toInt32)))))]) [0, 1] (by decide +kernel) rfl
  exact W.vret hx hb hr (fun t ht hW => ⟨⟨(px_v [], px_vi [(upd (upd (upd (upd ftp 8 (vp_nar .byte ((Int32.toInt8 ((Int32.toUInt32 p0 >>> (Int32.toUInt32 24 &&& Int32.toUInt32 31)).toInt32)).toInt32))) 9 (vp_nar .byte ((Int32.toInt8 ((Int32.toUInt32 p0 >>> (Int32.toUInt32 16 &&& Int32.toUInt32 31)).toInt32)).toInt32))) 10 (vp_nar .byte ((Int32.toInt8 ((Int32.toUInt32 p0 >>> (Int32.toUInt32 8 &&& Int32.toUInt32 31)).toInt32)).toInt32))) 11 (vp_nar .byte ((Int32.toInt8 ((Int32.toUInt32 p0 >>> (Int32.toUInt32 0 &&& Int32.toUInt32 31)).toInt32)).toInt32)))], px_vl []), rfl, trivial, by rw [ht]; exact hP9, hD9⟩, hS.F ht⟩) hS.2.2 dX10_putFour_46

set_option maxHeartbeats 4000000 in
set_option maxRecDepth 100000 in
theorem c_X10_putFour_12 (l : Launch) (D : va_G) (y : Nat → ClassId) (sz : Nat) (x : Nat) (fx : List Value) (tp : Nat) (ftp : Nat → Int32) (p0 : Int32) (hx_0 : fx[0]? = some (.ref tp)) (hx_1 : fx[1]? = some (.int 12)) : Met l yX10_putFour (px_w yX10_putFour cX10_putFour 3 none) ({ frames := 0, cells := 0, slots := 0, locals := 0 }) (va_Pc [.ref x, .int p0] (px_P D y sz [(x, .inr (10, fx)), (tp, .inl (y 0, 940, .inl ftp))])) (va_Qv (fun (u : px_U) => True) (fun (u : px_U) t => va_P D vwCl [(x, .inr (10, ((((fx.set 1 (.int 13)).set 1 (.int 14)).set 1 (.int 15)).set 1 (.int 16)))), (tp, .inl (y 0, 940, .inl (u.2.1 0)))] t.heap ∧ va_D (va_A [(x, .inr (10, fx)), (tp, .inl (y 0, 940, .inl ftp))] sz) [(x, .inr (10, ((((fx.set 1 (.int 13)).set 1 (.int 14)).set 1 (.int 15)).set 1 (.int 16)))), (tp, .inl (y 0, 940, .inl (u.2.1 0)))]) (va_A [(x, .inr (10, fx)), (tp, .inl (y 0, 940, .inl ftp))] sz)) 0 0 (va_A [(x, .inr (10, fx)), (tp, .inl (y 0, 940, .inl ftp))] sz) := by
  refine Met.ofW (cc := cX10_putFour) (maxL := 3) (ret := none) (by decide) rfl ?_
  intro p e s m args below meth c s₁ B hml hv
  obtain ⟨rfl, hsz, hP, hK, hD0⟩ := hv
  have hx := B.exec
  have hb := B.bytes
  have hr := B.returns
  have hts := atoms_spec (ws := px_w yX10_putFour cX10_putFour 3 none) B.pre
  have hg : ∀ w ∈ gw, w.before [.ref x, .int p0].toArray s = true := fun w h => hts w (List.mem_cons_of_mem _ h)
  have hown : s.vm.findClass RX10 = some m.cls := findClass_of_methodNamed B.named
  have hlocks := B.notSynchronized
  subst hsz
  have hD := hD0.self (sz := s.heap.size)
  generalize hAe : va_A [(x, .inr (10, fx)), (tp, .inl (y 0, 940, .inl ftp))] s.heap.size = A at hD ⊢
  have hA : ∀ q : Nat, s.heap.size ≤ q → A q := fun q h => by rw [← hAe]; exact Or.inr h
  have hS : va_S A s.heap s.heap [] := va_S.rf
  have hP : va_P D vwCl [(x, .inr (10, fx)), (tp, .inl (y 0, 940, .inl ftp))] s.heap := hP
  have hl := lv_entry ([.ref x, .int p0]) (n := 3) (Nat.le_of_ble_eq_true rfl)
  rw [lg_entry_eq]
  generalize (lg_sl ([.ref x, .int p0]) ++ List.replicate (3 - (lg_sl ([.ref x, .int p0])).length) Slot.unset).toArray = ls at hl ⊢
  have hl : lv_has ls 3 [(0, .ref x), (1, .int p0)] := hl
  refine lv_bipush (v := 24) hx hb dX10_putFour_0 (by decide) ?_
  refine lv_istore_n (lv' := [(2, .int 24), (0, .ref x), (1, .int p0)]) hx hb dX10_putFour_2 rfl hl (by decide) rfl (fun ls hl => ?_)
  refine lv_iload_n hx hb dX10_putFour_3 rfl (lv_at hl 0 rfl) ?_
  refine lv_if_lt (tgt := 46) hx hb dX10_putFour_4 (by decide) (fun c_1 => absurd c_1 (by decide)) (fun _ => ?_)
  refine lv_aload_n hx hb dX10_putFour_7 rfl (lv_at hl 1 rfl) ?_
  refine va_get (D := D) (ci := 10) (v := .int 12) (C := RX10) (T := TX10) (N := 20) hx hb hg inGX10 hown hK hP 0 rfl rfl 1 (by decide) (hg _ q_2_104) (fun _ h9 => h9) hx_1 dX10_putFour_8 ?_
  refine lv_sipush (v := 940) hx hb dX10_putFour_11 (by decide) ?_
  refine lv_icmp_ge (tgt := 46) hx hb dX10_putFour_14 (by decide) (fun c_2 => absurd c_2 (by decide)) (fun _ => ?_)
  refine lv_aload_n hx hb dX10_putFour_17 rfl (lv_at hl 1 rfl) ?_
  refine va_get (D := D) (ci := 10) (v := .ref tp) (C := RX10) (T := TX10) (N := 20) hx hb hg inGX10 hown hK hP 0 rfl rfl 0 (by decide) (hg _ q_2_103) (fun _ h9 => h9) hx_0 dX10_putFour_18 ?_
  refine lv_aload_n hx hb dX10_putFour_21 rfl (lv_at hl 1 rfl) ?_
  refine va_get (D := D) (ci := 10) (v := .int 12) (C := RX10) (T := TX10) (N := 20) hx hb hg inGX10 hown hK hP 0 rfl rfl 1 (by decide) (hg _ q_2_104) (fun _ h9 => h9) hx_1 dX10_putFour_22 ?_
  refine lv_iload_n hx hb dX10_putFour_25 rfl (lv_at hl 2 rfl) ?_
  refine lv_iload_n hx hb dX10_putFour_26 rfl (lv_at hl 0 rfl) ?_
  refine lv_iushr hx hb dX10_putFour_27 rfl ?_
  refine lv_i2b hx hb dX10_putFour_28 rfl ?_
  refine va_bast hx hb hK hP hD hS 1 0 rfl rfl (i := 12) (px_in (by decide)) dX10_putFour_29 (fun H_3 locs_3 hP_3 hD_3 hS_3 => ?_)
  clear hP hD hS
  have hP : va_P D vwCl [(x, .inr (10, fx)), (tp, .inl (y 0, 940, .inl (upd ftp 12 (vp_nar .byte ((Int32.toInt8 ((Int32.toUInt32 p0 >>> (Int32.toUInt32 24 &&& Int32.toUInt32 31)).toInt32)).toInt32)))))] H_3 := hP_3
  have hD : va_D A [(x, .inr (10, fx)), (tp, .inl (y 0, 940, .inl (upd ftp 12 (vp_nar .byte ((Int32.toInt8 ((Int32.toUInt32 p0 >>> (Int32.toUInt32 24 &&& Int32.toUInt32 31)).toInt32)).toInt32)))))] := hD_3
  have hS := hS_3
  clear hP_3 hD_3 hS_3
  refine lv_aload_n hx hb dX10_putFour_30 rfl (lv_at hl 1 rfl) ?_
  refine lv_dup hx hb dX10_putFour_31 rfl ?_
  refine va_get (D := D) (ci := 10) (v := .int 12) (C := RX10) (T := TX10) (N := 20) hx hb hg inGX10 hown hK hP 0 rfl rfl 1 (by decide) (hg _ q_2_104) (fun _ h9 => h9) hx_1 dX10_putFour_32 ?_
  refine lv_iconst (v := 1) hx hb dX10_putFour_35 (by decide) ?_
  refine lv_iadd hx hb dX10_putFour_36 ?_
  refine px_top (v := 13) (by decide) ?_
  refine va_put (D := D) (ci := 10) (v := .int 13) (ty := .int) (C := RX10) (T := TX10) (N := 20) hx hb hg inGX10 tyX10 tyX10_ok nmX10 hown hK hP hD hS 0 rfl rfl 1 (by decide) (hg _ q_2_104) (fun _ h9 => h9) rfl (by decide +kernel) rfl rfl (px_len hx_1) dX10_putFour_37 (fun H_4 locs_4 hP_4 hD_4 hS_4 => ?_)
  clear hP hD hS
  have hP : va_P D vwCl [(x, .inr (10, (fx.set 1 (.int 13)))), (tp, .inl (y 0, 940, .inl (upd ftp 12 (vp_nar .byte ((Int32.toInt8 ((Int32.toUInt32 p0 >>> (Int32.toUInt32 24 &&& Int32.toUInt32 31)).toInt32)).toInt32)))))] H_4 := hP_4
  have hD : va_D A [(x, .inr (10, (fx.set 1 (.int 13)))), (tp, .inl (y 0, 940, .inl (upd ftp 12 (vp_nar .byte ((Int32.toInt8 ((Int32.toUInt32 p0 >>> (Int32.toUInt32 24 &&& Int32.toUInt32 31)).toInt32)).toInt32)))))] := hD_4
  have hS := hS_4
  clear hP_4 hD_4 hS_4
  refine lv_iinc (v := 16) (lv' := [(2, .int 16), (0, .ref x), (1, .int p0)]) hx hb dX10_putFour_40 hl (k := 0) rfl (by decide) (by decide) rfl (fun ls hl => ?_)
  refine lv_goto (tgt := 3) hx hb dX10_putFour_43 (by decide) ?_
  refine lv_iload_n hx hb dX10_putFour_3 rfl (lv_at hl 0 rfl) ?_
  refine lv_if_lt (tgt := 46) hx hb dX10_putFour_4 (by decide) (fun c_5 => absurd c_5 (by decide)) (fun _ => ?_)
  refine lv_aload_n hx hb dX10_putFour_7 rfl (lv_at hl 1 rfl) ?_
  refine va_get (D := D) (ci := 10) (v := .int 13) (C := RX10) (T := TX10) (N := 20) hx hb hg inGX10 hown hK hP 0 rfl rfl 1 (by decide) (hg _ q_2_104) (fun _ h9 => h9) (px_ss hx_1) dX10_putFour_8 ?_
  refine lv_sipush (v := 940) hx hb dX10_putFour_11 (by decide) ?_
  refine lv_icmp_ge (tgt := 46) hx hb dX10_putFour_14 (by decide) (fun c_6 => absurd c_6 (by decide)) (fun _ => ?_)
  refine lv_aload_n hx hb dX10_putFour_17 rfl (lv_at hl 1 rfl) ?_
  refine va_get (D := D) (ci := 10) (v := .ref tp) (C := RX10) (T := TX10) (N := 20) hx hb hg inGX10 hown hK hP 0 rfl rfl 0 (by decide) (hg _ q_2_103) (fun _ h9 => h9) (px_sn (by decide) hx_0) dX10_putFour_18 ?_
  refine lv_aload_n hx hb dX10_putFour_21 rfl (lv_at hl 1 rfl) ?_
  refine va_get (D := D) (ci := 10) (v := .int 13) (C := RX10) (T := TX10) (N := 20) hx hb hg inGX10 hown hK hP 0 rfl rfl 1 (by decide) (hg _ q_2_104) (fun _ h9 => h9) (px_ss hx_1) dX10_putFour_22 ?_
  refine lv_iload_n hx hb dX10_putFour_25 rfl (lv_at hl 2 rfl) ?_
  refine lv_iload_n hx hb dX10_putFour_26 rfl (lv_at hl 0 rfl) ?_
  refine lv_iushr hx hb dX10_putFour_27 rfl ?_
  refine lv_i2b hx hb dX10_putFour_28 rfl ?_
  refine va_bast hx hb hK hP hD hS 1 0 rfl rfl (i := 13) (px_in (by decide)) dX10_putFour_29 (fun H_7 locs_7 hP_7 hD_7 hS_7 => ?_)
  clear hP hD hS
  have hP : va_P D vwCl [(x, .inr (10, (fx.set 1 (.int 13)))), (tp, .inl (y 0, 940, .inl (upd (upd ftp 12 (vp_nar .byte ((Int32.toInt8 ((Int32.toUInt32 p0 >>> (Int32.toUInt32 24 &&& Int32.toUInt32 31)).toInt32)).toInt32))) 13 (vp_nar .byte ((Int32.toInt8 ((Int32.toUInt32 p0 >>> (Int32.toUInt32 16 &&& Int32.toUInt32 31)).toInt32)).toInt32)))))] H_7 := hP_7
  have hD : va_D A [(x, .inr (10, (fx.set 1 (.int 13)))), (tp, .inl (y 0, 940, .inl (upd (upd ftp 12 (vp_nar .byte ((Int32.toInt8 ((Int32.toUInt32 p0 >>> (Int32.toUInt32 24 &&& Int32.toUInt32 31)).toInt32)).toInt32))) 13 (vp_nar .byte ((Int32.toInt8 ((Int32.toUInt32 p0 >>> (Int32.toUInt32 16 &&& Int32.toUInt32 31)).toInt32)).toInt32)))))] := hD_7
  have hS := hS_7
  clear hP_7 hD_7 hS_7
  refine lv_aload_n hx hb dX10_putFour_30 rfl (lv_at hl 1 rfl) ?_
  refine lv_dup hx hb dX10_putFour_31 rfl ?_
  refine va_get (D := D) (ci := 10) (v := .int 13) (C := RX10) (T := TX10) (N := 20) hx hb hg inGX10 hown hK hP 0 rfl rfl 1 (by decide) (hg _ q_2_104) (fun _ h9 => h9) (px_ss hx_1) dX10_putFour_32 ?_
  refine lv_iconst (v := 1) hx hb dX10_putFour_35 (by decide) ?_
  refine lv_iadd hx hb dX10_putFour_36 ?_
  refine px_top (v := 14) (by decide) ?_
  refine va_put (D := D) (ci := 10) (v := .int 14) (ty := .int) (C := RX10) (T := TX10) (N := 20) hx hb hg inGX10 tyX10 tyX10_ok nmX10 hown hK hP hD hS 0 rfl rfl 1 (by decide) (hg _ q_2_104) (fun _ h9 => h9) rfl (by decide +kernel) rfl rfl (px_len (px_ss hx_1)) dX10_putFour_37 (fun H_8 locs_8 hP_8 hD_8 hS_8 => ?_)
  clear hP hD hS
  have hP : va_P D vwCl [(x, .inr (10, ((fx.set 1 (.int 13)).set 1 (.int 14)))), (tp, .inl (y 0, 940, .inl (upd (upd ftp 12 (vp_nar .byte ((Int32.toInt8 ((Int32.toUInt32 p0 >>> (Int32.toUInt32 24 &&& Int32.toUInt32 31)).toInt32)).toInt32))) 13 (vp_nar .byte ((Int32.toInt8 ((Int32.toUInt32 p0 >>> (Int32.toUInt32 16 &&& Int32.toUInt32 31)).toInt32)).toInt32)))))] H_8 := hP_8
  have hD : va_D A [(x, .inr (10, ((fx.set 1 (.int 13)).set 1 (.int 14)))), (tp, .inl (y 0, 940, .inl (upd (upd ftp 12 (vp_nar .byte ((Int32.toInt8 ((Int32.toUInt32 p0 >>> (Int32.toUInt32 24 &&& Int32.toUInt32 31)).toInt32)).toInt32))) 13 (vp_nar .byte ((Int32.toInt8 ((Int32.toUInt32 p0 >>> (Int32.toUInt32 16 &&& Int32.toUInt32 31)).toInt32)).toInt32)))))] := hD_8
  have hS := hS_8
  clear hP_8 hD_8 hS_8
  refine lv_iinc (v := 8) (lv' := [(2, .int 8), (0, .ref x), (1, .int p0)]) hx hb dX10_putFour_40 hl (k := 0) rfl (by decide) (by decide) rfl (fun ls hl => ?_)
  refine lv_goto (tgt := 3) hx hb dX10_putFour_43 (by decide) ?_
  refine lv_iload_n hx hb dX10_putFour_3 rfl (lv_at hl 0 rfl) ?_
  refine lv_if_lt (tgt := 46) hx hb dX10_putFour_4 (by decide) (fun c_9 => absurd c_9 (by decide)) (fun _ => ?_)
  refine lv_aload_n hx hb dX10_putFour_7 rfl (lv_at hl 1 rfl) ?_
  refine va_get (D := D) (ci := 10) (v := .int 14) (C := RX10) (T := TX10) (N := 20) hx hb hg inGX10 hown hK hP 0 rfl rfl 1 (by decide) (hg _ q_2_104) (fun _ h9 => h9) (px_ss (px_ss hx_1)) dX10_putFour_8 ?_
  refine lv_sipush (v := 940) hx hb dX10_putFour_11 (by decide) ?_
  refine lv_icmp_ge (tgt := 46) hx hb dX10_putFour_14 (by decide) (fun c_10 => absurd c_10 (by decide)) (fun _ => ?_)
  refine lv_aload_n hx hb dX10_putFour_17 rfl (lv_at hl 1 rfl) ?_
  refine va_get (D := D) (ci := 10) (v := .ref tp) (C := RX10) (T := TX10) (N := 20) hx hb hg inGX10 hown hK hP 0 rfl rfl 0 (by decide) (hg _ q_2_103) (fun _ h9 => h9) (px_sn (by decide) (px_sn (by decide) hx_0)) dX10_putFour_18 ?_
  refine lv_aload_n hx hb dX10_putFour_21 rfl (lv_at hl 1 rfl) ?_
  refine va_get (D := D) (ci := 10) (v := .int 14) (C := RX10) (T := TX10) (N := 20) hx hb hg inGX10 hown hK hP 0 rfl rfl 1 (by decide) (hg _ q_2_104) (fun _ h9 => h9) (px_ss (px_ss hx_1)) dX10_putFour_22 ?_
  refine lv_iload_n hx hb dX10_putFour_25 rfl (lv_at hl 2 rfl) ?_
  refine lv_iload_n hx hb dX10_putFour_26 rfl (lv_at hl 0 rfl) ?_
  refine lv_iushr hx hb dX10_putFour_27 rfl ?_
  refine lv_i2b hx hb dX10_putFour_28 rfl ?_
  refine va_bast hx hb hK hP hD hS 1 0 rfl rfl (i := 14) (px_in (by decide)) dX10_putFour_29 (fun H_11 locs_11 hP_11 hD_11 hS_11 => ?_)
  clear hP hD hS
  have hP : va_P D vwCl [(x, .inr (10, ((fx.set 1 (.int 13)).set 1 (.int 14)))), (tp, .inl (y 0, 940, .inl (upd (upd (upd ftp 12 (vp_nar .byte ((Int32.toInt8 ((Int32.toUInt32 p0 >>> (Int32.toUInt32 24 &&& Int32.toUInt32 31)).toInt32)).toInt32))) 13 (vp_nar .byte ((Int32.toInt8 ((Int32.toUInt32 p0 >>> (Int32.toUInt32 16 &&& Int32.toUInt32 31)).toInt32)).toInt32))) 14 (vp_nar .byte ((Int32.toInt8 ((Int32.toUInt32 p0 >>> (Int32.toUInt32 8 &&& Int32.toUInt32 31)).toInt32)).toInt32)))))] H_11 := hP_11
  have hD : va_D A [(x, .inr (10, ((fx.set 1 (.int 13)).set 1 (.int 14)))), (tp, .inl (y 0, 940, .inl (upd (upd (upd ftp 12 (vp_nar .byte ((Int32.toInt8 ((Int32.toUInt32 p0 >>> (Int32.toUInt32 24 &&& Int32.toUInt32 31)).toInt32)).toInt32))) 13 (vp_nar .byte ((Int32.toInt8 ((Int32.toUInt32 p0 >>> (Int32.toUInt32 16 &&& Int32.toUInt32 31)).toInt32)).toInt32))) 14 (vp_nar .byte ((Int32.toInt8 ((Int32.toUInt32 p0 >>> (Int32.toUInt32 8 &&& Int32.toUInt32 31)).toInt32)).toInt32)))))] := hD_11
  have hS := hS_11
  clear hP_11 hD_11 hS_11
  refine lv_aload_n hx hb dX10_putFour_30 rfl (lv_at hl 1 rfl) ?_
  refine lv_dup hx hb dX10_putFour_31 rfl ?_
  refine va_get (D := D) (ci := 10) (v := .int 14) (C := RX10) (T := TX10) (N := 20) hx hb hg inGX10 hown hK hP 0 rfl rfl 1 (by decide) (hg _ q_2_104) (fun _ h9 => h9) (px_ss (px_ss hx_1)) dX10_putFour_32 ?_
  refine lv_iconst (v := 1) hx hb dX10_putFour_35 (by decide) ?_
  refine lv_iadd hx hb dX10_putFour_36 ?_
  refine px_top (v := 15) (by decide) ?_
  refine va_put (D := D) (ci := 10) (v := .int 15) (ty := .int) (C := RX10) (T := TX10) (N := 20) hx hb hg inGX10 tyX10 tyX10_ok nmX10 hown hK hP hD hS 0 rfl rfl 1 (by decide) (hg _ q_2_104) (fun _ h9 => h9) rfl (by decide +kernel) rfl rfl (px_len (px_ss (px_ss hx_1))) dX10_putFour_37 (fun H_12 locs_12 hP_12 hD_12 hS_12 => ?_)
  clear hP hD hS
  have hP : va_P D vwCl [(x, .inr (10, (((fx.set 1 (.int 13)).set 1 (.int 14)).set 1 (.int 15)))), (tp, .inl (y 0, 940, .inl (upd (upd (upd ftp 12 (vp_nar .byte ((Int32.toInt8 ((Int32.toUInt32 p0 >>> (Int32.toUInt32 24 &&& Int32.toUInt32 31)).toInt32)).toInt32))) 13 (vp_nar .byte ((Int32.toInt8 ((Int32.toUInt32 p0 >>> (Int32.toUInt32 16 &&& Int32.toUInt32 31)).toInt32)).toInt32))) 14 (vp_nar .byte ((Int32.toInt8 ((Int32.toUInt32 p0 >>> (Int32.toUInt32 8 &&& Int32.toUInt32 31)).toInt32)).toInt32)))))] H_12 := hP_12
  have hD : va_D A [(x, .inr (10, (((fx.set 1 (.int 13)).set 1 (.int 14)).set 1 (.int 15)))), (tp, .inl (y 0, 940, .inl (upd (upd (upd ftp 12 (vp_nar .byte ((Int32.toInt8 ((Int32.toUInt32 p0 >>> (Int32.toUInt32 24 &&& Int32.toUInt32 31)).toInt32)).toInt32))) 13 (vp_nar .byte ((Int32.toInt8 ((Int32.toUInt32 p0 >>> (Int32.toUInt32 16 &&& Int32.toUInt32 31)).toInt32)).toInt32))) 14 (vp_nar .byte ((Int32.toInt8 ((Int32.toUInt32 p0 >>> (Int32.toUInt32 8 &&& Int32.toUInt32 31)).toInt32)).toInt32)))))] := hD_12
  have hS := hS_12
  clear hP_12 hD_12 hS_12
  refine lv_iinc (v := 0) (lv' := [(2, .int 0), (0, .ref x), (1, .int p0)]) hx hb dX10_putFour_40 hl (k := 0) rfl (by decide) (by decide) rfl (fun ls hl => ?_)
  refine lv_goto (tgt := 3) hx hb dX10_putFour_43 (by decide) ?_
  refine lv_iload_n hx hb dX10_putFour_3 rfl (lv_at hl 0 rfl) ?_
  refine lv_if_lt (tgt := 46) hx hb dX10_putFour_4 (by decide) (fun c_13 => absurd c_13 (by decide)) (fun _ => ?_)
  refine lv_aload_n hx hb dX10_putFour_7 rfl (lv_at hl 1 rfl) ?_
  refine va_get (D := D) (ci := 10) (v := .int 15) (C := RX10) (T := TX10) (N := 20) hx hb hg inGX10 hown hK hP 0 rfl rfl 1 (by decide) (hg _ q_2_104) (fun _ h9 => h9) (px_ss (px_ss (px_ss hx_1))) dX10_putFour_8 ?_
  refine lv_sipush (v := 940) hx hb dX10_putFour_11 (by decide) ?_
  refine lv_icmp_ge (tgt := 46) hx hb dX10_putFour_14 (by decide) (fun c_14 => absurd c_14 (by decide)) (fun _ => ?_)
  refine lv_aload_n hx hb dX10_putFour_17 rfl (lv_at hl 1 rfl) ?_
  refine va_get (D := D) (ci := 10) (v := .ref tp) (C := RX10) (T := TX10) (N := 20) hx hb hg inGX10 hown hK hP 0 rfl rfl 0 (by decide) (hg _ q_2_103) (fun _ h9 => h9) (px_sn (by decide) (px_sn (by decide) (px_sn (by decide) hx_0))) dX10_putFour_18 ?_
  refine lv_aload_n hx hb dX10_putFour_21 rfl (lv_at hl 1 rfl) ?_
  refine va_get (D := D) (ci := 10) (v := .int 15) (C := RX10) (T := TX10) (N := 20) hx hb hg inGX10 hown hK hP 0 rfl rfl 1 (by decide) (hg _ q_2_104) (fun _ h9 => h9) (px_ss (px_ss (px_ss hx_1))) dX10_putFour_22 ?_
  refine lv_iload_n hx hb dX10_putFour_25 rfl (lv_at hl 2 rfl) ?_
  refine lv_iload_n hx hb dX10_putFour_26 rfl (lv_at hl 0 rfl) ?_
  refine lv_iushr hx hb dX10_putFour_27 rfl ?_
  refine lv_i2b hx hb dX10_putFour_28 rfl ?_
  refine va_bast hx hb hK hP hD hS 1 0 rfl rfl (i := 15) (px_in (by decide)) dX10_putFour_29 (fun H_15 locs_15 hP_15 hD_15 hS_15 => ?_)
  clear hP hD hS
  have hP : va_P D vwCl [(x, .inr (10, (((fx.set 1 (.int 13)).set 1 (.int 14)).set 1 (.int 15)))), (tp, .inl (y 0, 940, .inl (upd (upd (upd (upd ftp 12 (vp_nar .byte ((Int32.toInt8 ((Int32.toUInt32 p0 >>> (Int32.toUInt32 24 &&& Int32.toUInt32 31)).toInt32)).toInt32))) 13 (vp_nar .byte ((Int32.toInt8 ((Int32.toUInt32 p0 >>> (Int32.toUInt32 16 &&& Int32.toUInt32 31)).toInt32)).toInt32))) 14 (vp_nar .byte ((Int32.toInt8 ((Int32.toUInt32 p0 >>> (Int32.toUInt32 8 &&& Int32.toUInt32 31)).toInt32)).toInt32))) 15 (vp_nar .byte ((Int32.toInt8 ((Int32.toUInt32 p0 >>> (Int32.toUInt32 0 &&& Int32.toUInt32 31)).toInt32)).toInt32)))))] H_15 := hP_15
  have hD : va_D A [(x, .inr (10, (((fx.set 1 (.int 13)).set 1 (.int 14)).set 1 (.int 15)))), (tp, .inl (y 0, 940, .inl (upd (upd (upd (upd ftp 12 (vp_nar .byte ((Int32.toInt8 ((Int32.toUInt32 p0 >>> (Int32.toUInt32 24 &&& Int32.toUInt32 31)).toInt32)).toInt32))) 13 (vp_nar .byte ((Int32.toInt8 ((Int32.toUInt32 p0 >>> (Int32.toUInt32 16 &&& Int32.toUInt32 31)).toInt32)).toInt32))) 14 (vp_nar .byte ((Int32.toInt8 ((Int32.toUInt32 p0 >>> (Int32.toUInt32 8 &&& Int32.toUInt32 31)).toInt32)).toInt32))) 15 (vp_nar .byte ((Int32.toInt8 ((Int32.toUInt32 p0 >>> (Int32.toUInt32 0 &&& Int32.toUInt32 31)).toInt32)).toInt32)))))] := hD_15
  have hS := hS_15
  clear hP_15 hD_15 hS_15
  refine lv_aload_n hx hb dX10_putFour_30 rfl (lv_at hl 1 rfl) ?_
  refine lv_dup hx hb dX10_putFour_31 rfl ?_
  refine va_get (D := D) (ci := 10) (v := .int 15) (C := RX10) (T := TX10) (N := 20) hx hb hg inGX10 hown hK hP 0 rfl rfl 1 (by decide) (hg _ q_2_104) (fun _ h9 => h9) (px_ss (px_ss (px_ss hx_1))) dX10_putFour_32 ?_
  refine lv_iconst (v := 1) hx hb dX10_putFour_35 (by decide) ?_
  refine lv_iadd hx hb dX10_putFour_36 ?_
  refine px_top (v := 16) (by decide) ?_
  refine va_put (D := D) (ci := 10) (v := .int 16) (ty := .int) (C := RX10) (T := TX10) (N := 20) hx hb hg inGX10 tyX10 tyX10_ok nmX10 hown hK hP hD hS 0 rfl rfl 1 (by decide) (hg _ q_2_104) (fun _ h9 => h9) rfl (by decide +kernel) rfl rfl (px_len (px_ss (px_ss (px_ss hx_1)))) dX10_putFour_37 (fun H_16 locs_16 hP_16 hD_16 hS_16 => ?_)
  clear hP hD hS
  have hP : va_P D vwCl [(x, .inr (10, ((((fx.set 1 (.int 13)).set 1 (.int 14)).set 1 (.int 15)).set 1 (.int 16)))), (tp, .inl (y 0, 940, .inl (upd (upd (upd (upd ftp 12 (vp_nar .byte ((Int32.toInt8 ((Int32.toUInt32 p0 >>> (Int32.toUInt32 24 &&& Int32.toUInt32 31)).toInt32)).toInt32))) 13 (vp_nar .byte ((Int32.toInt8 ((Int32.toUInt32 p0 >>> (Int32.toUInt32 16 &&& Int32.toUInt32 31)).toInt32)).toInt32))) 14 (vp_nar .byte ((Int32.toInt8 ((Int32.toUInt32 p0 >>> (Int32.toUInt32 8 &&& Int32.toUInt32 31)).toInt32)).toInt32))) 15 (vp_nar .byte ((Int32.toInt8 ((Int32.toUInt32 p0 >>> (Int32.toUInt32 0 &&& Int32.toUInt32 31)).toInt32)).toInt32)))))] H_16 := hP_16
  have hD : va_D A [(x, .inr (10, ((((fx.set 1 (.int 13)).set 1 (.int 14)).set 1 (.int 15)).set 1 (.int 16)))), (tp, .inl (y 0, 940, .inl (upd (upd (upd (upd ftp 12 (vp_nar .byte ((Int32.toInt8 ((Int32.toUInt32 p0 >>> (Int32.toUInt32 24 &&& Int32.toUInt32 31)).toInt32)).toInt32))) 13 (vp_nar .byte ((Int32.toInt8 ((Int32.toUInt32 p0 >>> (Int32.toUInt32 16 &&& Int32.toUInt32 31)).toInt32)).toInt32))) 14 (vp_nar .byte ((Int32.toInt8 ((Int32.toUInt32 p0 >>> (Int32.toUInt32 8 &&& Int32.toUInt32 31)).toInt32)).toInt32))) 15 (vp_nar .byte ((Int32.toInt8 ((Int32.toUInt32 p0 >>> (Int32.toUInt32 0 &&& Int32.toUInt32 31)).toInt32)).toInt32)))))] := hD_16
  have hS := hS_16
  clear hP_16 hD_16 hS_16
  refine lv_iinc (v := (-8)) (lv' := [(2, .int (-8)), (0, .ref x), (1, .int p0)]) hx hb dX10_putFour_40 hl (k := 0) rfl (by decide) (by decide) rfl (fun ls hl => ?_)
  refine lv_goto (tgt := 3) hx hb dX10_putFour_43 (by decide) ?_
  refine lv_iload_n hx hb dX10_putFour_3 rfl (lv_at hl 0 rfl) ?_
  refine lv_if_lt (tgt := 46) hx hb dX10_putFour_4 (by decide) (fun _ => ?_) (fun c_17 => absurd c_17 (by decide))
  have hP9 := hP.sub (ws' := [(x, .inr (10, ((((fx.set 1 (.int 13)).set 1 (.int 14)).set 1 (.int 15)).set 1 (.int 16)))), (tp, .inl (y 0, 940, .inl (upd (upd (upd (upd ftp 12 (vp_nar .byte ((Int32.toInt8 ((Int32.toUInt32 p0 >>> (Int32.toUInt32 24 &&& Int32.toUInt32 31)).toInt32)).toInt32))) 13 (vp_nar .byte ((Int32.toInt8 ((Int32.toUInt32 p0 >>> (Int32.toUInt32 16 &&& Int32.toUInt32 31)).toInt32)).toInt32))) 14 (vp_nar .byte ((Int32.toInt8 ((Int32.toUInt32 p0 >>> (Int32.toUInt32 8 &&& Int32.toUInt32 31)).toInt32)).toInt32))) 15 (vp_nar .byte ((Int32.toInt8 ((Int32.toUInt32 p0 >>> (Int32.toUInt32 0 &&& Int32.toUInt32 31)).toInt32)).toInt32)))))]) [0, 1] rfl
  have hD9 := hD.sub (ws' := [(x, .inr (10, ((((fx.set 1 (.int 13)).set 1 (.int 14)).set 1 (.int 15)).set 1 (.int 16)))), (tp, .inl (y 0, 940, .inl (upd (upd (upd (upd ftp 12 (vp_nar .byte ((Int32.toInt8 ((Int32.toUInt32 p0 >>> (Int32.toUInt32 24 &&& Int32.toUInt32 31)).toInt32)).toInt32))) 13 (vp_nar .byte ((Int32.toInt8 ((Int32.toUInt32 p0 >>> (Int32.toUInt32 16 &&& Int32.toUInt32 31)).toInt32)).toInt32))) 14 (vp_nar .byte ((Int32.toInt8 ((Int32.toUInt32 p0 >>> (Int32.toUInt32 8 &&& Int32.toUInt32 31)).toInt32)).toInt32))) 15 (vp_nar .byte ((Int32.toInt8 ((Int32.toUInt32 p0 >>> (Int32.toUInt32 0 &&& Int32.toUInt32 31)).toInt32)).toInt32)))))]) [0, 1] (by decide +kernel) rfl
  exact W.vret hx hb hr (fun t ht hW => ⟨⟨(px_v [], px_vi [(upd (upd (upd (upd ftp 12 (vp_nar .byte ((Int32.toInt8 ((Int32.toUInt32 p0 >>> (Int32.toUInt32 24 &&& Int32.toUInt32 31)).toInt32)).toInt32))) 13 (vp_nar .byte ((Int32.toInt8 ((Int32.toUInt32 p0 >>> (Int32.toUInt32 16 &&& Int32.toUInt32 31)).toInt32)).toInt32))) 14 (vp_nar .byte ((Int32.toInt8 ((Int32.toUInt32 p0 >>> (Int32.toUInt32 8 &&& Int32.toUInt32 31)).toInt32)).toInt32))) 15 (vp_nar .byte ((Int32.toInt8 ((Int32.toUInt32 p0 >>> (Int32.toUInt32 0 &&& Int32.toUInt32 31)).toInt32)).toInt32)))], px_vl []), rfl, trivial, by rw [ht]; exact hP9, hD9⟩, hS.F ht⟩) hS.2.2 dX10_putFour_46

set_option maxHeartbeats 4000000 in
set_option maxRecDepth 100000 in
theorem c_X10_putFour_16 (l : Launch) (D : va_G) (y : Nat → ClassId) (sz : Nat) (x : Nat) (fx : List Value) (tp : Nat) (ftp : Nat → Int32) (p0 : Int32) (hx_0 : fx[0]? = some (.ref tp)) (hx_1 : fx[1]? = some (.int 16)) : Met l yX10_putFour (px_w yX10_putFour cX10_putFour 3 none) ({ frames := 0, cells := 0, slots := 0, locals := 0 }) (va_Pc [.ref x, .int p0] (px_P D y sz [(x, .inr (10, fx)), (tp, .inl (y 0, 940, .inl ftp))])) (va_Qv (fun (u : px_U) => True) (fun (u : px_U) t => va_P D vwCl [(x, .inr (10, ((((fx.set 1 (.int 17)).set 1 (.int 18)).set 1 (.int 19)).set 1 (.int 20)))), (tp, .inl (y 0, 940, .inl (u.2.1 0)))] t.heap ∧ va_D (va_A [(x, .inr (10, fx)), (tp, .inl (y 0, 940, .inl ftp))] sz) [(x, .inr (10, ((((fx.set 1 (.int 17)).set 1 (.int 18)).set 1 (.int 19)).set 1 (.int 20)))), (tp, .inl (y 0, 940, .inl (u.2.1 0)))]) (va_A [(x, .inr (10, fx)), (tp, .inl (y 0, 940, .inl ftp))] sz)) 0 0 (va_A [(x, .inr (10, fx)), (tp, .inl (y 0, 940, .inl ftp))] sz) := by
  refine Met.ofW (cc := cX10_putFour) (maxL := 3) (ret := none) (by decide) rfl ?_
  intro p e s m args below meth c s₁ B hml hv
  obtain ⟨rfl, hsz, hP, hK, hD0⟩ := hv
  have hx := B.exec
  have hb := B.bytes
  have hr := B.returns
  have hts := atoms_spec (ws := px_w yX10_putFour cX10_putFour 3 none) B.pre
  have hg : ∀ w ∈ gw, w.before [.ref x, .int p0].toArray s = true := fun w h => hts w (List.mem_cons_of_mem _ h)
  have hown : s.vm.findClass RX10 = some m.cls := findClass_of_methodNamed B.named
  have hlocks := B.notSynchronized
  subst hsz
  have hD := hD0.self (sz := s.heap.size)
  generalize hAe : va_A [(x, .inr (10, fx)), (tp, .inl (y 0, 940, .inl ftp))] s.heap.size = A at hD ⊢
  have hA : ∀ q : Nat, s.heap.size ≤ q → A q := fun q h => by rw [← hAe]; exact Or.inr h
  have hS : va_S A s.heap s.heap [] := va_S.rf
  have hP : va_P D vwCl [(x, .inr (10, fx)), (tp, .inl (y 0, 940, .inl ftp))] s.heap := hP
  have hl := lv_entry ([.ref x, .int p0]) (n := 3) (Nat.le_of_ble_eq_true rfl)
  rw [lg_entry_eq]
  generalize (lg_sl ([.ref x, .int p0]) ++ List.replicate (3 - (lg_sl ([.ref x, .int p0])).length) Slot.unset).toArray = ls at hl ⊢
  have hl : lv_has ls 3 [(0, .ref x), (1, .int p0)] := hl
  refine lv_bipush (v := 24) hx hb dX10_putFour_0 (by decide) ?_
  refine lv_istore_n (lv' := [(2, .int 24), (0, .ref x), (1, .int p0)]) hx hb dX10_putFour_2 rfl hl (by decide) rfl (fun ls hl => ?_)
  refine lv_iload_n hx hb dX10_putFour_3 rfl (lv_at hl 0 rfl) ?_
  refine lv_if_lt (tgt := 46) hx hb dX10_putFour_4 (by decide) (fun c_1 => absurd c_1 (by decide)) (fun _ => ?_)
  refine lv_aload_n hx hb dX10_putFour_7 rfl (lv_at hl 1 rfl) ?_
  refine va_get (D := D) (ci := 10) (v := .int 16) (C := RX10) (T := TX10) (N := 20) hx hb hg inGX10 hown hK hP 0 rfl rfl 1 (by decide) (hg _ q_2_104) (fun _ h9 => h9) hx_1 dX10_putFour_8 ?_
  refine lv_sipush (v := 940) hx hb dX10_putFour_11 (by decide) ?_
  refine lv_icmp_ge (tgt := 46) hx hb dX10_putFour_14 (by decide) (fun c_2 => absurd c_2 (by decide)) (fun _ => ?_)
  refine lv_aload_n hx hb dX10_putFour_17 rfl (lv_at hl 1 rfl) ?_
  refine va_get (D := D) (ci := 10) (v := .ref tp) (C := RX10) (T := TX10) (N := 20) hx hb hg inGX10 hown hK hP 0 rfl rfl 0 (by decide) (hg _ q_2_103) (fun _ h9 => h9) hx_0 dX10_putFour_18 ?_
  refine lv_aload_n hx hb dX10_putFour_21 rfl (lv_at hl 1 rfl) ?_
  refine va_get (D := D) (ci := 10) (v := .int 16) (C := RX10) (T := TX10) (N := 20) hx hb hg inGX10 hown hK hP 0 rfl rfl 1 (by decide) (hg _ q_2_104) (fun _ h9 => h9) hx_1 dX10_putFour_22 ?_
  refine lv_iload_n hx hb dX10_putFour_25 rfl (lv_at hl 2 rfl) ?_
  refine lv_iload_n hx hb dX10_putFour_26 rfl (lv_at hl 0 rfl) ?_
  refine lv_iushr hx hb dX10_putFour_27 rfl ?_
  refine lv_i2b hx hb dX10_putFour_28 rfl ?_
  refine va_bast hx hb hK hP hD hS 1 0 rfl rfl (i := 16) (px_in (by decide)) dX10_putFour_29 (fun H_3 locs_3 hP_3 hD_3 hS_3 => ?_)
  clear hP hD hS
  have hP : va_P D vwCl [(x, .inr (10, fx)), (tp, .inl (y 0, 940, .inl (upd ftp 16 (vp_nar .byte ((Int32.toInt8 ((Int32.toUInt32 p0 >>> (Int32.toUInt32 24 &&& Int32.toUInt32 31)).toInt32)).toInt32)))))] H_3 := hP_3
  have hD : va_D A [(x, .inr (10, fx)), (tp, .inl (y 0, 940, .inl (upd ftp 16 (vp_nar .byte ((Int32.toInt8 ((Int32.toUInt32 p0 >>> (Int32.toUInt32 24 &&& Int32.toUInt32 31)).toInt32)).toInt32)))))] := hD_3
  have hS := hS_3
  clear hP_3 hD_3 hS_3
  refine lv_aload_n hx hb dX10_putFour_30 rfl (lv_at hl 1 rfl) ?_
  refine lv_dup hx hb dX10_putFour_31 rfl ?_
  refine va_get (D := D) (ci := 10) (v := .int 16) (C := RX10) (T := TX10) (N := 20) hx hb hg inGX10 hown hK hP 0 rfl rfl 1 (by decide) (hg _ q_2_104) (fun _ h9 => h9) hx_1 dX10_putFour_32 ?_
  refine lv_iconst (v := 1) hx hb dX10_putFour_35 (by decide) ?_
  refine lv_iadd hx hb dX10_putFour_36 ?_
  refine px_top (v := 17) (by decide) ?_
  refine va_put (D := D) (ci := 10) (v := .int 17) (ty := .int) (C := RX10) (T := TX10) (N := 20) hx hb hg inGX10 tyX10 tyX10_ok nmX10 hown hK hP hD hS 0 rfl rfl 1 (by decide) (hg _ q_2_104) (fun _ h9 => h9) rfl (by decide +kernel) rfl rfl (px_len hx_1) dX10_putFour_37 (fun H_4 locs_4 hP_4 hD_4 hS_4 => ?_)
  clear hP hD hS
  have hP : va_P D vwCl [(x, .inr (10, (fx.set 1 (.int 17)))), (tp, .inl (y 0, 940, .inl (upd ftp 16 (vp_nar .byte ((Int32.toInt8 ((Int32.toUInt32 p0 >>> (Int32.toUInt32 24 &&& Int32.toUInt32 31)).toInt32)).toInt32)))))] H_4 := hP_4
  have hD : va_D A [(x, .inr (10, (fx.set 1 (.int 17)))), (tp, .inl (y 0, 940, .inl (upd ftp 16 (vp_nar .byte ((Int32.toInt8 ((Int32.toUInt32 p0 >>> (Int32.toUInt32 24 &&& Int32.toUInt32 31)).toInt32)).toInt32)))))] := hD_4
  have hS := hS_4
  clear hP_4 hD_4 hS_4
  refine lv_iinc (v := 16) (lv' := [(2, .int 16), (0, .ref x), (1, .int p0)]) hx hb dX10_putFour_40 hl (k := 0) rfl (by decide) (by decide) rfl (fun ls hl => ?_)
  refine lv_goto (tgt := 3) hx hb dX10_putFour_43 (by decide) ?_
  refine lv_iload_n hx hb dX10_putFour_3 rfl (lv_at hl 0 rfl) ?_
  refine lv_if_lt (tgt := 46) hx hb dX10_putFour_4 (by decide) (fun c_5 => absurd c_5 (by decide)) (fun _ => ?_)
  refine lv_aload_n hx hb dX10_putFour_7 rfl (lv_at hl 1 rfl) ?_
  refine va_get (D := D) (ci := 10) (v := .int 17) (C := RX10) (T := TX10) (N := 20) hx hb hg inGX10 hown hK hP 0 rfl rfl 1 (by decide) (hg _ q_2_104) (fun _ h9 => h9) (px_ss hx_1) dX10_putFour_8 ?_
  refine lv_sipush (v := 940) hx hb dX10_putFour_11 (by decide) ?_
  refine lv_icmp_ge (tgt := 46) hx hb dX10_putFour_14 (by decide) (fun c_6 => absurd c_6 (by decide)) (fun _ => ?_)
  refine lv_aload_n hx hb dX10_putFour_17 rfl (lv_at hl 1 rfl) ?_
  refine va_get (D := D) (ci := 10) (v := .ref tp) (C := RX10) (T := TX10) (N := 20) hx hb hg inGX10 hown hK hP 0 rfl rfl 0 (by decide) (hg _ q_2_103) (fun _ h9 => h9) (px_sn (by decide) hx_0) dX10_putFour_18 ?_
  refine lv_aload_n hx hb dX10_putFour_21 rfl (lv_at hl 1 rfl) ?_
  refine va_get (D := D) (ci := 10) (v := .int 17) (C := RX10) (T := TX10) (N := 20) hx hb hg inGX10 hown hK hP 0 rfl rfl 1 (by decide) (hg _ q_2_104) (fun _ h9 => h9) (px_ss hx_1) dX10_putFour_22 ?_
  refine lv_iload_n hx hb dX10_putFour_25 rfl (lv_at hl 2 rfl) ?_
  refine lv_iload_n hx hb dX10_putFour_26 rfl (lv_at hl 0 rfl) ?_
  refine lv_iushr hx hb dX10_putFour_27 rfl ?_
  refine lv_i2b hx hb dX10_putFour_28 rfl ?_
  refine va_bast hx hb hK hP hD hS 1 0 rfl rfl (i := 17) (px_in (by decide)) dX10_putFour_29 (fun H_7 locs_7 hP_7 hD_7 hS_7 => ?_)
  clear hP hD hS
  have hP : va_P D vwCl [(x, .inr (10, (fx.set 1 (.int 17)))), (tp, .inl (y 0, 940, .inl (upd (upd ftp 16 (vp_nar .byte ((Int32.toInt8 ((Int32.toUInt32 p0 >>> (Int32.toUInt32 24 &&& Int32.toUInt32 31)).toInt32)).toInt32))) 17 (vp_nar .byte ((Int32.toInt8 ((Int32.toUInt32 p0 >>> (Int32.toUInt32 16 &&& Int32.toUInt32 31)).toInt32)).toInt32)))))] H_7 := hP_7
  have hD : va_D A [(x, .inr (10, (fx.set 1 (.int 17)))), (tp, .inl (y 0, 940, .inl (upd (upd ftp 16 (vp_nar .byte ((Int32.toInt8 ((Int32.toUInt32 p0 >>> (Int32.toUInt32 24 &&& Int32.toUInt32 31)).toInt32)).toInt32))) 17 (vp_nar .byte ((Int32.toInt8 ((Int32.toUInt32 p0 >>> (Int32.toUInt32 16 &&& Int32.toUInt32 31)).toInt32)).toInt32)))))] := hD_7
  have hS := hS_7
  clear hP_7 hD_7 hS_7
  refine lv_aload_n hx hb dX10_putFour_30 rfl (lv_at hl 1 rfl) ?_
  refine lv_dup hx hb dX10_putFour_31 rfl ?_
  refine va_get (D := D) (ci := 10) (v := .int 17) (C := RX10) (T := TX10) (N := 20) hx hb hg inGX10 hown hK hP 0 rfl rfl 1 (by decide) (hg _ q_2_104) (fun _ h9 => h9) (px_ss hx_1) dX10_putFour_32 ?_
  refine lv_iconst (v := 1) hx hb dX10_putFour_35 (by decide) ?_
  refine lv_iadd hx hb dX10_putFour_36 ?_
  refine px_top (v := 18) (by decide) ?_
  refine va_put (D := D) (ci := 10) (v := .int 18) (ty := .int) (C := RX10) (T := TX10) (N := 20) hx hb hg inGX10 tyX10 tyX10_ok nmX10 hown hK hP hD hS 0 rfl rfl 1 (by decide) (hg _ q_2_104) (fun _ h9 => h9) rfl (by decide +kernel) rfl rfl (px_len (px_ss hx_1)) dX10_putFour_37 (fun H_8 locs_8 hP_8 hD_8 hS_8 => ?_)
  clear hP hD hS
  have hP : va_P D vwCl [(x, .inr (10, ((fx.set 1 (.int 17)).set 1 (.int 18)))), (tp, .inl (y 0, 940, .inl (upd (upd ftp 16 (vp_nar .byte ((Int32.toInt8 ((Int32.toUInt32 p0 >>> (Int32.toUInt32 24 &&& Int32.toUInt32 31)).toInt32)).toInt32))) 17 (vp_nar .byte ((Int32.toInt8 ((Int32.toUInt32 p0 >>> (Int32.toUInt32 16 &&& Int32.toUInt32 31)).toInt32)).toInt32)))))] H_8 := hP_8
  have hD : va_D A [(x, .inr (10, ((fx.set 1 (.int 17)).set 1 (.int 18)))), (tp, .inl (y 0, 940, .inl (upd (upd ftp 16 (vp_nar .byte ((Int32.toInt8 ((Int32.toUInt32 p0 >>> (Int32.toUInt32 24 &&& Int32.toUInt32 31)).toInt32)).toInt32))) 17 (vp_nar .byte ((Int32.toInt8 ((Int32.toUInt32 p0 >>> (Int32.toUInt32 16 &&& Int32.toUInt32 31)).toInt32)).toInt32)))))] := hD_8
  have hS := hS_8
  clear hP_8 hD_8 hS_8
  refine lv_iinc (v := 8) (lv' := [(2, .int 8), (0, .ref x), (1, .int p0)]) hx hb dX10_putFour_40 hl (k := 0) rfl (by decide) (by decide) rfl (fun ls hl => ?_)
  refine lv_goto (tgt := 3) hx hb dX10_putFour_43 (by decide) ?_
  refine lv_iload_n hx hb dX10_putFour_3 rfl (lv_at hl 0 rfl) ?_
  refine lv_if_lt (tgt := 46) hx hb dX10_putFour_4 (by decide) (fun c_9 => absurd c_9 (by decide)) (fun _ => ?_)
  refine lv_aload_n hx hb dX10_putFour_7 rfl (lv_at hl 1 rfl) ?_
  refine va_get (D := D) (ci := 10) (v := .int 18) (C := RX10) (T := TX10) (N := 20) hx hb hg inGX10 hown hK hP 0 rfl rfl 1 (by decide) (hg _ q_2_104) (fun _ h9 => h9) (px_ss (px_ss hx_1)) dX10_putFour_8 ?_
  refine lv_sipush (v := 940) hx hb dX10_putFour_11 (by decide) ?_
  refine lv_icmp_ge (tgt := 46) hx hb dX10_putFour_14 (by decide) (fun c_10 => absurd c_10 (by decide)) (fun _ => ?_)
  refine lv_aload_n hx hb dX10_putFour_17 rfl (lv_at hl 1 rfl) ?_
  refine va_get (D := D) (ci := 10) (v := .ref tp) (C := RX10) (T := TX10) (N := 20) hx hb hg inGX10 hown hK hP 0 rfl rfl 0 (by decide) (hg _ q_2_103) (fun _ h9 => h9) (px_sn (by decide) (px_sn (by decide) hx_0)) dX10_putFour_18 ?_
  refine lv_aload_n hx hb dX10_putFour_21 rfl (lv_at hl 1 rfl) ?_
  refine va_get (D := D) (ci := 10) (v := .int 18) (C := RX10) (T := TX10) (N := 20) hx hb hg inGX10 hown hK hP 0 rfl rfl 1 (by decide) (hg _ q_2_104) (fun _ h9 => h9) (px_ss (px_ss hx_1)) dX10_putFour_22 ?_
  refine lv_iload_n hx hb dX10_putFour_25 rfl (lv_at hl 2 rfl) ?_
  refine lv_iload_n hx hb dX10_putFour_26 rfl (lv_at hl 0 rfl) ?_
  refine lv_iushr hx hb dX10_putFour_27 rfl ?_
  refine lv_i2b hx hb dX10_putFour_28 rfl ?_
  refine va_bast hx hb hK hP hD hS 1 0 rfl rfl (i := 18) (px_in (by decide)) dX10_putFour_29 (fun H_11 locs_11 hP_11 hD_11 hS_11 => ?_)
  clear hP hD hS
  have hP : va_P D vwCl [(x, .inr (10, ((fx.set 1 (.int 17)).set 1 (.int 18)))), (tp, .inl (y 0, 940, .inl (upd (upd (upd ftp 16 (vp_nar .byte ((Int32.toInt8 ((Int32.toUInt32 p0 >>> (Int32.toUInt32 24 &&& Int32.toUInt32 31)).toInt32)).toInt32))) 17 (vp_nar .byte ((Int32.toInt8 ((Int32.toUInt32 p0 >>> (Int32.toUInt32 16 &&& Int32.toUInt32 31)).toInt32)).toInt32))) 18 (vp_nar .byte ((Int32.toInt8 ((Int32.toUInt32 p0 >>> (Int32.toUInt32 8 &&& Int32.toUInt32 31)).toInt32)).toInt32)))))] H_11 := hP_11
  have hD : va_D A [(x, .inr (10, ((fx.set 1 (.int 17)).set 1 (.int 18)))), (tp, .inl (y 0, 940, .inl (upd (upd (upd ftp 16 (vp_nar .byte ((Int32.toInt8 ((Int32.toUInt32 p0 >>> (Int32.toUInt32 24 &&& Int32.toUInt32 31)).toInt32)).toInt32))) 17 (vp_nar .byte ((Int32.toInt8 ((Int32.toUInt32 p0 >>> (Int32.toUInt32 16 &&& Int32.toUInt32 31)).toInt32)).toInt32))) 18 (vp_nar .byte ((Int32.toInt8 ((Int32.toUInt32 p0 >>> (Int32.toUInt32 8 &&& Int32.toUInt32 31)).toInt32)).toInt32)))))] := hD_11
  have hS := hS_11
  clear hP_11 hD_11 hS_11
  refine lv_aload_n hx hb dX10_putFour_30 rfl (lv_at hl 1 rfl) ?_
  refine lv_dup hx hb dX10_putFour_31 rfl ?_
  refine va_get (D := D) (ci := 10) (v := .int 18) (C := RX10) (T := TX10) (N := 20) hx hb hg inGX10 hown hK hP 0 rfl rfl 1 (by decide) (hg _ q_2_104) (fun _ h9 => h9) (px_ss (px_ss hx_1)) dX10_putFour_32 ?_
  refine lv_iconst (v := 1) hx hb dX10_putFour_35 (by decide) ?_
  refine lv_iadd hx hb dX10_putFour_36 ?_
  refine px_top (v := 19) (by decide) ?_
  refine va_put (D := D) (ci := 10) (v := .int 19) (ty := .int) (C := RX10) (T := TX10) (N := 20) hx hb hg inGX10 tyX10 tyX10_ok nmX10 hown hK hP hD hS 0 rfl rfl 1 (by decide) (hg _ q_2_104) (fun _ h9 => h9) rfl (by decide +kernel) rfl rfl (px_len (px_ss (px_ss hx_1))) dX10_putFour_37 (fun H_12 locs_12 hP_12 hD_12 hS_12 => ?_)
  clear hP hD hS
  have hP : va_P D vwCl [(x, .inr (10, (((fx.set 1 (.int 17)).set 1 (.int 18)).set 1 (.int 19)))), (tp, .inl (y 0, 940, .inl (upd (upd (upd ftp 16 (vp_nar .byte ((Int32.toInt8 ((Int32.toUInt32 p0 >>> (Int32.toUInt32 24 &&& Int32.toUInt32 31)).toInt32)).toInt32))) 17 (vp_nar .byte ((Int32.toInt8 ((Int32.toUInt32 p0 >>> (Int32.toUInt32 16 &&& Int32.toUInt32 31)).toInt32)).toInt32))) 18 (vp_nar .byte ((Int32.toInt8 ((Int32.toUInt32 p0 >>> (Int32.toUInt32 8 &&& Int32.toUInt32 31)).toInt32)).toInt32)))))] H_12 := hP_12
  have hD : va_D A [(x, .inr (10, (((fx.set 1 (.int 17)).set 1 (.int 18)).set 1 (.int 19)))), (tp, .inl (y 0, 940, .inl (upd (upd (upd ftp 16 (vp_nar .byte ((Int32.toInt8 ((Int32.toUInt32 p0 >>> (Int32.toUInt32 24 &&& Int32.toUInt32 31)).toInt32)).toInt32))) 17 (vp_nar .byte ((Int32.toInt8 ((Int32.toUInt32 p0 >>> (Int32.toUInt32 16 &&& Int32.toUInt32 31)).toInt32)).toInt32))) 18 (vp_nar .byte ((Int32.toInt8 ((Int32.toUInt32 p0 >>> (Int32.toUInt32 8 &&& Int32.toUInt32 31)).toInt32)).toInt32)))))] := hD_12
  have hS := hS_12
  clear hP_12 hD_12 hS_12
  refine lv_iinc (v := 0) (lv' := [(2, .int 0), (0, .ref x), (1, .int p0)]) hx hb dX10_putFour_40 hl (k := 0) rfl (by decide) (by decide) rfl (fun ls hl => ?_)
  refine lv_goto (tgt := 3) hx hb dX10_putFour_43 (by decide) ?_
  refine lv_iload_n hx hb dX10_putFour_3 rfl (lv_at hl 0 rfl) ?_
  refine lv_if_lt (tgt := 46) hx hb dX10_putFour_4 (by decide) (fun c_13 => absurd c_13 (by decide)) (fun _ => ?_)
  refine lv_aload_n hx hb dX10_putFour_7 rfl (lv_at hl 1 rfl) ?_
  refine va_get (D := D) (ci := 10) (v := .int 19) (C := RX10) (T := TX10) (N := 20) hx hb hg inGX10 hown hK hP 0 rfl rfl 1 (by decide) (hg _ q_2_104) (fun _ h9 => h9) (px_ss (px_ss (px_ss hx_1))) dX10_putFour_8 ?_
  refine lv_sipush (v := 940) hx hb dX10_putFour_11 (by decide) ?_
  refine lv_icmp_ge (tgt := 46) hx hb dX10_putFour_14 (by decide) (fun c_14 => absurd c_14 (by decide)) (fun _ => ?_)
  refine lv_aload_n hx hb dX10_putFour_17 rfl (lv_at hl 1 rfl) ?_
  refine va_get (D := D) (ci := 10) (v := .ref tp) (C := RX10) (T := TX10) (N := 20) hx hb hg inGX10 hown hK hP 0 rfl rfl 0 (by decide) (hg _ q_2_103) (fun _ h9 => h9) (px_sn (by decide) (px_sn (by decide) (px_sn (by decide) hx_0))) dX10_putFour_18 ?_
  refine lv_aload_n hx hb dX10_putFour_21 rfl (lv_at hl 1 rfl) ?_
  refine va_get (D := D) (ci := 10) (v := .int 19) (C := RX10) (T := TX10) (N := 20) hx hb hg inGX10 hown hK hP 0 rfl rfl 1 (by decide) (hg _ q_2_104) (fun _ h9 => h9) (px_ss (px_ss (px_ss hx_1))) dX10_putFour_22 ?_
  refine lv_iload_n hx hb dX10_putFour_25 rfl (lv_at hl 2 rfl) ?_
  refine lv_iload_n hx hb dX10_putFour_26 rfl (lv_at hl 0 rfl) ?_
  refine lv_iushr hx hb dX10_putFour_27 rfl ?_
  refine lv_i2b hx hb dX10_putFour_28 rfl ?_
  refine va_bast hx hb hK hP hD hS 1 0 rfl rfl (i := 19) (px_in (by decide)) dX10_putFour_29 (fun H_15 locs_15 hP_15 hD_15 hS_15 => ?_)
  clear hP hD hS
  have hP : va_P D vwCl [(x, .inr (10, (((fx.set 1 (.int 17)).set 1 (.int 18)).set 1 (.int 19)))), (tp, .inl (y 0, 940, .inl (upd (upd (upd (upd ftp 16 (vp_nar .byte ((Int32.toInt8 ((Int32.toUInt32 p0 >>> (Int32.toUInt32 24 &&& Int32.toUInt32 31)).toInt32)).toInt32))) 17 (vp_nar .byte ((Int32.toInt8 ((Int32.toUInt32 p0 >>> (Int32.toUInt32 16 &&& Int32.toUInt32 31)).toInt32)).toInt32))) 18 (vp_nar .byte ((Int32.toInt8 ((Int32.toUInt32 p0 >>> (Int32.toUInt32 8 &&& Int32.toUInt32 31)).toInt32)).toInt32))) 19 (vp_nar .byte ((Int32.toInt8 ((Int32.toUInt32 p0 >>> (Int32.toUInt32 0 &&& Int32.toUInt32 31)).toInt32)).toInt32)))))] H_15 := hP_15
  have hD : va_D A [(x, .inr (10, (((fx.set 1 (.int 17)).set 1 (.int 18)).set 1 (.int 19)))), (tp, .inl (y 0, 940, .inl (upd (upd (upd (upd ftp 16 (vp_nar .byte ((Int32.toInt8 ((Int32.toUInt32 p0 >>> (Int32.toUInt32 24 &&& Int32.toUInt32 31)).toInt32)).toInt32))) 17 (vp_nar .byte ((Int32.toInt8 ((Int32.toUInt32 p0 >>> (Int32.toUInt32 16 &&& Int32.toUInt32 31)).toInt32)).toInt32))) 18 (vp_nar .byte ((Int32.toInt8 ((Int32.toUInt32 p0 >>> (Int32.toUInt32 8 &&& Int32.toUInt32 31)).toInt32)).toInt32))) 19 (vp_nar .byte ((Int32.toInt8 ((Int32.toUInt32 p0 >>> (Int32.toUInt32 0 &&& Int32.toUInt32 31)).toInt32)).toInt32)))))] := hD_15
  have hS := hS_15
  clear hP_15 hD_15 hS_15
  refine lv_aload_n hx hb dX10_putFour_30 rfl (lv_at hl 1 rfl) ?_
  refine lv_dup hx hb dX10_putFour_31 rfl ?_
  refine va_get (D := D) (ci := 10) (v := .int 19) (C := RX10) (T := TX10) (N := 20) hx hb hg inGX10 hown hK hP 0 rfl rfl 1 (by decide) (hg _ q_2_104) (fun _ h9 => h9) (px_ss (px_ss (px_ss hx_1))) dX10_putFour_32 ?_
  refine lv_iconst (v := 1) hx hb dX10_putFour_35 (by decide) ?_
  refine lv_iadd hx hb dX10_putFour_36 ?_
  refine px_top (v := 20) (by decide) ?_
  refine va_put (D := D) (ci := 10) (v := .int 20) (ty := .int) (C := RX10) (T := TX10) (N := 20) hx hb hg inGX10 tyX10 tyX10_ok nmX10 hown hK hP hD hS 0 rfl rfl 1 (by decide) (hg _ q_2_104) (fun _ h9 => h9) rfl (by decide +kernel) rfl rfl (px_len (px_ss (px_ss (px_ss hx_1)))) dX10_putFour_37 (fun H_16 locs_16 hP_16 hD_16 hS_16 => ?_)
  clear hP hD hS
  have hP : va_P D vwCl [(x, .inr (10, ((((fx.set 1 (.int 17)).set 1 (.int 18)).set 1 (.int 19)).set 1 (.int 20)))), (tp, .inl (y 0, 940, .inl (upd (upd (upd (upd ftp 16 (vp_nar .byte ((Int32.toInt8 ((Int32.toUInt32 p0 >>> (Int32.toUInt32 24 &&& Int32.toUInt32 31)).toInt32)).toInt32))) 17 (vp_nar .byte ((Int32.toInt8 ((Int32.toUInt32 p0 >>> (Int32.toUInt32 16 &&& Int32.toUInt32 31)).toInt32)).toInt32))) 18 (vp_nar .byte ((Int32.toInt8 ((Int32.toUInt32 p0 >>> (Int32.toUInt32 8 &&& Int32.toUInt32 31)).toInt32)).toInt32))) 19 (vp_nar .byte ((Int32.toInt8 ((Int32.toUInt32 p0 >>> (Int32.toUInt32 0 &&& Int32.toUInt32 31)).toInt32)).toInt32)))))] H_16 := hP_16
  have hD : va_D A [(x, .inr (10, ((((fx.set 1 (.int 17)).set 1 (.int 18)).set 1 (.int 19)).set 1 (.int 20)))), (tp, .inl (y 0, 940, .inl (upd (upd (upd (upd ftp 16 (vp_nar .byte ((Int32.toInt8 ((Int32.toUInt32 p0 >>> (Int32.toUInt32 24 &&& Int32.toUInt32 31)).toInt32)).toInt32))) 17 (vp_nar .byte ((Int32.toInt8 ((Int32.toUInt32 p0 >>> (Int32.toUInt32 16 &&& Int32.toUInt32 31)).toInt32)).toInt32))) 18 (vp_nar .byte ((Int32.toInt8 ((Int32.toUInt32 p0 >>> (Int32.toUInt32 8 &&& Int32.toUInt32 31)).toInt32)).toInt32))) 19 (vp_nar .byte ((Int32.toInt8 ((Int32.toUInt32 p0 >>> (Int32.toUInt32 0 &&& Int32.toUInt32 31)).toInt32)).toInt32)))))] := hD_16
  have hS := hS_16
  clear hP_16 hD_16 hS_16
  refine lv_iinc (v := (-8)) (lv' := [(2, .int (-8)), (0, .ref x), (1, .int p0)]) hx hb dX10_putFour_40 hl (k := 0) rfl (by decide) (by decide) rfl (fun ls hl => ?_)
  refine lv_goto (tgt := 3) hx hb dX10_putFour_43 (by decide) ?_
  refine lv_iload_n hx hb dX10_putFour_3 rfl (lv_at hl 0 rfl) ?_
  refine lv_if_lt (tgt := 46) hx hb dX10_putFour_4 (by decide) (fun _ => ?_) (fun c_17 => absurd c_17 (by decide))
  have hP9 := hP.sub (ws' := [(x, .inr (10, ((((fx.set 1 (.int 17)).set 1 (.int 18)).set 1 (.int 19)).set 1 (.int 20)))), (tp, .inl (y 0, 940, .inl (upd (upd (upd (upd ftp 16 (vp_nar .byte ((Int32.toInt8 ((Int32.toUInt32 p0 >>> (Int32.toUInt32 24 &&& Int32.toUInt32 31)).toInt32)).toInt32))) 17 (vp_nar .byte ((Int32.toInt8 ((Int32.toUInt32 p0 >>> (Int32.toUInt32 16 &&& Int32.toUInt32 31)).toInt32)).toInt32))) 18 (vp_nar .byte ((Int32.toInt8 ((Int32.toUInt32 p0 >>> (Int32.toUInt32 8 &&& Int32.toUInt32 31)).toInt32)).toInt32))) 19 (vp_nar .byte ((Int32.toInt8 ((Int32.toUInt32 p0 >>> (Int32.toUInt32 0 &&& Int32.toUInt32 31)).toInt32)).toInt32)))))]) [0, 1] rfl
  have hD9 := hD.sub (ws' := [(x, .inr (10, ((((fx.set 1 (.int 17)).set 1 (.int 18)).set 1 (.int 19)).set 1 (.int 20)))), (tp, .inl (y 0, 940, .inl (upd (upd (upd (upd ftp 16 (vp_nar .byte ((Int32.toInt8 ((Int32.toUInt32 p0 >>> (Int32.toUInt32 24 &&& Int32.toUInt32 31)).toInt32)).toInt32))) 17 (vp_nar .byte ((Int32.toInt8 ((Int32.toUInt32 p0 >>> (Int32.toUInt32 16 &&& Int32.toUInt32 31)).toInt32)).toInt32))) 18 (vp_nar .byte ((Int32.toInt8 ((Int32.toUInt32 p0 >>> (Int32.toUInt32 8 &&& Int32.toUInt32 31)).toInt32)).toInt32))) 19 (vp_nar .byte ((Int32.toInt8 ((Int32.toUInt32 p0 >>> (Int32.toUInt32 0 &&& Int32.toUInt32 31)).toInt32)).toInt32)))))]) [0, 1] (by decide +kernel) rfl
  exact W.vret hx hb hr (fun t ht hW => ⟨⟨(px_v [], px_vi [(upd (upd (upd (upd ftp 16 (vp_nar .byte ((Int32.toInt8 ((Int32.toUInt32 p0 >>> (Int32.toUInt32 24 &&& Int32.toUInt32 31)).toInt32)).toInt32))) 17 (vp_nar .byte ((Int32.toInt8 ((Int32.toUInt32 p0 >>> (Int32.toUInt32 16 &&& Int32.toUInt32 31)).toInt32)).toInt32))) 18 (vp_nar .byte ((Int32.toInt8 ((Int32.toUInt32 p0 >>> (Int32.toUInt32 8 &&& Int32.toUInt32 31)).toInt32)).toInt32))) 19 (vp_nar .byte ((Int32.toInt8 ((Int32.toUInt32 p0 >>> (Int32.toUInt32 0 &&& Int32.toUInt32 31)).toInt32)).toInt32)))], px_vl []), rfl, trivial, by rw [ht]; exact hP9, hD9⟩, hS.F ht⟩) hS.2.2 dX10_putFour_46

set_option maxHeartbeats 4000000 in
set_option maxRecDepth 100000 in
theorem c_X10_feed (l : Launch) (D : va_G) (y : Nat → ClassId) (sz : Nat) (x : Nat) (fx : List Value) (tp : Nat) (ftp : Nat → Int32) (p0 : Int32) (p1 : Int32) (p2 : Int32) (p3 : Int32) (p4 : Int32) (hx_0 : fx[0]? = some (.ref tp)) (hx_1 : fx[1]? = some (.int 0)) : Met l yX10_feed (px_w yX10_feed cX10_feed 6 (some .int)) ({ frames := 1, cells := 0, slots := 0, locals := 22 }) (va_Pc [.ref x, .int p0, .int p1, .int p2, .int p3, .int p4] (px_P D y sz [(x, .inr (10, fx)), (tp, .inl (y 0, 940, .inl ftp))])) (va_Qi (fun (r : Int32) (u : Unit) => r = 20) (fun (u : Unit) t => True) (va_A [(x, .inr (10, fx)), (tp, .inl (y 0, 940, .inl ftp))] sz)) 0 0 (va_A [(x, .inr (10, fx)), (tp, .inl (y 0, 940, .inl ftp))] sz) := by
  refine Met.ofW (cc := cX10_feed) (maxL := 6) (ret := (some .int)) (by decide) rfl ?_
  intro p e s m args below meth c s₁ B hml hv
  obtain ⟨rfl, hsz, hP, hK, hD0⟩ := hv
  have hx := B.exec
  have hb := B.bytes
  have hr := B.returns
  have hts := atoms_spec (ws := px_w yX10_feed cX10_feed 6 (some .int)) B.pre
  have hg : ∀ w ∈ gw, w.before [.ref x, .int p0, .int p1, .int p2, .int p3, .int p4].toArray s = true := fun w h => hts w (List.mem_cons_of_mem _ h)
  have hown : s.vm.findClass RX10 = some m.cls := findClass_of_methodNamed B.named
  have hlocks := B.notSynchronized
  subst hsz
  have hD := hD0.self (sz := s.heap.size)
  generalize hAe : va_A [(x, .inr (10, fx)), (tp, .inl (y 0, 940, .inl ftp))] s.heap.size = A at hD ⊢
  have hA : ∀ q : Nat, s.heap.size ≤ q → A q := fun q h => by rw [← hAe]; exact Or.inr h
  have hS : va_S A s.heap s.heap [] := va_S.rf
  have hP : va_P D vwCl [(x, .inr (10, fx)), (tp, .inl (y 0, 940, .inl ftp))] s.heap := hP
  have hl := lv_entry ([.ref x, .int p0, .int p1, .int p2, .int p3, .int p4]) (n := 6) (Nat.le_of_ble_eq_true rfl)
  rw [lg_entry_eq]
  generalize (lg_sl ([.ref x, .int p0, .int p1, .int p2, .int p3, .int p4]) ++ List.replicate (6 - (lg_sl ([.ref x, .int p0, .int p1, .int p2, .int p3, .int p4])).length) Slot.unset).toArray = ls at hl ⊢
  have hl : lv_has ls 6 [(0, .ref x), (1, .int p0), (2, .int p1), (3, .int p2), (4, .int p3), (5, .int p4)] := hl
  refine lv_aload_n hx hb dX10_feed_0 rfl (lv_at hl 0 rfl) ?_
  refine va_get (D := D) (ci := 10) (v := .int 0) (C := RX10) (T := TX10) (N := 20) hx hb hg inGX10 hown hK hP 0 rfl rfl 1 (by decide) (hg _ q_2_104) (fun _ h9 => h9) hx_1 dX10_feed_1 ?_
  refine lv_bipush (v := 20) hx hb dX10_feed_4 (by decide) ?_
  refine lv_iadd hx hb dX10_feed_6 ?_
  refine px_top (v := 20) (by decide) ?_
  refine lv_sipush (v := 940) hx hb dX10_feed_7 (by decide) ?_
  refine lv_icmp_le (tgt := 15) hx hb dX10_feed_10 (by decide) (fun _ => ?_) (fun c_1 => absurd c_1 (by decide))
  refine lv_aload_n hx hb dX10_feed_15 rfl (lv_at hl 0 rfl) ?_
  refine lv_iload_n hx hb dX10_feed_16 rfl (lv_at hl 1 rfl) ?_
  have hPc_2 := hP.sub (ws' := [(x, .inr (10, fx)), (tp, .inl (y 0, 940, .inl ftp))]) [0, 1] rfl
  have hDc_2 := hD.sub (ws' := [(x, .inr (10, fx)), (tp, .inl (y 0, 940, .inl ftp))]) [0, 1] (by decide +kernel) rfl
  have hFc_2 := va_free (wc := [(x, .inr (10, fx)), (tp, .inl (y 0, 940, .inl ftp))]) hD hS hA [0, 1] rfl
  refine va_callv (va_runV (As := [.int p0]) (rest := []) ⟨hx, hb, hml, hown, hg⟩ (c_X10_putFour_0 l D y s.heap.size x fx tp ftp p0 hx_0 hx_1) (cwV 1 hg (px_gV q_2_168 q_2_170 q_p_0 q_1_1 q_2_171) rfl rfl rfl (by decide +kernel) ⟨Nat.le_of_ble_eq_true rfl, Nat.le_of_ble_eq_true rfl⟩) (px_preV hK hPc_2 hDc_2 (ci := 10) (q0 := 0) rfl rfl) rfl rfl hl.1 rfl (lv_room (Nat.le_of_ble_eq_true rfl)) dX10_feed_17 ⟨Nat.le_of_ble_eq_true rfl, Nat.le_of_ble_eq_true rfl⟩) hS (fun q _ h => hFc_2 q h) hFc_2 (fun u_2 t_2 H_2 locs_2 ht_2 hvm_2 hw_2 hB_2 hz_2 hk_2 hS_2 => ?_)
  refine W.cs (cells' := 0) (slots' := 0) rfl rfl ?_
  obtain ⟨hP1_2, hD1_2⟩ := hB_2
  rw [ht_2] at hP1_2
  obtain ⟨hP_2, hD_2⟩ := va_join (wr := []) (w1 := [(x, .inr (10, ((((fx.set 1 (.int 1)).set 1 (.int 2)).set 1 (.int 3)).set 1 (.int 4)))), (tp, .inl (y 0, 940, .inl (u_2.2.1 0)))]) hP hD [0, 1] [] rfl rfl (by decide +kernel) (by decide +kernel) hk_2 hFc_2 hP1_2 hD1_2
  clear hP hD hS hPc_2 hDc_2 hFc_2 hz_2 hk_2 hvm_2 ht_2 hP1_2 hD1_2
  have hP : va_P D vwCl [(x, .inr (10, ((((fx.set 1 (.int 1)).set 1 (.int 2)).set 1 (.int 3)).set 1 (.int 4)))), (tp, .inl (y 0, 940, .inl (u_2.2.1 0)))] H_2 := hP_2
  have hD : va_D A [(x, .inr (10, ((((fx.set 1 (.int 1)).set 1 (.int 2)).set 1 (.int 3)).set 1 (.int 4)))), (tp, .inl (y 0, 940, .inl (u_2.2.1 0)))] := hD_2
  have hS := hS_2
  clear hP_2 hD_2 hS_2
  refine lv_aload_n hx hb dX10_feed_20 rfl (lv_at hl 0 rfl) ?_
  refine lv_iload_n hx hb dX10_feed_21 rfl (lv_at hl 2 rfl) ?_
  have hPc_3 := hP.sub (ws' := [(x, .inr (10, ((((fx.set 1 (.int 1)).set 1 (.int 2)).set 1 (.int 3)).set 1 (.int 4)))), (tp, .inl (y 0, 940, .inl (u_2.2.1 0)))]) [0, 1] rfl
  have hDc_3 := hD.sub (ws' := [(x, .inr (10, ((((fx.set 1 (.int 1)).set 1 (.int 2)).set 1 (.int 3)).set 1 (.int 4)))), (tp, .inl (y 0, 940, .inl (u_2.2.1 0)))]) [0, 1] (by decide +kernel) rfl
  have hFc_3 := va_free (wc := [(x, .inr (10, ((((fx.set 1 (.int 1)).set 1 (.int 2)).set 1 (.int 3)).set 1 (.int 4)))), (tp, .inl (y 0, 940, .inl (u_2.2.1 0)))]) hD hS hA [0, 1] rfl
  refine va_callv (va_runV (As := [.int p1]) (rest := []) ⟨hx, hb, hml, hown, hg⟩ (c_X10_putFour_4 l D y H_2.size x ((((fx.set 1 (.int 1)).set 1 (.int 2)).set 1 (.int 3)).set 1 (.int 4)) tp (u_2.2.1 0) p1 (px_sn (by decide) (px_sn (by decide) (px_sn (by decide) (px_sn (by decide) hx_0)))) (px_ss (px_ss (px_ss (px_ss hx_1))))) (cwV 1 hg (px_gV q_2_168 q_2_170 q_p_0 q_1_1 q_2_171) rfl rfl rfl (by decide +kernel) ⟨Nat.le_of_ble_eq_true rfl, Nat.le_of_ble_eq_true rfl⟩) (px_preV hK hPc_3 hDc_3 (ci := 10) (q0 := 0) rfl rfl) rfl rfl hl.1 rfl (lv_room (Nat.le_of_ble_eq_true rfl)) dX10_feed_22 ⟨Nat.le_of_ble_eq_true rfl, Nat.le_of_ble_eq_true rfl⟩) hS (fun q _ h => hFc_3 q h) hFc_3 (fun u_3 t_3 H_3 locs_3 ht_3 hvm_3 hw_3 hB_3 hz_3 hk_3 hS_3 => ?_)
  refine W.cs (cells' := 0) (slots' := 0) rfl rfl ?_
  obtain ⟨hP1_3, hD1_3⟩ := hB_3
  rw [ht_3] at hP1_3
  obtain ⟨hP_3, hD_3⟩ := va_join (wr := []) (w1 := [(x, .inr (10, ((((((((fx.set 1 (.int 1)).set 1 (.int 2)).set 1 (.int 3)).set 1 (.int 4)).set 1 (.int 5)).set 1 (.int 6)).set 1 (.int 7)).set 1 (.int 8)))), (tp, .inl (y 0, 940, .inl (u_3.2.1 0)))]) hP hD [0, 1] [] rfl rfl (by decide +kernel) (by decide +kernel) hk_3 hFc_3 hP1_3 hD1_3
  clear hP hD hS hPc_3 hDc_3 hFc_3 hz_3 hk_3 hvm_3 ht_3 hP1_3 hD1_3
  have hP : va_P D vwCl [(x, .inr (10, ((((((((fx.set 1 (.int 1)).set 1 (.int 2)).set 1 (.int 3)).set 1 (.int 4)).set 1 (.int 5)).set 1 (.int 6)).set 1 (.int 7)).set 1 (.int 8)))), (tp, .inl (y 0, 940, .inl (u_3.2.1 0)))] H_3 := hP_3
  have hD : va_D A [(x, .inr (10, ((((((((fx.set 1 (.int 1)).set 1 (.int 2)).set 1 (.int 3)).set 1 (.int 4)).set 1 (.int 5)).set 1 (.int 6)).set 1 (.int 7)).set 1 (.int 8)))), (tp, .inl (y 0, 940, .inl (u_3.2.1 0)))] := hD_3
  have hS := hS_3
  clear hP_3 hD_3 hS_3
  refine lv_aload_n hx hb dX10_feed_25 rfl (lv_at hl 0 rfl) ?_
  refine lv_iload_n hx hb dX10_feed_26 rfl (lv_at hl 3 rfl) ?_
  have hPc_4 := hP.sub (ws' := [(x, .inr (10, ((((((((fx.set 1 (.int 1)).set 1 (.int 2)).set 1 (.int 3)).set 1 (.int 4)).set 1 (.int 5)).set 1 (.int 6)).set 1 (.int 7)).set 1 (.int 8)))), (tp, .inl (y 0, 940, .inl (u_3.2.1 0)))]) [0, 1] rfl
  have hDc_4 := hD.sub (ws' := [(x, .inr (10, ((((((((fx.set 1 (.int 1)).set 1 (.int 2)).set 1 (.int 3)).set 1 (.int 4)).set 1 (.int 5)).set 1 (.int 6)).set 1 (.int 7)).set 1 (.int 8)))), (tp, .inl (y 0, 940, .inl (u_3.2.1 0)))]) [0, 1] (by decide +kernel) rfl
  have hFc_4 := va_free (wc := [(x, .inr (10, ((((((((fx.set 1 (.int 1)).set 1 (.int 2)).set 1 (.int 3)).set 1 (.int 4)).set 1 (.int 5)).set 1 (.int 6)).set 1 (.int 7)).set 1 (.int 8)))), (tp, .inl (y 0, 940, .inl (u_3.2.1 0)))]) hD hS hA [0, 1] rfl
  refine va_callv (va_runV (As := [.int p2]) (rest := []) ⟨hx, hb, hml, hown, hg⟩ (c_X10_putFour_8 l D y H_3.size x ((((((((fx.set 1 (.int 1)).set 1 (.int 2)).set 1 (.int 3)).set 1 (.int 4)).set 1 (.int 5)).set 1 (.int 6)).set 1 (.int 7)).set 1 (.int 8)) tp (u_3.2.1 0) p2 (px_sn (by decide) (px_sn (by decide) (px_sn (by decide) (px_sn (by decide) (px_sn (by decide) (px_sn (by decide) (px_sn (by decide) (px_sn (by decide) hx_0)))))))) (px_ss (px_ss (px_ss (px_ss (px_ss (px_ss (px_ss (px_ss hx_1))))))))) (cwV 1 hg (px_gV q_2_168 q_2_170 q_p_0 q_1_1 q_2_171) rfl rfl rfl (by decide +kernel) ⟨Nat.le_of_ble_eq_true rfl, Nat.le_of_ble_eq_true rfl⟩) (px_preV hK hPc_4 hDc_4 (ci := 10) (q0 := 0) rfl rfl) rfl rfl hl.1 rfl (lv_room (Nat.le_of_ble_eq_true rfl)) dX10_feed_27 ⟨Nat.le_of_ble_eq_true rfl, Nat.le_of_ble_eq_true rfl⟩) hS (fun q _ h => hFc_4 q h) hFc_4 (fun u_4 t_4 H_4 locs_4 ht_4 hvm_4 hw_4 hB_4 hz_4 hk_4 hS_4 => ?_)
  refine W.cs (cells' := 0) (slots' := 0) rfl rfl ?_
  obtain ⟨hP1_4, hD1_4⟩ := hB_4
  rw [ht_4] at hP1_4
  obtain ⟨hP_4, hD_4⟩ := va_join (wr := []) (w1 := [(x, .inr (10, ((((((((((((fx.set 1 (.int 1)).set 1 (.int 2)).set 1 (.int 3)).set 1 (.int 4)).set 1 (.int 5)).set 1 (.int 6)).set 1 (.int 7)).set 1 (.int 8)).set 1 (.int 9)).set 1 (.int 10)).set 1 (.int 11)).set 1 (.int 12)))), (tp, .inl (y 0, 940, .inl (u_4.2.1 0)))]) hP hD [0, 1] [] rfl rfl (by decide +kernel) (by decide +kernel) hk_4 hFc_4 hP1_4 hD1_4
  clear hP hD hS hPc_4 hDc_4 hFc_4 hz_4 hk_4 hvm_4 ht_4 hP1_4 hD1_4
  have hP : va_P D vwCl [(x, .inr (10, ((((((((((((fx.set 1 (.int 1)).set 1 (.int 2)).set 1 (.int 3)).set 1 (.int 4)).set 1 (.int 5)).set 1 (.int 6)).set 1 (.int 7)).set 1 (.int 8)).set 1 (.int 9)).set 1 (.int 10)).set 1 (.int 11)).set 1 (.int 12)))), (tp, .inl (y 0, 940, .inl (u_4.2.1 0)))] H_4 := hP_4
  have hD : va_D A [(x, .inr (10, ((((((((((((fx.set 1 (.int 1)).set 1 (.int 2)).set 1 (.int 3)).set 1 (.int 4)).set 1 (.int 5)).set 1 (.int 6)).set 1 (.int 7)).set 1 (.int 8)).set 1 (.int 9)).set 1 (.int 10)).set 1 (.int 11)).set 1 (.int 12)))), (tp, .inl (y 0, 940, .inl (u_4.2.1 0)))] := hD_4
  have hS := hS_4
  clear hP_4 hD_4 hS_4
  refine lv_aload_n hx hb dX10_feed_30 rfl (lv_at hl 0 rfl) ?_
  refine lv_iload hx hb dX10_feed_31 (lv_at hl 4 rfl) ?_
  have hPc_5 := hP.sub (ws' := [(x, .inr (10, ((((((((((((fx.set 1 (.int 1)).set 1 (.int 2)).set 1 (.int 3)).set 1 (.int 4)).set 1 (.int 5)).set 1 (.int 6)).set 1 (.int 7)).set 1 (.int 8)).set 1 (.int 9)).set 1 (.int 10)).set 1 (.int 11)).set 1 (.int 12)))), (tp, .inl (y 0, 940, .inl (u_4.2.1 0)))]) [0, 1] rfl
  have hDc_5 := hD.sub (ws' := [(x, .inr (10, ((((((((((((fx.set 1 (.int 1)).set 1 (.int 2)).set 1 (.int 3)).set 1 (.int 4)).set 1 (.int 5)).set 1 (.int 6)).set 1 (.int 7)).set 1 (.int 8)).set 1 (.int 9)).set 1 (.int 10)).set 1 (.int 11)).set 1 (.int 12)))), (tp, .inl (y 0, 940, .inl (u_4.2.1 0)))]) [0, 1] (by decide +kernel) rfl
  have hFc_5 := va_free (wc := [(x, .inr (10, ((((((((((((fx.set 1 (.int 1)).set 1 (.int 2)).set 1 (.int 3)).set 1 (.int 4)).set 1 (.int 5)).set 1 (.int 6)).set 1 (.int 7)).set 1 (.int 8)).set 1 (.int 9)).set 1 (.int 10)).set 1 (.int 11)).set 1 (.int 12)))), (tp, .inl (y 0, 940, .inl (u_4.2.1 0)))]) hD hS hA [0, 1] rfl
  refine va_callv (va_runV (As := [.int p3]) (rest := []) ⟨hx, hb, hml, hown, hg⟩ (c_X10_putFour_12 l D y H_4.size x ((((((((((((fx.set 1 (.int 1)).set 1 (.int 2)).set 1 (.int 3)).set 1 (.int 4)).set 1 (.int 5)).set 1 (.int 6)).set 1 (.int 7)).set 1 (.int 8)).set 1 (.int 9)).set 1 (.int 10)).set 1 (.int 11)).set 1 (.int 12)) tp (u_4.2.1 0) p3 (px_sn (by decide) (px_sn (by decide) (px_sn (by decide) (px_sn (by decide) (px_sn (by decide) (px_sn (by decide) (px_sn (by decide) (px_sn (by decide) (px_sn (by decide) (px_sn (by decide) (px_sn (by decide) (px_sn (by decide) hx_0)))))))))))) (px_ss (px_ss (px_ss (px_ss (px_ss (px_ss (px_ss (px_ss (px_ss (px_ss (px_ss (px_ss hx_1))))))))))))) (cwV 1 hg (px_gV q_2_168 q_2_170 q_p_0 q_1_1 q_2_171) rfl rfl rfl (by decide +kernel) ⟨Nat.le_of_ble_eq_true rfl, Nat.le_of_ble_eq_true rfl⟩) (px_preV hK hPc_5 hDc_5 (ci := 10) (q0 := 0) rfl rfl) rfl rfl hl.1 rfl (lv_room (Nat.le_of_ble_eq_true rfl)) dX10_feed_33 ⟨Nat.le_of_ble_eq_true rfl, Nat.le_of_ble_eq_true rfl⟩) hS (fun q _ h => hFc_5 q h) hFc_5 (fun u_5 t_5 H_5 locs_5 ht_5 hvm_5 hw_5 hB_5 hz_5 hk_5 hS_5 => ?_)
  refine W.cs (cells' := 0) (slots' := 0) rfl rfl ?_
  obtain ⟨hP1_5, hD1_5⟩ := hB_5
  rw [ht_5] at hP1_5
  obtain ⟨hP_5, hD_5⟩ := va_join (wr := []) (w1 := [(x, .inr (10, ((((((((((((((((fx.set 1 (.int 1)).set 1 (.int 2)).set 1 (.int 3)).set 1 (.int 4)).set 1 (.int 5)).set 1 (.int 6)).set 1 (.int 7)).set 1 (.int 8)).set 1 (.int 9)).set 1 (.int 10)).set 1 (.int 11)).set 1 (.int 12)).set 1 (.int 13)).set 1 (.int 14)).set 1 (.int 15)).set 1 (.int 16)))), (tp, .inl (y 0, 940, .inl (u_5.2.1 0)))]) hP hD [0, 1] [] rfl rfl (by decide +kernel) (by decide +kernel) hk_5 hFc_5 hP1_5 hD1_5
  clear hP hD hS hPc_5 hDc_5 hFc_5 hz_5 hk_5 hvm_5 ht_5 hP1_5 hD1_5
  have hP : va_P D vwCl [(x, .inr (10, ((((((((((((((((fx.set 1 (.int 1)).set 1 (.int 2)).set 1 (.int 3)).set 1 (.int 4)).set 1 (.int 5)).set 1 (.int 6)).set 1 (.int 7)).set 1 (.int 8)).set 1 (.int 9)).set 1 (.int 10)).set 1 (.int 11)).set 1 (.int 12)).set 1 (.int 13)).set 1 (.int 14)).set 1 (.int 15)).set 1 (.int 16)))), (tp, .inl (y 0, 940, .inl (u_5.2.1 0)))] H_5 := hP_5
  have hD : va_D A [(x, .inr (10, ((((((((((((((((fx.set 1 (.int 1)).set 1 (.int 2)).set 1 (.int 3)).set 1 (.int 4)).set 1 (.int 5)).set 1 (.int 6)).set 1 (.int 7)).set 1 (.int 8)).set 1 (.int 9)).set 1 (.int 10)).set 1 (.int 11)).set 1 (.int 12)).set 1 (.int 13)).set 1 (.int 14)).set 1 (.int 15)).set 1 (.int 16)))), (tp, .inl (y 0, 940, .inl (u_5.2.1 0)))] := hD_5
  have hS := hS_5
  clear hP_5 hD_5 hS_5
  refine lv_aload_n hx hb dX10_feed_36 rfl (lv_at hl 0 rfl) ?_
  refine lv_iload hx hb dX10_feed_37 (lv_at hl 5 rfl) ?_
  have hPc_6 := hP.sub (ws' := [(x, .inr (10, ((((((((((((((((fx.set 1 (.int 1)).set 1 (.int 2)).set 1 (.int 3)).set 1 (.int 4)).set 1 (.int 5)).set 1 (.int 6)).set 1 (.int 7)).set 1 (.int 8)).set 1 (.int 9)).set 1 (.int 10)).set 1 (.int 11)).set 1 (.int 12)).set 1 (.int 13)).set 1 (.int 14)).set 1 (.int 15)).set 1 (.int 16)))), (tp, .inl (y 0, 940, .inl (u_5.2.1 0)))]) [0, 1] rfl
  have hDc_6 := hD.sub (ws' := [(x, .inr (10, ((((((((((((((((fx.set 1 (.int 1)).set 1 (.int 2)).set 1 (.int 3)).set 1 (.int 4)).set 1 (.int 5)).set 1 (.int 6)).set 1 (.int 7)).set 1 (.int 8)).set 1 (.int 9)).set 1 (.int 10)).set 1 (.int 11)).set 1 (.int 12)).set 1 (.int 13)).set 1 (.int 14)).set 1 (.int 15)).set 1 (.int 16)))), (tp, .inl (y 0, 940, .inl (u_5.2.1 0)))]) [0, 1] (by decide +kernel) rfl
  have hFc_6 := va_free (wc := [(x, .inr (10, ((((((((((((((((fx.set 1 (.int 1)).set 1 (.int 2)).set 1 (.int 3)).set 1 (.int 4)).set 1 (.int 5)).set 1 (.int 6)).set 1 (.int 7)).set 1 (.int 8)).set 1 (.int 9)).set 1 (.int 10)).set 1 (.int 11)).set 1 (.int 12)).set 1 (.int 13)).set 1 (.int 14)).set 1 (.int 15)).set 1 (.int 16)))), (tp, .inl (y 0, 940, .inl (u_5.2.1 0)))]) hD hS hA [0, 1] rfl
  refine va_callv (va_runV (As := [.int p4]) (rest := []) ⟨hx, hb, hml, hown, hg⟩ (c_X10_putFour_16 l D y H_5.size x ((((((((((((((((fx.set 1 (.int 1)).set 1 (.int 2)).set 1 (.int 3)).set 1 (.int 4)).set 1 (.int 5)).set 1 (.int 6)).set 1 (.int 7)).set 1 (.int 8)).set 1 (.int 9)).set 1 (.int 10)).set 1 (.int 11)).set 1 (.int 12)).set 1 (.int 13)).set 1 (.int 14)).set 1 (.int 15)).set 1 (.int 16)) tp (u_5.2.1 0) p4 (px_sn (by decide) (px_sn (by decide) (px_sn (by decide) (px_sn (by decide) (px_sn (by decide) (px_sn (by decide) (px_sn (by decide) (px_sn (by decide) (px_sn (by decide) (px_sn (by decide) (px_sn (by decide) (px_sn (by decide) (px_sn (by decide) (px_sn (by decide) (px_sn (by decide) (px_sn (by decide) hx_0)))))))))))))))) (px_ss (px_ss (px_ss (px_ss (px_ss (px_ss (px_ss (px_ss (px_ss (px_ss (px_ss (px_ss (px_ss (px_ss (px_ss (px_ss hx_1))))))))))))))))) (cwV 1 hg (px_gV q_2_168 q_2_170 q_p_0 q_1_1 q_2_171) rfl rfl rfl (by decide +kernel) ⟨Nat.le_of_ble_eq_true rfl, Nat.le_of_ble_eq_true rfl⟩) (px_preV hK hPc_6 hDc_6 (ci := 10) (q0 := 0) rfl rfl) rfl rfl hl.1 rfl (lv_room (Nat.le_of_ble_eq_true rfl)) dX10_feed_39 ⟨Nat.le_of_ble_eq_true rfl, Nat.le_of_ble_eq_true rfl⟩) hS (fun q _ h => hFc_6 q h) hFc_6 (fun u_6 t_6 H_6 locs_6 ht_6 hvm_6 hw_6 hB_6 hz_6 hk_6 hS_6 => ?_)
  refine W.cs (cells' := 0) (slots' := 0) rfl rfl ?_
  obtain ⟨hP1_6, hD1_6⟩ := hB_6
  rw [ht_6] at hP1_6
  obtain ⟨hP_6, hD_6⟩ := va_join (wr := []) (w1 := [(x, .inr (10, ((((((((((((((((((((fx.set 1 (.int 1)).set 1 (.int 2)).set 1 (.int 3)).set 1 (.int 4)).set 1 (.int 5)).set 1 (.int 6)).set 1 (.int 7)).set 1 (.int 8)).set 1 (.int 9)).set 1 (.int 10)).set 1 (.int 11)).set 1 (.int 12)).set 1 (.int 13)).set 1 (.int 14)).set 1 (.int 15)).set 1 (.int 16)).set 1 (.int 17)).set 1 (.int 18)).set 1 (.int 19)).set 1 (.int 20)))), (tp, .inl (y 0, 940, .inl (u_6.2.1 0)))]) hP hD [0, 1] [] rfl rfl (by decide +kernel) (by decide +kernel) hk_6 hFc_6 hP1_6 hD1_6
  clear hP hD hS hPc_6 hDc_6 hFc_6 hz_6 hk_6 hvm_6 ht_6 hP1_6 hD1_6
  have hP : va_P D vwCl [(x, .inr (10, ((((((((((((((((((((fx.set 1 (.int 1)).set 1 (.int 2)).set 1 (.int 3)).set 1 (.int 4)).set 1 (.int 5)).set 1 (.int 6)).set 1 (.int 7)).set 1 (.int 8)).set 1 (.int 9)).set 1 (.int 10)).set 1 (.int 11)).set 1 (.int 12)).set 1 (.int 13)).set 1 (.int 14)).set 1 (.int 15)).set 1 (.int 16)).set 1 (.int 17)).set 1 (.int 18)).set 1 (.int 19)).set 1 (.int 20)))), (tp, .inl (y 0, 940, .inl (u_6.2.1 0)))] H_6 := hP_6
  have hD : va_D A [(x, .inr (10, ((((((((((((((((((((fx.set 1 (.int 1)).set 1 (.int 2)).set 1 (.int 3)).set 1 (.int 4)).set 1 (.int 5)).set 1 (.int 6)).set 1 (.int 7)).set 1 (.int 8)).set 1 (.int 9)).set 1 (.int 10)).set 1 (.int 11)).set 1 (.int 12)).set 1 (.int 13)).set 1 (.int 14)).set 1 (.int 15)).set 1 (.int 16)).set 1 (.int 17)).set 1 (.int 18)).set 1 (.int 19)).set 1 (.int 20)))), (tp, .inl (y 0, 940, .inl (u_6.2.1 0)))] := hD_6
  have hS := hS_6
  clear hP_6 hD_6 hS_6
  refine lv_aload_n hx hb dX10_feed_42 rfl (lv_at hl 0 rfl) ?_
  refine va_get (D := D) (ci := 10) (v := .int 20) (C := RX10) (T := TX10) (N := 20) hx hb hg inGX10 hown hK hP 0 rfl rfl 1 (by decide) (hg _ q_2_104) (fun _ h9 => h9) (px_ss (px_ss (px_ss (px_ss (px_ss (px_ss (px_ss (px_ss (px_ss (px_ss (px_ss (px_ss (px_ss (px_ss (px_ss (px_ss (px_ss (px_ss (px_ss (px_ss hx_1)))))))))))))))))))) dX10_feed_43 ?_
  exact W.iret (v := 20) hx hb hr (fun t ht hW => ⟨⟨_, (), rfl, rfl, trivial⟩, hS.F ht⟩) hS.2.2 dX10_feed_46

set_option maxHeartbeats 4000000 in
set_option maxRecDepth 100000 in
theorem c_X10_hasRulesOnTape (l : Launch) (D : va_G) (y : Nat → ClassId) (sz : Nat) (x : Nat) (fx : List Value) (g : Nat) (fg : List Value) (hx_3 : fx[3]? = some (.ref g)) (hg_1 : fg[1]? = some (.int 0)) : Met l yX10_hasRulesOnTape (px_w yX10_hasRulesOnTape cX10_hasRulesOnTape 2 (some .boolean)) ({ frames := 0, cells := 0, slots := 0, locals := 0 }) (va_Pc [.ref x] (px_P D y sz [(x, .inr (10, fx)), (g, .inr (2, fg))])) (vp_Si (fun r : Int32 => r = 0)) 0 0 (fun _ => False) := by
  refine Met.ofW (cc := cX10_hasRulesOnTape) (maxL := 2) (ret := (some .boolean)) (by decide) rfl ?_
  intro p e s m args below meth c s₁ B hml hv
  obtain ⟨rfl, hsz, hP, hK, hD0⟩ := hv
  have hx := B.exec
  have hb := B.bytes
  have hr := B.returns
  have hts := atoms_spec (ws := px_w yX10_hasRulesOnTape cX10_hasRulesOnTape 2 (some .boolean)) B.pre
  have hg : ∀ w ∈ gw, w.before [.ref x].toArray s = true := fun w h => hts w (List.mem_cons_of_mem _ h)
  have hown : s.vm.findClass RX10 = some m.cls := findClass_of_methodNamed B.named
  have hlocks := B.notSynchronized
  subst hsz
  have hD := hD0
  have hP : va_P D vwCl [(x, .inr (10, fx)), (g, .inr (2, fg))] s.heap := hP
  have hl := lv_entry ([.ref x]) (n := 2) (Nat.le_of_ble_eq_true rfl)
  rw [lg_entry_eq]
  generalize (lg_sl ([.ref x]) ++ List.replicate (2 - (lg_sl ([.ref x])).length) Slot.unset).toArray = ls at hl ⊢
  have hl : lv_has ls 2 [(0, .ref x)] := hl
  refine lv_aload_n hx hb dX10_hasRulesOnTape_0 rfl (lv_at hl 0 rfl) ?_
  refine va_get (D := D) (ci := 10) (v := .ref g) (C := RX10) (T := TX10) (N := 20) hx hb hg inGX10 hown hK hP 0 rfl rfl 3 (by decide) (hg _ q_2_106) (fun _ h9 => h9) hx_3 dX10_hasRulesOnTape_1 ?_
  refine va_get (D := D) (ci := 2) (v := .int 0) (C := RX2) (T := TX2) (N := 18) hx hb hg inGX2 hown hK hP 1 rfl rfl 1 (by decide) (hg _ q_1_73) (fun _ h9 => h9) hg_1 dX10_hasRulesOnTape_4 ?_
  refine lv_if_eq (tgt := 24) hx hb dX10_hasRulesOnTape_7 (by decide) (fun _ => ?_) (fun c_1 => absurd c_1 (by decide))
  refine lv_iconst (v := 0) hx hb dX10_hasRulesOnTape_24 (by decide) ?_
  exact W.zret (v := 0) hx hb hr (by decide) (fun t ht hW => ⟨_, rfl, rfl, ht⟩) (fun q h => by cases h) dX10_hasRulesOnTape_25

set_option maxHeartbeats 4000000 in
set_option maxRecDepth 100000 in
theorem c_X10_play (l : Launch) (D : va_G) (y : Nat → ClassId) (sz : Nat) (x : Nat) (fx : List Value) (g : Nat) (fg : List Value) (p0 : Int32) (hx_1 : fx[1]? = some (.int 0)) (hx_3 : fx[3]? = some (.ref g)) (hg_1 : fg[1]? = some (.int 0)) : Met l yX10_play (px_w yX10_play cX10_play 5 (some .int)) ({ frames := 1, cells := 0, slots := 0, locals := 21 }) (va_Pc [.ref x, .int p0] (px_P D y sz [(x, .inr (10, fx)), (g, .inr (2, fg))])) (va_Qi (fun (r : Int32) (u : Unit) => r = (-1)) (fun (u : Unit) t => True) (va_A [(x, .inr (10, fx)), (g, .inr (2, fg))] sz)) 0 0 (va_A [(x, .inr (10, fx)), (g, .inr (2, fg))] sz) := by
  refine Met.ofW (cc := cX10_play) (maxL := 5) (ret := (some .int)) (by decide) rfl ?_
  intro p e s m args below meth c s₁ B hml hv
  obtain ⟨rfl, hsz, hP, hK, hD0⟩ := hv
  have hx := B.exec
  have hb := B.bytes
  have hr := B.returns
  have hts := atoms_spec (ws := px_w yX10_play cX10_play 5 (some .int)) B.pre
  have hg : ∀ w ∈ gw, w.before [.ref x, .int p0].toArray s = true := fun w h => hts w (List.mem_cons_of_mem _ h)
  have hown : s.vm.findClass RX10 = some m.cls := findClass_of_methodNamed B.named
  have hlocks := B.notSynchronized
  subst hsz
  have hD := hD0.self (sz := s.heap.size)
  generalize hAe : va_A [(x, .inr (10, fx)), (g, .inr (2, fg))] s.heap.size = A at hD ⊢
  have hA : ∀ q : Nat, s.heap.size ≤ q → A q := fun q h => by rw [← hAe]; exact Or.inr h
  have hS : va_S A s.heap s.heap [] := va_S.rf
  have hP : va_P D vwCl [(x, .inr (10, fx)), (g, .inr (2, fg))] s.heap := hP
  have hl := lv_entry ([.ref x, .int p0]) (n := 5) (Nat.le_of_ble_eq_true rfl)
  rw [lg_entry_eq]
  generalize (lg_sl ([.ref x, .int p0]) ++ List.replicate (5 - (lg_sl ([.ref x, .int p0])).length) Slot.unset).toArray = ls at hl ⊢
  have hl : lv_has ls 5 [(0, .ref x), (1, .int p0)] := hl
  refine lv_iload_n hx hb dX10_play_0 rfl (lv_at hl 1 rfl) ?_
  refine lv_iconst (v := 1) hx hb dX10_play_1 (by decide) ?_
  refine lv_icmp_lt (tgt := 23) hx hb dX10_play_2 (by decide) (fun c_1 => ?_) (fun c_1 => ?_)
  · refine lv_iconst (v := 0) hx hb dX10_play_23 (by decide) ?_
    refine lv_istore_n (lv' := [(2, .int 0), (0, .ref x), (1, .int p0)]) hx hb dX10_play_24 rfl hl (by decide) rfl (fun ls hl => ?_)
    refine lv_aload_n hx hb dX10_play_25 rfl (lv_at hl 1 rfl) ?_
    refine lv_iconst (v := 0) hx hb dX10_play_26 (by decide) ?_
    refine va_put (D := D) (ci := 10) (v := .int 0) (ty := .int) (C := RX10) (T := TX10) (N := 20) hx hb hg inGX10 tyX10 tyX10_ok nmX10 hown hK hP hD hS 0 rfl rfl 1 (by decide) (hg _ q_2_104) (fun _ h9 => h9) rfl (by decide +kernel) rfl rfl (px_len hx_1) dX10_play_27 (fun H_2 locs_2 hP_2 hD_2 hS_2 => ?_)
    clear hP hD hS
    have hP : va_P D vwCl [(x, .inr (10, (fx.set 1 (.int 0)))), (g, .inr (2, fg))] H_2 := hP_2
    have hD : va_D A [(x, .inr (10, (fx.set 1 (.int 0)))), (g, .inr (2, fg))] := hD_2
    have hS := hS_2
    clear hP_2 hD_2 hS_2
    refine lv_iload_n hx hb dX10_play_30 rfl (lv_at hl 0 rfl) ?_
    refine lv_if_ne (tgt := 36) hx hb dX10_play_31 (by decide) (fun c_3 => absurd c_3 (by decide)) (fun _ => ?_)
    refine lv_iconst (v := (-1)) hx hb dX10_play_34 (by decide) ?_
    exact W.iret (v := (-1)) hx hb hr (fun t ht hW => ⟨⟨_, (), rfl, rfl, trivial⟩, hS.F ht⟩) hS.2.2 dX10_play_35
  · refine lv_iload_n hx hb dX10_play_5 rfl (lv_at hl 1 rfl) ?_
    refine lv_sipush (v := 400) hx hb dX10_play_6 (by decide) ?_
    refine lv_icmp_gt (tgt := 23) hx hb dX10_play_9 (by decide) (fun c_4 => ?_) (fun c_4 => ?_)
    · refine lv_iconst (v := 0) hx hb dX10_play_23 (by decide) ?_
      refine lv_istore_n (lv' := [(2, .int 0), (0, .ref x), (1, .int p0)]) hx hb dX10_play_24 rfl hl (by decide) rfl (fun ls hl => ?_)
      refine lv_aload_n hx hb dX10_play_25 rfl (lv_at hl 1 rfl) ?_
      refine lv_iconst (v := 0) hx hb dX10_play_26 (by decide) ?_
      refine va_put (D := D) (ci := 10) (v := .int 0) (ty := .int) (C := RX10) (T := TX10) (N := 20) hx hb hg inGX10 tyX10 tyX10_ok nmX10 hown hK hP hD hS 0 rfl rfl 1 (by decide) (hg _ q_2_104) (fun _ h9 => h9) rfl (by decide +kernel) rfl rfl (px_len hx_1) dX10_play_27 (fun H_5 locs_5 hP_5 hD_5 hS_5 => ?_)
      clear hP hD hS
      have hP : va_P D vwCl [(x, .inr (10, (fx.set 1 (.int 0)))), (g, .inr (2, fg))] H_5 := hP_5
      have hD : va_D A [(x, .inr (10, (fx.set 1 (.int 0)))), (g, .inr (2, fg))] := hD_5
      have hS := hS_5
      clear hP_5 hD_5 hS_5
      refine lv_iload_n hx hb dX10_play_30 rfl (lv_at hl 0 rfl) ?_
      refine lv_if_ne (tgt := 36) hx hb dX10_play_31 (by decide) (fun c_6 => absurd c_6 (by decide)) (fun _ => ?_)
      refine lv_iconst (v := (-1)) hx hb dX10_play_34 (by decide) ?_
      exact W.iret (v := (-1)) hx hb hr (fun t ht hW => ⟨⟨_, (), rfl, rfl, trivial⟩, hS.F ht⟩) hS.2.2 dX10_play_35
    · refine lv_aload_n hx hb dX10_play_12 rfl (lv_at hl 0 rfl) ?_
      have hPc_7 := hP.sub (ws' := [(x, .inr (10, fx)), (g, .inr (2, fg))]) [0, 1] rfl
      have hDc_7 := hD.sub (ws' := [(x, .inr (10, fx)), (g, .inr (2, fg))]) [0, 1] (by decide +kernel) rfl
      refine vp_callSi (va_Run.run (va_runV (As := []) (rest := []) ⟨hx, hb, hml, hown, hg⟩ (c_X10_hasRulesOnTape l D y s.heap.size x fx g fg hx_3 hg_1) (cwV 0 hg (px_gV q_5_43 q_5_45 q_p_45 q_1_1 q_5_46) rfl rfl rfl (by decide +kernel) ⟨Nat.le_of_ble_eq_true rfl, Nat.le_of_ble_eq_true rfl⟩) (px_preV hK hPc_7 hDc_7 (ci := 10) (q0 := 0) rfl rfl) rfl rfl hl.1 rfl (lv_room (Nat.le_of_ble_eq_true rfl)) dX10_play_13 ⟨Nat.le_of_ble_eq_true rfl, Nat.le_of_ble_eq_true rfl⟩)) (fun r_7 hw_7 => ?_)
      clear hPc_7 hDc_7
      obtain rfl : r_7 = 0 := hw_7
      refine lv_if_eq (tgt := 23) hx hb dX10_play_16 (by decide) (fun _ => ?_) (fun c_8 => absurd c_8 (by decide))
      refine lv_iconst (v := 0) hx hb dX10_play_23 (by decide) ?_
      refine lv_istore_n (lv' := [(2, .int 0), (0, .ref x), (1, .int p0)]) hx hb dX10_play_24 rfl hl (by decide) rfl (fun ls hl => ?_)
      refine lv_aload_n hx hb dX10_play_25 rfl (lv_at hl 1 rfl) ?_
      refine lv_iconst (v := 0) hx hb dX10_play_26 (by decide) ?_
      refine va_put (D := D) (ci := 10) (v := .int 0) (ty := .int) (C := RX10) (T := TX10) (N := 20) hx hb hg inGX10 tyX10 tyX10_ok nmX10 hown hK hP hD hS 0 rfl rfl 1 (by decide) (hg _ q_2_104) (fun _ h9 => h9) rfl (by decide +kernel) rfl rfl (px_len hx_1) dX10_play_27 (fun H_9 locs_9 hP_9 hD_9 hS_9 => ?_)
      clear hP hD hS
      have hP : va_P D vwCl [(x, .inr (10, (fx.set 1 (.int 0)))), (g, .inr (2, fg))] H_9 := hP_9
      have hD : va_D A [(x, .inr (10, (fx.set 1 (.int 0)))), (g, .inr (2, fg))] := hD_9
      have hS := hS_9
      clear hP_9 hD_9 hS_9
      refine lv_iload_n hx hb dX10_play_30 rfl (lv_at hl 0 rfl) ?_
      refine lv_if_ne (tgt := 36) hx hb dX10_play_31 (by decide) (fun c_10 => absurd c_10 (by decide)) (fun _ => ?_)
      refine lv_iconst (v := (-1)) hx hb dX10_play_34 (by decide) ?_
      exact W.iret (v := (-1)) hx hb hr (fun t ht hW => ⟨⟨_, (), rfl, rfl, trivial⟩, hS.F ht⟩) hS.2.2 dX10_play_35
