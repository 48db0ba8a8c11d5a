/-! rows of p1 that serve here (printed by wip/p2/port.py) -/
theorem dJ7_fill_53178_0 : decode cJ7_fill_53178 0 = .ok (.iconst 0, 1) := by decide +kernel
theorem dJ7_fill_53178_1 : decode cJ7_fill_53178 1 = .ok (.istore_n 2, 1) := by decide +kernel
theorem dJ7_fill_53178_2 : decode cJ7_fill_53178 2 = .ok (.aload_n 0, 1) := by decide +kernel
theorem dJ7_fill_53178_3 : decode cJ7_fill_53178 3 = .ok (.arraylength, 1) := by decide +kernel
theorem dJ7_fill_53178_4 : decode cJ7_fill_53178 4 = .ok (.istore_n 3, 1) := by decide +kernel
theorem dJ7_fill_53178_5 : decode cJ7_fill_53178 5 = .ok (.iload_n 2, 1) := by decide +kernel
theorem dJ7_fill_53178_6 : decode cJ7_fill_53178 6 = .ok (.iload_n 3, 1) := by decide +kernel
theorem dJ7_fill_53178_7 : decode cJ7_fill_53178 7 = .ok (.if_icmp .ge 13, 3) := by decide +kernel
theorem dJ7_fill_53178_10 : decode cJ7_fill_53178 10 = .ok (.aload_n 0, 1) := by decide +kernel
theorem dJ7_fill_53178_11 : decode cJ7_fill_53178 11 = .ok (.iload_n 2, 1) := by decide +kernel
theorem dJ7_fill_53178_12 : decode cJ7_fill_53178 12 = .ok (.iload_n 1, 1) := by decide +kernel
theorem dJ7_fill_53178_13 : decode cJ7_fill_53178 13 = .ok (.iastore, 1) := by decide +kernel
theorem dJ7_fill_53178_14 : decode cJ7_fill_53178 14 = .ok (.iinc 2 1, 3) := by decide +kernel
theorem dJ7_fill_53178_17 : decode cJ7_fill_53178 17 = .ok (.goto (-12), 3) := by decide +kernel
theorem dJ7_fill_53178_20 : decode cJ7_fill_53178 20 = .ok (.return_, 1) := by decide +kernel
set_option maxHeartbeats 4000000 in
set_option maxRecDepth 100000 in
theorem c_fill_6 (l : Launch) (D : va_G) (y : Nat → ClassId) (sz : Nat) (fa : Nat) (ffa : Nat → Int32) (p1 : Int32)  : Met l yJ7_fill_53178 (px_w yJ7_fill_53178 cJ7_fill_53178 4 none) ({ frames := 0, cells := 0, slots := 0, locals := 0 }) (va_Pc [.ref fa, .int p1] (px_P D y sz [(fa, .inl (y 1, 6, .inl ffa))])) (va_Qv (fun (u : px_U) => ∀ j, j < 6 → u.2.1 0 j = p1) (fun (u : px_U) t => va_P D vwCl [(fa, .inl (y 1, 6, .inl (u.2.1 0)))] t.heap ∧ va_D (va_A [(fa, .inl (y 1, 6, .inl ffa))] sz) [(fa, .inl (y 1, 6, .inl (u.2.1 0)))]) (va_A [(fa, .inl (y 1, 6, .inl ffa))] sz)) 0 0 (va_A [(fa, .inl (y 1, 6, .inl ffa))] sz) := by
  refine Met.ofW (cc := cJ7_fill_53178) (maxL := 4) (ret := none) (by decide) rfl ?_
  intro p e s m args below meth c s₁ B hml hv
  obtain ⟨rfl, hsz, hP, hK, hD0⟩ := hv
  have hx := B.exec
  have hb := B.bytes
  have hr := B.returns
  have hts := atoms_spec (ws := px_w yJ7_fill_53178 cJ7_fill_53178 4 none) B.pre
  have hg : ∀ w ∈ gw, w.before [.ref fa, .int p1].toArray s = true := fun w h => hts w (List.mem_cons_of_mem _ h)
  have hown : s.vm.findClass RJ7 = some m.cls := findClass_of_methodNamed B.named
  have hlocks := B.notSynchronized
  subst hsz
  have hD := hD0.self (sz := s.heap.size)
  generalize hAe : va_A [(fa, .inl (y 1, 6, .inl ffa))] s.heap.size = A at hD ⊢
  have hA : ∀ q : Nat, s.heap.size ≤ q → A q := fun q h => by rw [← hAe]; exact Or.inr h
  have hS : va_S A s.heap s.heap [] := va_S.rf
  have hP : va_P D vwCl [(fa, .inl (y 1, 6, .inl ffa))] s.heap := hP
  have hl := lv_entry ([.ref fa, .int p1]) (n := 4) (Nat.le_of_ble_eq_true rfl)
  rw [lg_entry_eq]
  generalize (lg_sl ([.ref fa, .int p1]) ++ List.replicate (4 - (lg_sl ([.ref fa, .int p1])).length) Slot.unset).toArray = ls at hl ⊢
  have hl : lv_has ls 4 [(0, .ref fa), (1, .int p1)] := hl
  refine lv_iconst (v := 0) hx hb dJ7_fill_53178_0 (by decide) ?_
  refine lv_istore_n (lv' := [(2, .int 0), (0, .ref fa), (1, .int p1)]) hx hb dJ7_fill_53178_1 rfl hl (by decide) rfl (fun ls hl => ?_)
  refine lv_aload_n hx hb dJ7_fill_53178_2 rfl (lv_at hl 1 rfl) ?_
  refine va_alen (v := 6) hx hb hK hP 0 1 rfl rfl rfl dJ7_fill_53178_3 ?_
  refine lv_istore_n (lv' := [(3, .int 6), (2, .int 0), (0, .ref fa), (1, .int p1)]) hx hb dJ7_fill_53178_4 rfl hl (by decide) rfl (fun ls hl => ?_)
  refine px_loop1 (α := (Nat → Int32)) (nL := 4) 6 (ws := fun i_1 F_1 => [(fa, .inl (y 1, 6, .inl F_1))]) (lv := fun i_1 F_1 => [(3, .int 6), (2, .int (nI i_1)), (0, .ref fa), (1, .int p1)]) (inv := fun i_1 F_1 => ∀ j, j < i_1 → F_1 j = p1) ?_ ?_ 0 (by decide) ffa (fun j h => absurd h (Nat.not_lt_zero j)) hP hD hS (lv_sub hl [0, 1, 2, 3] rfl)
  · clear hP hD hS
    intro i_1 F_1 hi_1 hv_1 ih_1 H_1 locs_1 ls hP hD hS hl
    have hP : va_P D vwCl [(fa, .inl (y 1, 6, .inl F_1))] H_1 := hP
    have hD : va_D A [(fa, .inl (y 1, 6, .inl F_1))] := hD
    have hl : lv_has ls 4 [(3, .int 6), (2, .int (nI i_1)), (0, .ref fa), (1, .int p1)] := hl
    refine lv_iload_n hx hb dJ7_fill_53178_5 rfl (lv_at hl 1 rfl) ?_
    refine lv_iload_n hx hb dJ7_fill_53178_6 rfl (lv_at hl 0 rfl) ?_
    refine lv_icmp_ge (tgt := 20) hx hb dJ7_fill_53178_7 (by decide) (fun c_2 => absurd c_2 (nI_ge (by omega) (by decide))) (fun _ => ?_)
    refine lv_aload_n hx hb dJ7_fill_53178_10 rfl (lv_at hl 2 rfl) ?_
    refine lv_iload_n hx hb dJ7_fill_53178_11 rfl (lv_at hl 1 rfl) ?_
    refine lv_iload_n hx hb dJ7_fill_53178_12 rfl (lv_at hl 3 rfl) ?_
    refine va_iast hx hb hK hP hD hS 0 1 rfl rfl (i := (nI i_1)) (vp_in_nI (by omega) (by decide)) dJ7_fill_53178_13 (fun H_4 locs_4 hP_4 hD_4 hS_4 => ?_)
    clear hP hD hS
    have hP : va_P D vwCl [(fa, .inl (y 1, 6, .inl (upd F_1 (nI i_1).toNatClampNeg p1)))] H_4 := hP_4
    have hD : va_D A [(fa, .inl (y 1, 6, .inl (upd F_1 (nI i_1).toNatClampNeg p1)))] := hD_4
    have hS := hS_4
    clear hP_4 hD_4 hS_4
    refine lv_iinc (v := nI (i_1 + 1)) (lv' := [(2, .int (nI (i_1 + 1))), (3, .int 6), (0, .ref fa), (1, .int p1)]) hx hb dJ7_fill_53178_14 hl (k := 1) rfl (nI_1 i_1) (by decide) rfl (fun ls hl => ?_)
    refine lv_goto (tgt := 5) hx hb dJ7_fill_53178_17 (by decide) ?_
    exact ih_1 (upd F_1 (nI i_1).toNatClampNeg p1) _ _ ls (fun j hj => by rw [nI_clamp (by omega)]; unfold upd; split <;> first | rfl | exact hv_1 j (by omega)) hP hD hS (lv_sub hl [1, 0, 2, 3] rfl)
  · clear hP hD hS
    intro F_1 hv_1 H_1 locs_1 ls hP hD hS hl
    have hP : va_P D vwCl [(fa, .inl (y 1, 6, .inl F_1))] H_1 := hP
    have hD : va_D A [(fa, .inl (y 1, 6, .inl F_1))] := hD
    have hl : lv_has ls 4 [(3, .int 6), (2, .int 6), (0, .ref fa), (1, .int p1)] := hl
    refine lv_iload_n hx hb dJ7_fill_53178_5 rfl (lv_at hl 1 rfl) ?_
    refine lv_iload_n hx hb dJ7_fill_53178_6 rfl (lv_at hl 0 rfl) ?_
    refine lv_icmp_ge (tgt := 20) hx hb dJ7_fill_53178_7 (by decide) (fun _ => ?_) (fun c_5 => absurd c_5 (by decide))
    have hP9 := hP.sub (ws' := [(fa, .inl (y 1, 6, .inl F_1))]) [0] rfl
    have hD9 := hD.sub (ws' := [(fa, .inl (y 1, 6, .inl F_1))]) [0] (by decide +kernel) rfl
    exact W.vret hx hb hr (fun t ht hW => ⟨⟨(px_v [], px_vi [F_1], px_vl []), rfl, hv_1, by rw [ht]; exact hP9, hD9⟩, hS.F ht⟩) hS.2.2 dJ7_fill_53178_20
set_option maxHeartbeats 4000000 in
set_option maxRecDepth 100000 in
theorem c_fill_13 (l : Launch) (D : va_G) (y : Nat → ClassId) (sz : Nat) (fa : Nat) (ffa : Nat → Int32) (p1 : Int32)  : Met l yJ7_fill_53178 (px_w yJ7_fill_53178 cJ7_fill_53178 4 none) ({ frames := 0, cells := 0, slots := 0, locals := 0 }) (va_Pc [.ref fa, .int p1] (px_P D y sz [(fa, .inl (y 1, 13, .inl ffa))])) (va_Qv (fun (u : px_U) => ∀ j, j < 13 → u.2.1 0 j = p1) (fun (u : px_U) t => va_P D vwCl [(fa, .inl (y 1, 13, .inl (u.2.1 0)))] t.heap ∧ va_D (va_A [(fa, .inl (y 1, 13, .inl ffa))] sz) [(fa, .inl (y 1, 13, .inl (u.2.1 0)))]) (va_A [(fa, .inl (y 1, 13, .inl ffa))] sz)) 0 0 (va_A [(fa, .inl (y 1, 13, .inl ffa))] sz) := by
  refine Met.ofW (cc := cJ7_fill_53178) (maxL := 4) (ret := none) (by decide) rfl ?_
  intro p e s m args below meth c s₁ B hml hv
  obtain ⟨rfl, hsz, hP, hK, hD0⟩ := hv
  have hx := B.exec
  have hb := B.bytes
  have hr := B.returns
  have hts := atoms_spec (ws := px_w yJ7_fill_53178 cJ7_fill_53178 4 none) B.pre
  have hg : ∀ w ∈ gw, w.before [.ref fa, .int p1].toArray s = true := fun w h => hts w (List.mem_cons_of_mem _ h)
  have hown : s.vm.findClass RJ7 = some m.cls := findClass_of_methodNamed B.named
  have hlocks := B.notSynchronized
  subst hsz
  have hD := hD0.self (sz := s.heap.size)
  generalize hAe : va_A [(fa, .inl (y 1, 13, .inl ffa))] s.heap.size = A at hD ⊢
  have hA : ∀ q : Nat, s.heap.size ≤ q → A q := fun q h => by rw [← hAe]; exact Or.inr h
  have hS : va_S A s.heap s.heap [] := va_S.rf
  have hP : va_P D vwCl [(fa, .inl (y 1, 13, .inl ffa))] s.heap := hP
  have hl := lv_entry ([.ref fa, .int p1]) (n := 4) (Nat.le_of_ble_eq_true rfl)
  rw [lg_entry_eq]
  generalize (lg_sl ([.ref fa, .int p1]) ++ List.replicate (4 - (lg_sl ([.ref fa, .int p1])).length) Slot.unset).toArray = ls at hl ⊢
  have hl : lv_has ls 4 [(0, .ref fa), (1, .int p1)] := hl
  refine lv_iconst (v := 0) hx hb dJ7_fill_53178_0 (by decide) ?_
  refine lv_istore_n (lv' := [(2, .int 0), (0, .ref fa), (1, .int p1)]) hx hb dJ7_fill_53178_1 rfl hl (by decide) rfl (fun ls hl => ?_)
  refine lv_aload_n hx hb dJ7_fill_53178_2 rfl (lv_at hl 1 rfl) ?_
  refine va_alen (v := 13) hx hb hK hP 0 1 rfl rfl rfl dJ7_fill_53178_3 ?_
  refine lv_istore_n (lv' := [(3, .int 13), (2, .int 0), (0, .ref fa), (1, .int p1)]) hx hb dJ7_fill_53178_4 rfl hl (by decide) rfl (fun ls hl => ?_)
  refine px_loop1 (α := (Nat → Int32)) (nL := 4) 13 (ws := fun i_1 F_1 => [(fa, .inl (y 1, 13, .inl F_1))]) (lv := fun i_1 F_1 => [(3, .int 13), (2, .int (nI i_1)), (0, .ref fa), (1, .int p1)]) (inv := fun i_1 F_1 => ∀ j, j < i_1 → F_1 j = p1) ?_ ?_ 0 (by decide) ffa (fun j h => absurd h (Nat.not_lt_zero j)) hP hD hS (lv_sub hl [0, 1, 2, 3] rfl)
  · clear hP hD hS
    intro i_1 F_1 hi_1 hv_1 ih_1 H_1 locs_1 ls hP hD hS hl
    have hP : va_P D vwCl [(fa, .inl (y 1, 13, .inl F_1))] H_1 := hP
    have hD : va_D A [(fa, .inl (y 1, 13, .inl F_1))] := hD
    have hl : lv_has ls 4 [(3, .int 13), (2, .int (nI i_1)), (0, .ref fa), (1, .int p1)] := hl
    refine lv_iload_n hx hb dJ7_fill_53178_5 rfl (lv_at hl 1 rfl) ?_
    refine lv_iload_n hx hb dJ7_fill_53178_6 rfl (lv_at hl 0 rfl) ?_
    refine lv_icmp_ge (tgt := 20) hx hb dJ7_fill_53178_7 (by decide) (fun c_2 => absurd c_2 (nI_ge (by omega) (by decide))) (fun _ => ?_)
    refine lv_aload_n hx hb dJ7_fill_53178_10 rfl (lv_at hl 2 rfl) ?_
    refine lv_iload_n hx hb dJ7_fill_53178_11 rfl (lv_at hl 1 rfl) ?_
    refine lv_iload_n hx hb dJ7_fill_53178_12 rfl (lv_at hl 3 rfl) ?_
    refine va_iast hx hb hK hP hD hS 0 1 rfl rfl (i := (nI i_1)) (vp_in_nI (by omega) (by decide)) dJ7_fill_53178_13 (fun H_4 locs_4 hP_4 hD_4 hS_4 => ?_)
    clear hP hD hS
    have hP : va_P D vwCl [(fa, .inl (y 1, 13, .inl (upd F_1 (nI i_1).toNatClampNeg p1)))] H_4 := hP_4
    have hD : va_D A [(fa, .inl (y 1, 13, .inl (upd F_1 (nI i_1).toNatClampNeg p1)))] := hD_4
    have hS := hS_4
    clear hP_4 hD_4 hS_4
    refine lv_iinc (v := nI (i_1 + 1)) (lv' := [(2, .int (nI (i_1 + 1))), (3, .int 13), (0, .ref fa), (1, .int p1)]) hx hb dJ7_fill_53178_14 hl (k := 1) rfl (nI_1 i_1) (by decide) rfl (fun ls hl => ?_)
    refine lv_goto (tgt := 5) hx hb dJ7_fill_53178_17 (by decide) ?_
    exact ih_1 (upd F_1 (nI i_1).toNatClampNeg p1) _ _ ls (fun j hj => by rw [nI_clamp (by omega)]; unfold upd; split <;> first | rfl | exact hv_1 j (by omega)) hP hD hS (lv_sub hl [1, 0, 2, 3] rfl)
  · clear hP hD hS
    intro F_1 hv_1 H_1 locs_1 ls hP hD hS hl
    have hP : va_P D vwCl [(fa, .inl (y 1, 13, .inl F_1))] H_1 := hP
    have hD : va_D A [(fa, .inl (y 1, 13, .inl F_1))] := hD
    have hl : lv_has ls 4 [(3, .int 13), (2, .int 13), (0, .ref fa), (1, .int p1)] := hl
    refine lv_iload_n hx hb dJ7_fill_53178_5 rfl (lv_at hl 1 rfl) ?_
    refine lv_iload_n hx hb dJ7_fill_53178_6 rfl (lv_at hl 0 rfl) ?_
    refine lv_icmp_ge (tgt := 20) hx hb dJ7_fill_53178_7 (by decide) (fun _ => ?_) (fun c_5 => absurd c_5 (by decide))
    have hP9 := hP.sub (ws' := [(fa, .inl (y 1, 13, .inl F_1))]) [0] rfl
    have hD9 := hD.sub (ws' := [(fa, .inl (y 1, 13, .inl F_1))]) [0] (by decide +kernel) rfl
    exact W.vret hx hb hr (fun t ht hW => ⟨⟨(px_v [], px_vi [F_1], px_vl []), rfl, hv_1, by rw [ht]; exact hP9, hD9⟩, hS.F ht⟩) hS.2.2 dJ7_fill_53178_20
abbrev px_g (fs : List Value) (k : Nat) (v : Value) : Prop := fs[k]? = some v
abbrev px_o (a ci : Nat) (fs : List Value) : Nat × va_E := (a, .inr (ci, fs))
abbrev px_i (a : Nat) (cA : ClassId) (n : Nat) (f : Nat → Int32) : Nat × va_E := (a, .inl (cA, n, .inl f))
abbrev px_l (a : Nat) (cA : ClassId) (n : Nat) (f : Nat → Int64) : Nat × va_E := (a, .inl (cA, n, .inr (.inl f)))
abbrev px_q (a : Nat) (cA : ClassId) (n : Nat) (f : Nat → Option Nat) : Nat × va_E := (a, .inl (cA, n, .inr (.inr (.inr (.inr f)))))
/-- what the tables say beside the good words: arrays of objects, and constructors of nest mates -/
def px_X (U : State) : Prop := va_AO "SevenTable$Game" U ∧ va_AO "SevenTable$Sentence" U ∧ va_Nw (.methodLinkNest RX2 68 yX3_init "SevenTable") U ∧ va_Nw (.methodLinkNest RX10 32 yX7_init "SevenTable") U ∧ va_Nw (.methodLinkNest RX8 11 yX7_init "SevenTable") U ∧ va_Nw (.methodLinkNest RX10 69 yX5_init "SevenTable") U
theorem px_X.same {u U : State} (h : u.vm = U.vm) (x : px_X u) : px_X U := ⟨va_AO.moved (by rw [h]; exact Vm.Alike.refl _) x.1, va_AO.moved (by rw [h]; exact Vm.Alike.refl _) x.2.1, va_Nw.same rfl h x.2.2.1, va_Nw.same rfl h x.2.2.2.1, va_Nw.same rfl h x.2.2.2.2.1, va_Nw.same rfl h x.2.2.2.2.2⟩
theorem px_X.warm {s U : State} (hW : s.WarmedH U.vm) (x : px_X s) : px_X U := ⟨va_AO.moved hW.alike x.1, va_AO.moved hW.alike x.2.1, va_Nw.warmM hW x.2.2.1, va_Nw.warmM hW x.2.2.2.1, va_Nw.warmM hW x.2.2.2.2.1, va_Nw.warmM hW x.2.2.2.2.2⟩
theorem px_blindX {D : va_G} {y : Nat → ClassId} {sz : Nat} {ws : va_W} {av : List Value} : FrameBlind (va_Pc av (fun U => px_P D y sz ws U ∧ px_X U)) := fun a U g mk q => ⟨q.1, (px_blind (D := D) (y := y) (sz := sz) (ws := ws) (av := av) a U g mk ⟨q.1, q.2.1⟩).2, px_X.same (u := U) (U := U.calling g mk a) rfl q.2.2⟩
theorem px_preSao {D : va_G} {y : Nat → ClassId} {A : Nat → Prop} {s : State} {H : Heap} {ws : va_W} {As : List Value} (hK : va_K D vwCl (px_tys y) s) (hP : va_P D vwCl ws H) (hD : va_D A ws) (hX : px_X s) : PreS s H (va_Pc As (fun U => px_P D y H.size ws U ∧ px_X U)) As :=
  ⟨px_blindX, fun U hU hW => ⟨rfl, ⟨by rw [hU], by rw [hU]; exact hP, va_K.moved hW.alike hK, hD.weaken (fun _ _ _ _ => trivial)⟩, hX.warm hW⟩⟩
theorem px_preVao {D : va_G} {y : Nat → ClassId} {A : Nat → Prop} {s : State} {H : Heap} {ws : va_W} {As : List Value} {b q0 ci : Nat} {q : vw_C} {fs : List Value} (hK : va_K D vwCl (px_tys y) s) (hP : va_P D vwCl ws H) (hD : va_D A ws) (hX : px_X s) (hc : vwCl[ci]? = some q) (he : ws[q0]? = some (b, .inr (ci, fs))) : PreV s H q.1 b (va_Pc (.ref b :: As) (fun U => px_P D y H.size ws U ∧ px_X U)) As :=
  ⟨px_blindX, va_recv hK hP hc he, fun U hU hW => ⟨rfl, ⟨by rw [hU], by rw [hU]; exact hP, va_K.moved hW.alike hK, hD.weaken (fun _ _ _ _ => trivial)⟩, hX.warm hW⟩⟩
theorem px_aint (n : Nat) (cA : ClassId) : vp_cell cA (n, .inl (fun _ => 0)) = arrV cA n (fun _ => defaultValue .int) := rfl
theorem px_abyte (n : Nat) (cA : ClassId) : vp_cell cA (n, .inl (fun _ => 0)) = arrV cA n (fun _ => defaultValue .byte) := rfl
theorem px_aboolean (n : Nat) (cA : ClassId) : vp_cell cA (n, .inl (fun _ => 0)) = arrV cA n (fun _ => defaultValue .boolean) := rfl
theorem px_along (n : Nat) (cA : ClassId) : vp_cell cA (n, .inr (.inl (fun _ => 0))) = arrV cA n (fun _ => defaultValue .long) := rfl
theorem q_1_156 : Cond.methodLink RX7 3 objectInit ∈ gw := gw_1 156 (by decide +kernel) rfl
theorem q_1_30 : Cond.instanceMethod objectInit ∈ gw := gw_1 30 (by decide +kernel) rfl
theorem q_1_31 : Cond.code objectInit ⟨#[0xb1]⟩ 1 none ∈ gw := gw_1 31 (by decide +kernel) rfl
theorem q_1_37 : Cond.methodLink RX2 3 objectInit ∈ gw := gw_1 37 (by decide +kernel) rfl
theorem q_1_38 : Cond.classLink RX2 66 RX3 ∈ gw := gw_1 38 (by decide +kernel) rfl
theorem q_1_39 : Cond.instantiable RX3 4 ∈ gw := gw_1 39 (by decide +kernel) rfl
theorem q_1_41 : Cond.instanceMethod yX3_init ∈ gw := gw_1 41 (by decide +kernel) rfl
theorem q_1_42 : Cond.code yX3_init cX3_init 1 none ∈ gw := gw_1 42 (by decide +kernel) rfl
theorem q_1_43 : Cond.methodLink RX3 3 objectInit ∈ gw := gw_1 43 (by decide +kernel) rfl
theorem q_1_59 : Cond.arrayClass .long ∈ gw := gw_1 59 (by decide +kernel) rfl
theorem q_1_60 : Cond.arrayClass .int ∈ gw := gw_1 60 (by decide +kernel) rfl
theorem px_fsX3 : ∀ j, j < 4 → defaultValue (tyX3 j) = vp_V [.null, .null, .int 0, .null] j := by
  intro j hj
  match j, hj with
  | 0, _ => rfl
  | 1, _ => rfl
  | 2, _ => rfl
  | 3, _ => rfl
  | (k + 4), h => exact absurd h (by omega)
theorem dX2_init_0 : decode cX2_init 0 = .ok (.aload_n 0, 1) := by decide +kernel
theorem dX2_init_1 : decode cX2_init 1 = .ok (.invokespecial 3, 3) := by decide +kernel
theorem dX2_init_4 : decode cX2_init 4 = .ok (.aload_n 0, 1) := by decide +kernel
theorem dX2_init_5 : decode cX2_init 5 = .ok (.iconst 0, 1) := by decide +kernel
theorem dX2_init_6 : decode cX2_init 6 = .ok (.putfield 9, 3) := by decide +kernel
theorem dX2_init_9 : decode cX2_init 9 = .ok (.aload_n 0, 1) := by decide +kernel
theorem dX2_init_10 : decode cX2_init 10 = .ok (.iconst 0, 1) := by decide +kernel
theorem dX2_init_11 : decode cX2_init 11 = .ok (.putfield 15, 3) := by decide +kernel
theorem dX2_init_14 : decode cX2_init 14 = .ok (.aload_n 0, 1) := by decide +kernel
theorem dX2_init_15 : decode cX2_init 15 = .ok (.iconst 0, 1) := by decide +kernel
theorem dX2_init_16 : decode cX2_init 16 = .ok (.putfield 18, 3) := by decide +kernel
theorem dX2_init_19 : decode cX2_init 19 = .ok (.aload_n 0, 1) := by decide +kernel
theorem dX2_init_20 : decode cX2_init 20 = .ok (.iconst 0, 1) := by decide +kernel
theorem dX2_init_21 : decode cX2_init 21 = .ok (.putfield 22, 3) := by decide +kernel
theorem dX2_init_24 : decode cX2_init 24 = .ok (.aload_n 0, 1) := by decide +kernel
theorem dX2_init_25 : decode cX2_init 25 = .ok (.bipush 6, 2) := by decide +kernel
theorem dX2_init_27 : decode cX2_init 27 = .ok (.newarray .long, 2) := by decide +kernel
theorem dX2_init_29 : decode cX2_init 29 = .ok (.putfield 25, 3) := by decide +kernel
theorem dX2_init_32 : decode cX2_init 32 = .ok (.aload_n 0, 1) := by decide +kernel
theorem dX2_init_33 : decode cX2_init 33 = .ok (.bipush 78, 2) := by decide +kernel
theorem dX2_init_35 : decode cX2_init 35 = .ok (.newarray .int, 2) := by decide +kernel
theorem dX2_init_37 : decode cX2_init 37 = .ok (.putfield 29, 3) := by decide +kernel
theorem dX2_init_40 : decode cX2_init 40 = .ok (.aload_n 0, 1) := by decide +kernel
theorem dX2_init_41 : decode cX2_init 41 = .ok (.bipush 6, 2) := by decide +kernel
theorem dX2_init_43 : decode cX2_init 43 = .ok (.newarray .int, 2) := by decide +kernel
theorem dX2_init_45 : decode cX2_init 45 = .ok (.putfield 33, 3) := by decide +kernel
theorem dX2_init_48 : decode cX2_init 48 = .ok (.aload_n 0, 1) := by decide +kernel
theorem dX2_init_49 : decode cX2_init 49 = .ok (.bipush 52, 2) := by decide +kernel
theorem dX2_init_51 : decode cX2_init 51 = .ok (.newarray .int, 2) := by decide +kernel
theorem dX2_init_53 : decode cX2_init 53 = .ok (.putfield 36, 3) := by decide +kernel
theorem dX2_init_56 : decode cX2_init 56 = .ok (.aload_n 0, 1) := by decide +kernel
theorem dX2_init_57 : decode cX2_init 57 = .ok (.iconst 0, 1) := by decide +kernel
theorem dX2_init_58 : decode cX2_init 58 = .ok (.putfield 39, 3) := by decide +kernel
theorem dX2_init_61 : decode cX2_init 61 = .ok (.aload_n 0, 1) := by decide +kernel
theorem dX2_init_62 : decode cX2_init 62 = .ok (.iconst 0, 1) := by decide +kernel
theorem dX2_init_63 : decode cX2_init 63 = .ok (.putfield 42, 3) := by decide +kernel
theorem dX2_init_66 : decode cX2_init 66 = .ok (.aload_n 0, 1) := by decide +kernel
theorem dX2_init_67 : decode cX2_init 67 = .ok (.bipush 13, 2) := by decide +kernel
theorem dX2_init_69 : decode cX2_init 69 = .ok (.newarray .int, 2) := by decide +kernel
theorem dX2_init_71 : decode cX2_init 71 = .ok (.putfield 45, 3) := by decide +kernel
theorem dX2_init_74 : decode cX2_init 74 = .ok (.aload_n 0, 1) := by decide +kernel
theorem dX2_init_75 : decode cX2_init 75 = .ok (.bipush 6, 2) := by decide +kernel
theorem dX2_init_77 : decode cX2_init 77 = .ok (.newarray .int, 2) := by decide +kernel
theorem dX2_init_79 : decode cX2_init 79 = .ok (.putfield 48, 3) := by decide +kernel
theorem dX2_init_82 : decode cX2_init 82 = .ok (.aload_n 0, 1) := by decide +kernel
theorem dX2_init_83 : decode cX2_init 83 = .ok (.bipush 6, 2) := by decide +kernel
theorem dX2_init_85 : decode cX2_init 85 = .ok (.newarray .int, 2) := by decide +kernel
theorem dX2_init_87 : decode cX2_init 87 = .ok (.putfield 51, 3) := by decide +kernel
theorem dX2_init_90 : decode cX2_init 90 = .ok (.aload_n 0, 1) := by decide +kernel
theorem dX2_init_91 : decode cX2_init 91 = .ok (.bipush 6, 2) := by decide +kernel
theorem dX2_init_93 : decode cX2_init 93 = .ok (.newarray .int, 2) := by decide +kernel
theorem dX2_init_95 : decode cX2_init 95 = .ok (.putfield 54, 3) := by decide +kernel
theorem dX2_init_98 : decode cX2_init 98 = .ok (.aload_n 0, 1) := by decide +kernel
theorem dX2_init_99 : decode cX2_init 99 = .ok (.iconst (-1), 1) := by decide +kernel
theorem dX2_init_100 : decode cX2_init 100 = .ok (.putfield 57, 3) := by decide +kernel
theorem dX2_init_103 : decode cX2_init 103 = .ok (.aload_n 0, 1) := by decide +kernel
theorem dX2_init_104 : decode cX2_init 104 = .ok (.iconst 0, 1) := by decide +kernel
theorem dX2_init_105 : decode cX2_init 105 = .ok (.putfield 60, 3) := by decide +kernel
theorem dX2_init_108 : decode cX2_init 108 = .ok (.aload_n 0, 1) := by decide +kernel
theorem dX2_init_109 : decode cX2_init 109 = .ok (.iconst 0, 1) := by decide +kernel
theorem dX2_init_110 : decode cX2_init 110 = .ok (.putfield 63, 3) := by decide +kernel
theorem dX2_init_113 : decode cX2_init 113 = .ok (.aload_n 0, 1) := by decide +kernel
theorem dX2_init_114 : decode cX2_init 114 = .ok (.new 66, 3) := by decide +kernel
theorem dX2_init_117 : decode cX2_init 117 = .ok (.dup, 1) := by decide +kernel
theorem dX2_init_118 : decode cX2_init 118 = .ok (.invokespecial 68, 3) := by decide +kernel
theorem dX2_init_121 : decode cX2_init 121 = .ok (.putfield 69, 3) := by decide +kernel
theorem dX2_init_124 : decode cX2_init 124 = .ok (.aload_n 0, 1) := by decide +kernel
theorem dX2_init_125 : decode cX2_init 125 = .ok (.getfield 45, 3) := by decide +kernel
theorem dX2_init_128 : decode cX2_init 128 = .ok (.iconst (-1), 1) := by decide +kernel
theorem dX2_init_129 : decode cX2_init 129 = .ok (.invokestatic 73, 3) := by decide +kernel
theorem dX2_init_132 : decode cX2_init 132 = .ok (.aload_n 0, 1) := by decide +kernel
theorem dX2_init_133 : decode cX2_init 133 = .ok (.getfield 54, 3) := by decide +kernel
theorem dX2_init_136 : decode cX2_init 136 = .ok (.iconst (-1), 1) := by decide +kernel
theorem dX2_init_137 : decode cX2_init 137 = .ok (.invokestatic 73, 3) := by decide +kernel
theorem dX2_init_140 : decode cX2_init 140 = .ok (.return_, 1) := by decide +kernel
theorem dX3_init_0 : decode cX3_init 0 = .ok (.aload_n 0, 1) := by decide +kernel
theorem dX3_init_1 : decode cX3_init 1 = .ok (.invokespecial 3, 3) := by decide +kernel
theorem dX3_init_4 : decode cX3_init 4 = .ok (.aload_n 0, 1) := by decide +kernel
theorem dX3_init_5 : decode cX3_init 5 = .ok (.bipush 78, 2) := by decide +kernel
theorem dX3_init_7 : decode cX3_init 7 = .ok (.newarray .int, 2) := by decide +kernel
theorem dX3_init_9 : decode cX3_init 9 = .ok (.putfield 9, 3) := by decide +kernel
theorem dX3_init_12 : decode cX3_init 12 = .ok (.aload_n 0, 1) := by decide +kernel
theorem dX3_init_13 : decode cX3_init 13 = .ok (.bipush 52, 2) := by decide +kernel
theorem dX3_init_15 : decode cX3_init 15 = .ok (.newarray .int, 2) := by decide +kernel
theorem dX3_init_17 : decode cX3_init 17 = .ok (.putfield 15, 3) := by decide +kernel
theorem dX3_init_20 : decode cX3_init 20 = .ok (.aload_n 0, 1) := by decide +kernel
theorem dX3_init_21 : decode cX3_init 21 = .ok (.iconst 0, 1) := by decide +kernel
theorem dX3_init_22 : decode cX3_init 22 = .ok (.putfield 18, 3) := by decide +kernel
theorem dX3_init_25 : decode cX3_init 25 = .ok (.aload_n 0, 1) := by decide +kernel
theorem dX3_init_26 : decode cX3_init 26 = .ok (.bipush 6, 2) := by decide +kernel
theorem dX3_init_28 : decode cX3_init 28 = .ok (.newarray .int, 2) := by decide +kernel
theorem dX3_init_30 : decode cX3_init 30 = .ok (.putfield 22, 3) := by decide +kernel
theorem dX3_init_33 : decode cX3_init 33 = .ok (.return_, 1) := by decide +kernel
theorem dX7_init_0 : decode cX7_init 0 = .ok (.aload_n 0, 1) := by decide +kernel
theorem dX7_init_1 : decode cX7_init 1 = .ok (.invokespecial 3, 3) := by decide +kernel
theorem dX7_init_4 : decode cX7_init 4 = .ok (.aload_n 0, 1) := by decide +kernel
theorem dX7_init_5 : decode cX7_init 5 = .ok (.bipush 40, 2) := by decide +kernel
theorem dX7_init_7 : decode cX7_init 7 = .ok (.newarray .int, 2) := by decide +kernel
theorem dX7_init_9 : decode cX7_init 9 = .ok (.putfield 11, 3) := by decide +kernel
theorem dX7_init_12 : decode cX7_init 12 = .ok (.aload_n 0, 1) := by decide +kernel
theorem dX7_init_13 : decode cX7_init 13 = .ok (.iconst 0, 1) := by decide +kernel
theorem dX7_init_14 : decode cX7_init 14 = .ok (.putfield 15, 3) := by decide +kernel
theorem dX7_init_17 : decode cX7_init 17 = .ok (.return_, 1) := by decide +kernel
set_option maxHeartbeats 4000000 in
set_option maxRecDepth 100000 in
theorem c_X3_init (l : Launch) (D : va_G) (y : Nat → ClassId) (sz : Nat) (gk : Nat) (fgk : List Value) (hgk_0 : px_g fgk 0 (.null)) (hgk_1 : px_g fgk 1 (.null)) (hgk_2 : px_g fgk 2 (.int 0)) (hgk_3 : px_g fgk 3 (.null)) : Met l yX3_init (px_w yX3_init cX3_init 1 none) ({ frames := 1, cells := 3, slots := 136, locals := 12 }) (va_Pc [.ref gk] (px_P D y sz [px_o gk 3 fgk])) (va_Qv (fun (u : px_U) => True) (fun (u : px_U) t => va_P D vwCl [px_o gk 3 ((((fgk.set 0 (.ref (u.1 0))).set 1 (.ref (u.1 1))).set 2 (.int 0)).set 3 (.ref (u.1 2))), px_i (u.1 0) (y 1) 78 (fun _ => 0), px_i (u.1 1) (y 1) 52 (fun _ => 0), px_i (u.1 2) (y 1) 6 (fun _ => 0)] t.heap ∧ va_D (va_A [px_o gk 3 fgk] sz) [px_o gk 3 ((((fgk.set 0 (.ref (u.1 0))).set 1 (.ref (u.1 1))).set 2 (.int 0)).set 3 (.ref (u.1 2))), px_i (u.1 0) (y 1) 78 (fun _ => 0), px_i (u.1 1) (y 1) 52 (fun _ => 0), px_i (u.1 2) (y 1) 6 (fun _ => 0)]) (va_A [px_o gk 3 fgk] sz)) 3 136 (va_A [px_o gk 3 fgk] sz) := by
  refine Met.ofW (cc := cX3_init) (maxL := 1) (ret := none) (by decide) rfl ?_
  intro p e s m args below meth c s₁ B hml hv
  obtain ⟨rfl, hsz, hP, hK, hD0⟩ := hv
  have hx := B.exec
  have hb := B.bytes
  have hr := B.returns
  have hts := atoms_spec (ws := px_w yX3_init cX3_init 1 none) B.pre
  have hg : ∀ w ∈ gw, w.before [.ref gk].toArray s = true := fun w h => hts w (List.mem_cons_of_mem _ h)
  have hown : s.vm.findClass RX3 = some m.cls := findClass_of_methodNamed B.named
  have hlocks := B.notSynchronized
  have hin : meth.name = "<init>" := (name_of_methodNamed B.named B.method).1
  subst hsz
  have hD := hD0.self (sz := s.heap.size)
  generalize hAe : va_A [px_o gk 3 fgk] s.heap.size = A at hD ⊢
  have hA : ∀ q : Nat, s.heap.size ≤ q → A q := fun q h => by rw [← hAe]; exact Or.inr h
  have hS : va_S A s.heap s.heap [] := va_S.rf
  have hP : va_P D vwCl [px_o gk 3 fgk] s.heap := hP
  have hl := lv_entry ([.ref gk]) (n := 1) (Nat.le_of_ble_eq_true rfl)
  rw [lg_entry_eq]
  generalize (lg_sl ([.ref gk]) ++ List.replicate (1 - (lg_sl ([.ref gk])).length) Slot.unset).toArray = ls at hl ⊢
  have hl : lv_has ls 1 [(0, .ref gk)] := hl
  refine lv_aload_n hx hb dX3_init_0 rfl (lv_at hl 0 rfl) ?_
  refine W.objInit hx hb hown (hg _ q_1_43) (hg _ q_1_30) (hg _ q_1_31) rfl (by rw [hml]; exact hl.1) rfl dX3_init_1 (Nat.le_of_ble_eq_true rfl) (Nat.le_of_ble_eq_true rfl) ?_
  refine W.eq (g2 := F0 m 4 ls []) rfl ?_
  refine lv_aload_n hx hb dX3_init_4 rfl (lv_at hl 0 rfl) ?_
  refine lv_bipush (v := 78) hx hb dX3_init_5 (by decide) ?_
  refine px_newa (atype := .int) (ty := .int) hx hb (hg _ q_1_60) rfl hK hP hD hS hA 1 rfl (N' := 78) (a0 := (78, .inl (fun _ => 0))) (px_aint _) (by decide) (by decide) (by decide) (Nat.le_of_ble_eq_true rfl) (Nat.le_of_ble_eq_true rfl) dX3_init_7 (fun q1 H_2 hP_2 hD_2 hS_2 => ?_)
  clear hP hD hS
  have hP : va_P D vwCl [px_o gk 3 fgk, px_i q1 (y 1) 78 (fun _ => 0)] H_2 := hP_2
  have hD : va_D A [px_o gk 3 fgk, px_i q1 (y 1) 78 (fun _ => 0)] := hD_2
  have hS := hS_2
  clear hP_2 hD_2 hS_2
  refine W.cs (cells' := 1) (slots' := 78) rfl rfl ?_
  refine va_putF (D := D) (ci := 3) (v := .ref q1) (ty := (.array .int)) (C := RX3) (T := TX3) (N := 4) hx hb hg inGX3 tyX3 tyX3_ok nmX3 hown hK hP hD hS 0 rfl rfl 0 (by decide) (hg _ q_1_44) (fun _ h9 => h9) rfl hin rfl (by decide +kernel) rfl rfl (px_len hgk_0) dX3_init_9 (fun H_3 locs_3 hP_3 hD_3 hS_3 => ?_)
  clear hP hD hS
  have hP : va_P D vwCl [px_o gk 3 (fgk.set 0 (.ref q1)), px_i q1 (y 1) 78 (fun _ => 0)] H_3 := hP_3
  have hD : va_D A [px_o gk 3 (fgk.set 0 (.ref q1)), px_i q1 (y 1) 78 (fun _ => 0)] := hD_3
  have hS := hS_3
  clear hP_3 hD_3 hS_3
  refine lv_aload_n hx hb dX3_init_12 rfl (lv_at hl 0 rfl) ?_
  refine lv_bipush (v := 52) hx hb dX3_init_13 (by decide) ?_
  refine px_newa (atype := .int) (ty := .int) hx hb (hg _ q_1_60) rfl hK hP hD hS hA 1 rfl (N' := 52) (a0 := (52, .inl (fun _ => 0))) (px_aint _) (by decide) (by decide) (by decide) (Nat.le_of_ble_eq_true rfl) (Nat.le_of_ble_eq_true rfl) dX3_init_15 (fun q4 H_5 hP_5 hD_5 hS_5 => ?_)
  clear hP hD hS
  have hP : va_P D vwCl [px_o gk 3 (fgk.set 0 (.ref q1)), px_i q1 (y 1) 78 (fun _ => 0), px_i q4 (y 1) 52 (fun _ => 0)] H_5 := hP_5
  have hD : va_D A [px_o gk 3 (fgk.set 0 (.ref q1)), px_i q1 (y 1) 78 (fun _ => 0), px_i q4 (y 1) 52 (fun _ => 0)] := hD_5
  have hS := hS_5
  clear hP_5 hD_5 hS_5
  refine W.cs (cells' := 2) (slots' := 130) rfl rfl ?_
  refine va_putF (D := D) (ci := 3) (v := .ref q4) (ty := (.array .int)) (C := RX3) (T := TX3) (N := 4) hx hb hg inGX3 tyX3 tyX3_ok nmX3 hown hK hP hD hS 0 rfl rfl 1 (by decide) (hg _ q_1_45) (fun _ h9 => h9) rfl hin rfl (by decide +kernel) rfl rfl (px_len (px_sn (by decide) hgk_1)) dX3_init_17 (fun H_6 locs_6 hP_6 hD_6 hS_6 => ?_)
  clear hP hD hS
  have hP : va_P D vwCl [px_o gk 3 ((fgk.set 0 (.ref q1)).set 1 (.ref q4)), px_i q1 (y 1) 78 (fun _ => 0), px_i q4 (y 1) 52 (fun _ => 0)] H_6 := hP_6
  have hD : va_D A [px_o gk 3 ((fgk.set 0 (.ref q1)).set 1 (.ref q4)), px_i q1 (y 1) 78 (fun _ => 0), px_i q4 (y 1) 52 (fun _ => 0)] := hD_6
  have hS := hS_6
  clear hP_6 hD_6 hS_6
  refine lv_aload_n hx hb dX3_init_20 rfl (lv_at hl 0 rfl) ?_
  refine lv_iconst (v := 0) hx hb dX3_init_21 (by decide) ?_
  refine va_put (D := D) (ci := 3) (v := .int 0) (ty := .int) (C := RX3) (T := TX3) (N := 4) hx hb hg inGX3 tyX3 tyX3_ok nmX3 hown hK hP hD hS 0 rfl rfl 2 (by decide) (hg _ q_1_46) (fun _ h9 => h9) rfl (by decide +kernel) rfl rfl (px_len (px_sn (by decide) (px_sn (by decide) hgk_2))) dX3_init_22 (fun H_7 locs_7 hP_7 hD_7 hS_7 => ?_)
  clear hP hD hS
  have hP : va_P D vwCl [px_o gk 3 (((fgk.set 0 (.ref q1)).set 1 (.ref q4)).set 2 (.int 0)), px_i q1 (y 1) 78 (fun _ => 0), px_i q4 (y 1) 52 (fun _ => 0)] H_7 := hP_7
  have hD : va_D A [px_o gk 3 (((fgk.set 0 (.ref q1)).set 1 (.ref q4)).set 2 (.int 0)), px_i q1 (y 1) 78 (fun _ => 0), px_i q4 (y 1) 52 (fun _ => 0)] := hD_7
  have hS := hS_7
  clear hP_7 hD_7 hS_7
  refine lv_aload_n hx hb dX3_init_25 rfl (lv_at hl 0 rfl) ?_
  refine lv_bipush (v := 6) hx hb dX3_init_26 (by decide) ?_
  refine px_newa (atype := .int) (ty := .int) hx hb (hg _ q_1_60) rfl hK hP hD hS hA 1 rfl (N' := 6) (a0 := (6, .inl (fun _ => 0))) (px_aint _) (by decide) (by decide) (by decide) (Nat.le_of_ble_eq_true rfl) (Nat.le_of_ble_eq_true rfl) dX3_init_28 (fun q8 H_9 hP_9 hD_9 hS_9 => ?_)
  clear hP hD hS
  have hP : va_P D vwCl [px_o gk 3 (((fgk.set 0 (.ref q1)).set 1 (.ref q4)).set 2 (.int 0)), px_i q1 (y 1) 78 (fun _ => 0), px_i q4 (y 1) 52 (fun _ => 0), px_i q8 (y 1) 6 (fun _ => 0)] H_9 := hP_9
  have hD : va_D A [px_o gk 3 (((fgk.set 0 (.ref q1)).set 1 (.ref q4)).set 2 (.int 0)), px_i q1 (y 1) 78 (fun _ => 0), px_i q4 (y 1) 52 (fun _ => 0), px_i q8 (y 1) 6 (fun _ => 0)] := hD_9
  have hS := hS_9
  clear hP_9 hD_9 hS_9
  refine W.cs (cells' := 3) (slots' := 136) rfl rfl ?_
  refine va_putF (D := D) (ci := 3) (v := .ref q8) (ty := (.array .int)) (C := RX3) (T := TX3) (N := 4) hx hb hg inGX3 tyX3 tyX3_ok nmX3 hown hK hP hD hS 0 rfl rfl 3 (by decide) (hg _ q_1_47) (fun _ h9 => h9) rfl hin rfl (by decide +kernel) rfl rfl (px_len (px_sn (by decide) (px_sn (by decide) (px_sn (by decide) hgk_3)))) dX3_init_30 (fun H_10 locs_10 hP_10 hD_10 hS_10 => ?_)
  clear hP hD hS
  have hP : va_P D vwCl [px_o gk 3 ((((fgk.set 0 (.ref q1)).set 1 (.ref q4)).set 2 (.int 0)).set 3 (.ref q8)), px_i q1 (y 1) 78 (fun _ => 0), px_i q4 (y 1) 52 (fun _ => 0), px_i q8 (y 1) 6 (fun _ => 0)] H_10 := hP_10
  have hD : va_D A [px_o gk 3 ((((fgk.set 0 (.ref q1)).set 1 (.ref q4)).set 2 (.int 0)).set 3 (.ref q8)), px_i q1 (y 1) 78 (fun _ => 0), px_i q4 (y 1) 52 (fun _ => 0), px_i q8 (y 1) 6 (fun _ => 0)] := hD_10
  have hS := hS_10
  clear hP_10 hD_10 hS_10
  have hP9 := hP.sub (ws' := [px_o gk 3 ((((fgk.set 0 (.ref q1)).set 1 (.ref q4)).set 2 (.int 0)).set 3 (.ref q8)), px_i q1 (y 1) 78 (fun _ => 0), px_i q4 (y 1) 52 (fun _ => 0), px_i q8 (y 1) 6 (fun _ => 0)]) [0, 1, 2, 3] rfl
  have hD9 := hD.sub (ws' := [px_o gk 3 ((((fgk.set 0 (.ref q1)).set 1 (.ref q4)).set 2 (.int 0)).set 3 (.ref q8)), px_i q1 (y 1) 78 (fun _ => 0), px_i q4 (y 1) 52 (fun _ => 0), px_i q8 (y 1) 6 (fun _ => 0)]) [0, 1, 2, 3] (by decide +kernel) rfl
  exact W.vret hx hb hr (fun t ht hW => ⟨⟨(px_v [q1, q4, q8], px_vi [], px_vl []), rfl, trivial, by rw [ht]; exact hP9, hD9⟩, hS.F ht⟩) hS.2.2 dX3_init_33
set_option maxHeartbeats 4000000 in
set_option maxRecDepth 100000 in
theorem c_X2_init (l : Launch) (D : va_G) (y : Nat → ClassId) (sz : Nat) (g : Nat) (fg : List Value) (hg_0 : px_g fg 0 (.int 0)) (hg_1 : px_g fg 1 (.int 0)) (hg_2 : px_g fg 2 (.int 0)) (hg_3 : px_g fg 3 (.int 0)) (hg_4 : px_g fg 4 (.null)) (hg_5 : px_g fg 5 (.null)) (hg_6 : px_g fg 6 (.null)) (hg_7 : px_g fg 7 (.null)) (hg_8 : px_g fg 8 (.int 0)) (hg_9 : px_g fg 9 (.int 0)) (hg_10 : px_g fg 10 (.null)) (hg_11 : px_g fg 11 (.null)) (hg_12 : px_g fg 12 (.null)) (hg_13 : px_g fg 13 (.null)) (hg_14 : px_g fg 14 (.int 0)) (hg_15 : px_g fg 15 (.int 0)) (hg_16 : px_g fg 16 (.int 0)) (hg_17 : px_g fg 17 (.null)) : Met l yX2_init (px_w yX2_init cX2_init 1 none) ({ frames := 2, cells := 12, slots := 313, locals := 32 }) (va_Pc [.ref g] (fun U => px_P D y sz [px_o g 2 fg] U ∧ px_X U)) (va_Qv (fun (u : px_U) => True) (fun (u : px_U) t => va_P D vwCl [px_o g 2 ((((((((((((((((((fg.set 0 (.int 0)).set 1 (.int 0)).set 2 (.int 0)).set 3 (.int 0)).set 4 (.ref (u.1 0))).set 5 (.ref (u.1 1))).set 6 (.ref (u.1 2))).set 7 (.ref (u.1 3))).set 8 (.int 0)).set 9 (.int 0)).set 10 (.ref (u.1 10))).set 11 (.ref (u.1 4))).set 12 (.ref (u.1 5))).set 13 (.ref (u.1 11))).set 14 (.int (-1))).set 15 (.int 0)).set 16 (.int 0)).set 17 (.ref (u.1 6))), px_l (u.1 0) (y 2) 6 (fun _ => 0), px_i (u.1 1) (y 1) 78 (fun _ => 0), px_i (u.1 2) (y 1) 6 (fun _ => 0), px_i (u.1 3) (y 1) 52 (fun _ => 0), px_i (u.1 4) (y 1) 6 (fun _ => 0), px_i (u.1 5) (y 1) 6 (fun _ => 0), px_o (u.1 6) 3 [.ref (u.1 7), .ref (u.1 8), .int 0, .ref (u.1 9)], px_i (u.1 7) (y 1) 78 (fun _ => 0), px_i (u.1 8) (y 1) 52 (fun _ => 0), px_i (u.1 9) (y 1) 6 (fun _ => 0), px_i (u.1 10) (y 1) 13 (u.2.1 0), px_i (u.1 11) (y 1) 6 (u.2.1 1)] t.heap ∧ va_D (va_A [px_o g 2 fg] sz) [px_o g 2 ((((((((((((((((((fg.set 0 (.int 0)).set 1 (.int 0)).set 2 (.int 0)).set 3 (.int 0)).set 4 (.ref (u.1 0))).set 5 (.ref (u.1 1))).set 6 (.ref (u.1 2))).set 7 (.ref (u.1 3))).set 8 (.int 0)).set 9 (.int 0)).set 10 (.ref (u.1 10))).set 11 (.ref (u.1 4))).set 12 (.ref (u.1 5))).set 13 (.ref (u.1 11))).set 14 (.int (-1))).set 15 (.int 0)).set 16 (.int 0)).set 17 (.ref (u.1 6))), px_l (u.1 0) (y 2) 6 (fun _ => 0), px_i (u.1 1) (y 1) 78 (fun _ => 0), px_i (u.1 2) (y 1) 6 (fun _ => 0), px_i (u.1 3) (y 1) 52 (fun _ => 0), px_i (u.1 4) (y 1) 6 (fun _ => 0), px_i (u.1 5) (y 1) 6 (fun _ => 0), px_o (u.1 6) 3 [.ref (u.1 7), .ref (u.1 8), .int 0, .ref (u.1 9)], px_i (u.1 7) (y 1) 78 (fun _ => 0), px_i (u.1 8) (y 1) 52 (fun _ => 0), px_i (u.1 9) (y 1) 6 (fun _ => 0), px_i (u.1 10) (y 1) 13 (u.2.1 0), px_i (u.1 11) (y 1) 6 (u.2.1 1)]) (va_A [px_o g 2 fg] sz)) 12 313 (va_A [px_o g 2 fg] sz) := by
  refine Met.ofW (cc := cX2_init) (maxL := 1) (ret := none) (by decide) rfl ?_
  intro p e s m args below meth c s₁ B hml hv
  obtain ⟨rfl, ⟨hsz, hP, hK, hD0⟩, hXX⟩ := hv
  have haoG := hXX.1
  have haoS := hXX.2.1
  have hx := B.exec
  have hb := B.bytes
  have hr := B.returns
  have hts := atoms_spec (ws := px_w yX2_init cX2_init 1 none) B.pre
  have hg : ∀ w ∈ gw, w.before [.ref g].toArray s = true := fun w h => hts w (List.mem_cons_of_mem _ h)
  have hown : s.vm.findClass RX2 = some m.cls := findClass_of_methodNamed B.named
  have hlocks := B.notSynchronized
  have hin : meth.name = "<init>" := (name_of_methodNamed B.named B.method).1
  subst hsz
  have hD := hD0.self (sz := s.heap.size)
  generalize hAe : va_A [px_o g 2 fg] s.heap.size = A at hD ⊢
  have hA : ∀ q : Nat, s.heap.size ≤ q → A q := fun q h => by rw [← hAe]; exact Or.inr h
  have hS : va_S A s.heap s.heap [] := va_S.rf
  have hP : va_P D vwCl [px_o g 2 fg] s.heap := hP
  have hl := lv_entry ([.ref g]) (n := 1) (Nat.le_of_ble_eq_true rfl)
  rw [lg_entry_eq]
  generalize (lg_sl ([.ref g]) ++ List.replicate (1 - (lg_sl ([.ref g])).length) Slot.unset).toArray = ls at hl ⊢
  have hl : lv_has ls 1 [(0, .ref g)] := hl
  refine lv_aload_n hx hb dX2_init_0 rfl (lv_at hl 0 rfl) ?_
  refine W.objInit hx hb hown (hg _ q_1_37) (hg _ q_1_30) (hg _ q_1_31) rfl (by rw [hml]; exact hl.1) rfl dX2_init_1 (Nat.le_of_ble_eq_true rfl) (Nat.le_of_ble_eq_true rfl) ?_
  refine W.eq (g2 := F0 m 4 ls []) rfl ?_
  refine lv_aload_n hx hb dX2_init_4 rfl (lv_at hl 0 rfl) ?_
  refine lv_iconst (v := 0) hx hb dX2_init_5 (by decide) ?_
  refine va_put (D := D) (ci := 2) (v := .int 0) (ty := .int) (C := RX2) (T := TX2) (N := 18) hx hb hg inGX2 tyX2 tyX2_ok nmX2 hown hK hP hD hS 0 rfl rfl 0 (by decide) (hg _ q_1_64) (fun _ h9 => h9) rfl (by decide +kernel) rfl rfl (px_len hg_0) dX2_init_6 (fun H_1 locs_1 hP_1 hD_1 hS_1 => ?_)
  clear hP hD hS
  have hP : va_P D vwCl [px_o g 2 (fg.set 0 (.int 0))] H_1 := hP_1
  have hD : va_D A [px_o g 2 (fg.set 0 (.int 0))] := hD_1
  have hS := hS_1
  clear hP_1 hD_1 hS_1
  refine lv_aload_n hx hb dX2_init_9 rfl (lv_at hl 0 rfl) ?_
  refine lv_iconst (v := 0) hx hb dX2_init_10 (by decide) ?_
  refine va_put (D := D) (ci := 2) (v := .int 0) (ty := .int) (C := RX2) (T := TX2) (N := 18) hx hb hg inGX2 tyX2 tyX2_ok nmX2 hown hK hP hD hS 0 rfl rfl 1 (by decide) (hg _ q_1_70) (fun _ h9 => h9) rfl (by decide +kernel) rfl rfl (px_len (px_sn (by decide) hg_1)) dX2_init_11 (fun H_2 locs_2 hP_2 hD_2 hS_2 => ?_)
  clear hP hD hS
  have hP : va_P D vwCl [px_o g 2 ((fg.set 0 (.int 0)).set 1 (.int 0))] H_2 := hP_2
  have hD : va_D A [px_o g 2 ((fg.set 0 (.int 0)).set 1 (.int 0))] := hD_2
  have hS := hS_2
  clear hP_2 hD_2 hS_2
  refine lv_aload_n hx hb dX2_init_14 rfl (lv_at hl 0 rfl) ?_
  refine lv_iconst (v := 0) hx hb dX2_init_15 (by decide) ?_
  refine va_put (D := D) (ci := 2) (v := .int 0) (ty := .boolean) (C := RX2) (T := TX2) (N := 18) hx hb hg inGX2 tyX2 tyX2_ok nmX2 hown hK hP hD hS 0 rfl rfl 2 (by decide) (hg _ q_1_74) (fun _ h9 => h9) rfl (by decide +kernel) (by decide) rfl (px_len (px_sn (by decide) (px_sn (by decide) hg_2))) dX2_init_16 (fun H_3 locs_3 hP_3 hD_3 hS_3 => ?_)
  clear hP hD hS
  have hP : va_P D vwCl [px_o g 2 (((fg.set 0 (.int 0)).set 1 (.int 0)).set 2 (.int 0))] H_3 := hP_3
  have hD : va_D A [px_o g 2 (((fg.set 0 (.int 0)).set 1 (.int 0)).set 2 (.int 0))] := hD_3
  have hS := hS_3
  clear hP_3 hD_3 hS_3
  refine lv_aload_n hx hb dX2_init_19 rfl (lv_at hl 0 rfl) ?_
  refine lv_iconst (v := 0) hx hb dX2_init_20 (by decide) ?_
  refine va_put (D := D) (ci := 2) (v := .int 0) (ty := .int) (C := RX2) (T := TX2) (N := 18) hx hb hg inGX2 tyX2 tyX2_ok nmX2 hown hK hP hD hS 0 rfl rfl 3 (by decide) (hg _ q_1_78) (fun _ h9 => h9) rfl (by decide +kernel) rfl rfl (px_len (px_sn (by decide) (px_sn (by decide) (px_sn (by decide) hg_3)))) dX2_init_21 (fun H_4 locs_4 hP_4 hD_4 hS_4 => ?_)
  clear hP hD hS
  have hP : va_P D vwCl [px_o g 2 ((((fg.set 0 (.int 0)).set 1 (.int 0)).set 2 (.int 0)).set 3 (.int 0))] H_4 := hP_4
  have hD : va_D A [px_o g 2 ((((fg.set 0 (.int 0)).set 1 (.int 0)).set 2 (.int 0)).set 3 (.int 0))] := hD_4
  have hS := hS_4
  clear hP_4 hD_4 hS_4
  refine lv_aload_n hx hb dX2_init_24 rfl (lv_at hl 0 rfl) ?_
  refine lv_bipush (v := 6) hx hb dX2_init_25 (by decide) ?_
  refine px_newa (atype := .long) (ty := .long) hx hb (hg _ q_1_59) rfl hK hP hD hS hA 2 rfl (N' := 6) (a0 := (6, .inr (.inl (fun _ => 0)))) (px_along _) (by decide) (by decide) (by decide) (Nat.le_of_ble_eq_true rfl) (Nat.le_of_ble_eq_true rfl) dX2_init_27 (fun q5 H_6 hP_6 hD_6 hS_6 => ?_)
  clear hP hD hS
  have hP : va_P D vwCl [px_o g 2 ((((fg.set 0 (.int 0)).set 1 (.int 0)).set 2 (.int 0)).set 3 (.int 0)), px_l q5 (y 2) 6 (fun _ => 0)] H_6 := hP_6
  have hD : va_D A [px_o g 2 ((((fg.set 0 (.int 0)).set 1 (.int 0)).set 2 (.int 0)).set 3 (.int 0)), px_l q5 (y 2) 6 (fun _ => 0)] := hD_6
  have hS := hS_6
  clear hP_6 hD_6 hS_6
  refine W.cs (cells' := 1) (slots' := 6) rfl rfl ?_
  refine va_putF (D := D) (ci := 2) (v := .ref q5) (ty := (.array .long)) (C := RX2) (T := TX2) (N := 18) hx hb hg inGX2 tyX2 tyX2_ok nmX2 hown hK hP hD hS 0 rfl rfl 4 (by decide) (hg _ q_1_82) (fun _ h9 => h9) rfl hin rfl (by decide +kernel) rfl rfl (px_len (px_sn (by decide) (px_sn (by decide) (px_sn (by decide) (px_sn (by decide) hg_4))))) dX2_init_29 (fun H_7 locs_7 hP_7 hD_7 hS_7 => ?_)
  clear hP hD hS
  have hP : va_P D vwCl [px_o g 2 (((((fg.set 0 (.int 0)).set 1 (.int 0)).set 2 (.int 0)).set 3 (.int 0)).set 4 (.ref q5)), px_l q5 (y 2) 6 (fun _ => 0)] H_7 := hP_7
  have hD : va_D A [px_o g 2 (((((fg.set 0 (.int 0)).set 1 (.int 0)).set 2 (.int 0)).set 3 (.int 0)).set 4 (.ref q5)), px_l q5 (y 2) 6 (fun _ => 0)] := hD_7
  have hS := hS_7
  clear hP_7 hD_7 hS_7
  refine lv_aload_n hx hb dX2_init_32 rfl (lv_at hl 0 rfl) ?_
  refine lv_bipush (v := 78) hx hb dX2_init_33 (by decide) ?_
  refine px_newa (atype := .int) (ty := .int) hx hb (hg _ q_1_60) rfl hK hP hD hS hA 1 rfl (N' := 78) (a0 := (78, .inl (fun _ => 0))) (px_aint _) (by decide) (by decide) (by decide) (Nat.le_of_ble_eq_true rfl) (Nat.le_of_ble_eq_true rfl) dX2_init_35 (fun q8 H_9 hP_9 hD_9 hS_9 => ?_)
  clear hP hD hS
  have hP : va_P D vwCl [px_o g 2 (((((fg.set 0 (.int 0)).set 1 (.int 0)).set 2 (.int 0)).set 3 (.int 0)).set 4 (.ref q5)), px_l q5 (y 2) 6 (fun _ => 0), px_i q8 (y 1) 78 (fun _ => 0)] H_9 := hP_9
  have hD : va_D A [px_o g 2 (((((fg.set 0 (.int 0)).set 1 (.int 0)).set 2 (.int 0)).set 3 (.int 0)).set 4 (.ref q5)), px_l q5 (y 2) 6 (fun _ => 0), px_i q8 (y 1) 78 (fun _ => 0)] := hD_9
  have hS := hS_9
  clear hP_9 hD_9 hS_9
  refine W.cs (cells' := 2) (slots' := 84) rfl rfl ?_
  refine va_putF (D := D) (ci := 2) (v := .ref q8) (ty := (.array .int)) (C := RX2) (T := TX2) (N := 18) hx hb hg inGX2 tyX2 tyX2_ok nmX2 hown hK hP hD hS 0 rfl rfl 5 (by decide) (hg _ q_1_83) (fun _ h9 => h9) rfl hin rfl (by decide +kernel) rfl rfl (px_len (px_sn (by decide) (px_sn (by decide) (px_sn (by decide) (px_sn (by decide) (px_sn (by decide) hg_5)))))) dX2_init_37 (fun H_10 locs_10 hP_10 hD_10 hS_10 => ?_)
  clear hP hD hS
  have hP : va_P D vwCl [px_o g 2 ((((((fg.set 0 (.int 0)).set 1 (.int 0)).set 2 (.int 0)).set 3 (.int 0)).set 4 (.ref q5)).set 5 (.ref q8)), px_l q5 (y 2) 6 (fun _ => 0), px_i q8 (y 1) 78 (fun _ => 0)] H_10 := hP_10
  have hD : va_D A [px_o g 2 ((((((fg.set 0 (.int 0)).set 1 (.int 0)).set 2 (.int 0)).set 3 (.int 0)).set 4 (.ref q5)).set 5 (.ref q8)), px_l q5 (y 2) 6 (fun _ => 0), px_i q8 (y 1) 78 (fun _ => 0)] := hD_10
  have hS := hS_10
  clear hP_10 hD_10 hS_10
  refine lv_aload_n hx hb dX2_init_40 rfl (lv_at hl 0 rfl) ?_
  refine lv_bipush (v := 6) hx hb dX2_init_41 (by decide) ?_
  refine px_newa (atype := .int) (ty := .int) hx hb (hg _ q_1_60) rfl hK hP hD hS hA 1 rfl (N' := 6) (a0 := (6, .inl (fun _ => 0))) (px_aint _) (by decide) (by decide) (by decide) (Nat.le_of_ble_eq_true rfl) (Nat.le_of_ble_eq_true rfl) dX2_init_43 (fun q11 H_12 hP_12 hD_12 hS_12 => ?_)
  clear hP hD hS
  have hP : va_P D vwCl [px_o g 2 ((((((fg.set 0 (.int 0)).set 1 (.int 0)).set 2 (.int 0)).set 3 (.int 0)).set 4 (.ref q5)).set 5 (.ref q8)), px_l q5 (y 2) 6 (fun _ => 0), px_i q8 (y 1) 78 (fun _ => 0), px_i q11 (y 1) 6 (fun _ => 0)] H_12 := hP_12
  have hD : va_D A [px_o g 2 ((((((fg.set 0 (.int 0)).set 1 (.int 0)).set 2 (.int 0)).set 3 (.int 0)).set 4 (.ref q5)).set 5 (.ref q8)), px_l q5 (y 2) 6 (fun _ => 0), px_i q8 (y 1) 78 (fun _ => 0), px_i q11 (y 1) 6 (fun _ => 0)] := hD_12
  have hS := hS_12
  clear hP_12 hD_12 hS_12
  refine W.cs (cells' := 3) (slots' := 90) rfl rfl ?_
  refine va_putF (D := D) (ci := 2) (v := .ref q11) (ty := (.array .int)) (C := RX2) (T := TX2) (N := 18) hx hb hg inGX2 tyX2 tyX2_ok nmX2 hown hK hP hD hS 0 rfl rfl 6 (by decide) (hg _ q_1_84) (fun _ h9 => h9) rfl hin rfl (by decide +kernel) rfl rfl (px_len (px_sn (by decide) (px_sn (by decide) (px_sn (by decide) (px_sn (by decide) (px_sn (by decide) (px_sn (by decide) hg_6))))))) dX2_init_45 (fun H_13 locs_13 hP_13 hD_13 hS_13 => ?_)
  clear hP hD hS
  have hP : va_P D vwCl [px_o g 2 (((((((fg.set 0 (.int 0)).set 1 (.int 0)).set 2 (.int 0)).set 3 (.int 0)).set 4 (.ref q5)).set 5 (.ref q8)).set 6 (.ref q11)), px_l q5 (y 2) 6 (fun _ => 0), px_i q8 (y 1) 78 (fun _ => 0), px_i q11 (y 1) 6 (fun _ => 0)] H_13 := hP_13
  have hD : va_D A [px_o g 2 (((((((fg.set 0 (.int 0)).set 1 (.int 0)).set 2 (.int 0)).set 3 (.int 0)).set 4 (.ref q5)).set 5 (.ref q8)).set 6 (.ref q11)), px_l q5 (y 2) 6 (fun _ => 0), px_i q8 (y 1) 78 (fun _ => 0), px_i q11 (y 1) 6 (fun _ => 0)] := hD_13
  have hS := hS_13
  clear hP_13 hD_13 hS_13
  refine lv_aload_n hx hb dX2_init_48 rfl (lv_at hl 0 rfl) ?_
  refine lv_bipush (v := 52) hx hb dX2_init_49 (by decide) ?_
  refine px_newa (atype := .int) (ty := .int) hx hb (hg _ q_1_60) rfl hK hP hD hS hA 1 rfl (N' := 52) (a0 := (52, .inl (fun _ => 0))) (px_aint _) (by decide) (by decide) (by decide) (Nat.le_of_ble_eq_true rfl) (Nat.le_of_ble_eq_true rfl) dX2_init_51 (fun q14 H_15 hP_15 hD_15 hS_15 => ?_)
  clear hP hD hS
  have hP : va_P D vwCl [px_o g 2 (((((((fg.set 0 (.int 0)).set 1 (.int 0)).set 2 (.int 0)).set 3 (.int 0)).set 4 (.ref q5)).set 5 (.ref q8)).set 6 (.ref q11)), px_l q5 (y 2) 6 (fun _ => 0), px_i q8 (y 1) 78 (fun _ => 0), px_i q11 (y 1) 6 (fun _ => 0), px_i q14 (y 1) 52 (fun _ => 0)] H_15 := hP_15
  have hD : va_D A [px_o g 2 (((((((fg.set 0 (.int 0)).set 1 (.int 0)).set 2 (.int 0)).set 3 (.int 0)).set 4 (.ref q5)).set 5 (.ref q8)).set 6 (.ref q11)), px_l q5 (y 2) 6 (fun _ => 0), px_i q8 (y 1) 78 (fun _ => 0), px_i q11 (y 1) 6 (fun _ => 0), px_i q14 (y 1) 52 (fun _ => 0)] := hD_15
  have hS := hS_15
  clear hP_15 hD_15 hS_15
  refine W.cs (cells' := 4) (slots' := 142) rfl rfl ?_
  refine va_putF (D := D) (ci := 2) (v := .ref q14) (ty := (.array .int)) (C := RX2) (T := TX2) (N := 18) hx hb hg inGX2 tyX2 tyX2_ok nmX2 hown hK hP hD hS 0 rfl rfl 7 (by decide) (hg _ q_1_86) (fun _ h9 => h9) rfl hin rfl (by decide +kernel) rfl rfl (px_len (px_sn (by decide) (px_sn (by decide) (px_sn (by decide) (px_sn (by decide) (px_sn (by decide) (px_sn (by decide) (px_sn (by decide) hg_7)))))))) dX2_init_53 (fun H_16 locs_16 hP_16 hD_16 hS_16 => ?_)
  clear hP hD hS
  have hP : va_P D vwCl [px_o g 2 ((((((((fg.set 0 (.int 0)).set 1 (.int 0)).set 2 (.int 0)).set 3 (.int 0)).set 4 (.ref q5)).set 5 (.ref q8)).set 6 (.ref q11)).set 7 (.ref q14)), px_l q5 (y 2) 6 (fun _ => 0), px_i q8 (y 1) 78 (fun _ => 0), px_i q11 (y 1) 6 (fun _ => 0), px_i q14 (y 1) 52 (fun _ => 0)] H_16 := hP_16
  have hD : va_D A [px_o g 2 ((((((((fg.set 0 (.int 0)).set 1 (.int 0)).set 2 (.int 0)).set 3 (.int 0)).set 4 (.ref q5)).set 5 (.ref q8)).set 6 (.ref q11)).set 7 (.ref q14)), px_l q5 (y 2) 6 (fun _ => 0), px_i q8 (y 1) 78 (fun _ => 0), px_i q11 (y 1) 6 (fun _ => 0), px_i q14 (y 1) 52 (fun _ => 0)] := hD_16
  have hS := hS_16
  clear hP_16 hD_16 hS_16
  refine lv_aload_n hx hb dX2_init_56 rfl (lv_at hl 0 rfl) ?_
  refine lv_iconst (v := 0) hx hb dX2_init_57 (by decide) ?_
  refine va_put (D := D) (ci := 2) (v := .int 0) (ty := .int) (C := RX2) (T := TX2) (N := 18) hx hb hg inGX2 tyX2 tyX2_ok nmX2 hown hK hP hD hS 0 rfl rfl 8 (by decide) (hg _ q_1_89) (fun _ h9 => h9) rfl (by decide +kernel) rfl rfl (px_len (px_sn (by decide) (px_sn (by decide) (px_sn (by decide) (px_sn (by decide) (px_sn (by decide) (px_sn (by decide) (px_sn (by decide) (px_sn (by decide) hg_8))))))))) dX2_init_58 (fun H_17 locs_17 hP_17 hD_17 hS_17 => ?_)
  clear hP hD hS
  have hP : va_P D vwCl [px_o g 2 (((((((((fg.set 0 (.int 0)).set 1 (.int 0)).set 2 (.int 0)).set 3 (.int 0)).set 4 (.ref q5)).set 5 (.ref q8)).set 6 (.ref q11)).set 7 (.ref q14)).set 8 (.int 0)), px_l q5 (y 2) 6 (fun _ => 0), px_i q8 (y 1) 78 (fun _ => 0), px_i q11 (y 1) 6 (fun _ => 0), px_i q14 (y 1) 52 (fun _ => 0)] H_17 := hP_17
  have hD : va_D A [px_o g 2 (((((((((fg.set 0 (.int 0)).set 1 (.int 0)).set 2 (.int 0)).set 3 (.int 0)).set 4 (.ref q5)).set 5 (.ref q8)).set 6 (.ref q11)).set 7 (.ref q14)).set 8 (.int 0)), px_l q5 (y 2) 6 (fun _ => 0), px_i q8 (y 1) 78 (fun _ => 0), px_i q11 (y 1) 6 (fun _ => 0), px_i q14 (y 1) 52 (fun _ => 0)] := hD_17
  have hS := hS_17
  clear hP_17 hD_17 hS_17
  refine lv_aload_n hx hb dX2_init_61 rfl (lv_at hl 0 rfl) ?_
  refine lv_iconst (v := 0) hx hb dX2_init_62 (by decide) ?_
  refine va_put (D := D) (ci := 2) (v := .int 0) (ty := .int) (C := RX2) (T := TX2) (N := 18) hx hb hg inGX2 tyX2 tyX2_ok nmX2 hown hK hP hD hS 0 rfl rfl 9 (by decide) (hg _ q_1_92) (fun _ h9 => h9) rfl (by decide +kernel) rfl rfl (px_len (px_sn (by decide) (px_sn (by decide) (px_sn (by decide) (px_sn (by decide) (px_sn (by decide) (px_sn (by decide) (px_sn (by decide) (px_sn (by decide) (px_sn (by decide) hg_9)))))))))) dX2_init_63 (fun H_18 locs_18 hP_18 hD_18 hS_18 => ?_)
  clear hP hD hS
  have hP : va_P D vwCl [px_o g 2 ((((((((((fg.set 0 (.int 0)).set 1 (.int 0)).set 2 (.int 0)).set 3 (.int 0)).set 4 (.ref q5)).set 5 (.ref q8)).set 6 (.ref q11)).set 7 (.ref q14)).set 8 (.int 0)).set 9 (.int 0)), px_l q5 (y 2) 6 (fun _ => 0), px_i q8 (y 1) 78 (fun _ => 0), px_i q11 (y 1) 6 (fun _ => 0), px_i q14 (y 1) 52 (fun _ => 0)] H_18 := hP_18
  have hD : va_D A [px_o g 2 ((((((((((fg.set 0 (.int 0)).set 1 (.int 0)).set 2 (.int 0)).set 3 (.int 0)).set 4 (.ref q5)).set 5 (.ref q8)).set 6 (.ref q11)).set 7 (.ref q14)).set 8 (.int 0)).set 9 (.int 0)), px_l q5 (y 2) 6 (fun _ => 0), px_i q8 (y 1) 78 (fun _ => 0), px_i q11 (y 1) 6 (fun _ => 0), px_i q14 (y 1) 52 (fun _ => 0)] := hD_18
  have hS := hS_18
  clear hP_18 hD_18 hS_18
  refine lv_aload_n hx hb dX2_init_66 rfl (lv_at hl 0 rfl) ?_
  refine lv_bipush (v := 13) hx hb dX2_init_67 (by decide) ?_
  refine px_newa (atype := .int) (ty := .int) hx hb (hg _ q_1_60) rfl hK hP hD hS hA 1 rfl (N' := 13) (a0 := (13, .inl (fun _ => 0))) (px_aint _) (by decide) (by decide) (by decide) (Nat.le_of_ble_eq_true rfl) (Nat.le_of_ble_eq_true rfl) dX2_init_69 (fun q19 H_20 hP_20 hD_20 hS_20 => ?_)
  clear hP hD hS
  have hP : va_P D vwCl [px_o g 2 ((((((((((fg.set 0 (.int 0)).set 1 (.int 0)).set 2 (.int 0)).set 3 (.int 0)).set 4 (.ref q5)).set 5 (.ref q8)).set 6 (.ref q11)).set 7 (.ref q14)).set 8 (.int 0)).set 9 (.int 0)), px_l q5 (y 2) 6 (fun _ => 0), px_i q8 (y 1) 78 (fun _ => 0), px_i q11 (y 1) 6 (fun _ => 0), px_i q14 (y 1) 52 (fun _ => 0), px_i q19 (y 1) 13 (fun _ => 0)] H_20 := hP_20
  have hD : va_D A [px_o g 2 ((((((((((fg.set 0 (.int 0)).set 1 (.int 0)).set 2 (.int 0)).set 3 (.int 0)).set 4 (.ref q5)).set 5 (.ref q8)).set 6 (.ref q11)).set 7 (.ref q14)).set 8 (.int 0)).set 9 (.int 0)), px_l q5 (y 2) 6 (fun _ => 0), px_i q8 (y 1) 78 (fun _ => 0), px_i q11 (y 1) 6 (fun _ => 0), px_i q14 (y 1) 52 (fun _ => 0), px_i q19 (y 1) 13 (fun _ => 0)] := hD_20
  have hS := hS_20
  clear hP_20 hD_20 hS_20
  refine W.cs (cells' := 5) (slots' := 155) rfl rfl ?_
  refine va_putF (D := D) (ci := 2) (v := .ref q19) (ty := (.array .int)) (C := RX2) (T := TX2) (N := 18) hx hb hg inGX2 tyX2 tyX2_ok nmX2 hown hK hP hD hS 0 rfl rfl 10 (by decide) (hg _ q_1_93) (fun _ h9 => h9) rfl hin rfl (by decide +kernel) rfl rfl (px_len (px_sn (by decide) (px_sn (by decide) (px_sn (by decide) (px_sn (by decide) (px_sn (by decide) (px_sn (by decide) (px_sn (by decide) (px_sn (by decide) (px_sn (by decide) (px_sn (by decide) hg_10))))))))))) dX2_init_71 (fun H_21 locs_21 hP_21 hD_21 hS_21 => ?_)
  clear hP hD hS
  have hP : va_P D vwCl [px_o g 2 (((((((((((fg.set 0 (.int 0)).set 1 (.int 0)).set 2 (.int 0)).set 3 (.int 0)).set 4 (.ref q5)).set 5 (.ref q8)).set 6 (.ref q11)).set 7 (.ref q14)).set 8 (.int 0)).set 9 (.int 0)).set 10 (.ref q19)), px_l q5 (y 2) 6 (fun _ => 0), px_i q8 (y 1) 78 (fun _ => 0), px_i q11 (y 1) 6 (fun _ => 0), px_i q14 (y 1) 52 (fun _ => 0), px_i q19 (y 1) 13 (fun _ => 0)] H_21 := hP_21
  have hD : va_D A [px_o g 2 (((((((((((fg.set 0 (.int 0)).set 1 (.int 0)).set 2 (.int 0)).set 3 (.int 0)).set 4 (.ref q5)).set 5 (.ref q8)).set 6 (.ref q11)).set 7 (.ref q14)).set 8 (.int 0)).set 9 (.int 0)).set 10 (.ref q19)), px_l q5 (y 2) 6 (fun _ => 0), px_i q8 (y 1) 78 (fun _ => 0), px_i q11 (y 1) 6 (fun _ => 0), px_i q14 (y 1) 52 (fun _ => 0), px_i q19 (y 1) 13 (fun _ => 0)] := hD_21
  have hS := hS_21
  clear hP_21 hD_21 hS_21
  refine lv_aload_n hx hb dX2_init_74 rfl (lv_at hl 0 rfl) ?_
  refine lv_bipush (v := 6) hx hb dX2_init_75 (by decide) ?_
  refine px_newa (atype := .int) (ty := .int) hx hb (hg _ q_1_60) rfl hK hP hD hS hA 1 rfl (N' := 6) (a0 := (6, .inl (fun _ => 0))) (px_aint _) (by decide) (by decide) (by decide) (Nat.le_of_ble_eq_true rfl) (Nat.le_of_ble_eq_true rfl) dX2_init_77 (fun q22 H_23 hP_23 hD_23 hS_23 => ?_)
  clear hP hD hS
  have hP : va_P D vwCl [px_o g 2 (((((((((((fg.set 0 (.int 0)).set 1 (.int 0)).set 2 (.int 0)).set 3 (.int 0)).set 4 (.ref q5)).set 5 (.ref q8)).set 6 (.ref q11)).set 7 (.ref q14)).set 8 (.int 0)).set 9 (.int 0)).set 10 (.ref q19)), px_l q5 (y 2) 6 (fun _ => 0), px_i q8 (y 1) 78 (fun _ => 0), px_i q11 (y 1) 6 (fun _ => 0), px_i q14 (y 1) 52 (fun _ => 0), px_i q19 (y 1) 13 (fun _ => 0), px_i q22 (y 1) 6 (fun _ => 0)] H_23 := hP_23
  have hD : va_D A [px_o g 2 (((((((((((fg.set 0 (.int 0)).set 1 (.int 0)).set 2 (.int 0)).set 3 (.int 0)).set 4 (.ref q5)).set 5 (.ref q8)).set 6 (.ref q11)).set 7 (.ref q14)).set 8 (.int 0)).set 9 (.int 0)).set 10 (.ref q19)), px_l q5 (y 2) 6 (fun _ => 0), px_i q8 (y 1) 78 (fun _ => 0), px_i q11 (y 1) 6 (fun _ => 0), px_i q14 (y 1) 52 (fun _ => 0), px_i q19 (y 1) 13 (fun _ => 0), px_i q22 (y 1) 6 (fun _ => 0)] := hD_23
  have hS := hS_23
  clear hP_23 hD_23 hS_23
  refine W.cs (cells' := 6) (slots' := 161) rfl rfl ?_
  refine va_putF (D := D) (ci := 2) (v := .ref q22) (ty := (.array .int)) (C := RX2) (T := TX2) (N := 18) hx hb hg inGX2 tyX2 tyX2_ok nmX2 hown hK hP hD hS 0 rfl rfl 11 (by decide) (hg _ q_1_96) (fun _ h9 => h9) rfl hin rfl (by decide +kernel) rfl rfl (px_len (px_sn (by decide) (px_sn (by decide) (px_sn (by decide) (px_sn (by decide) (px_sn (by decide) (px_sn (by decide) (px_sn (by decide) (px_sn (by decide) (px_sn (by decide) (px_sn (by decide) (px_sn (by decide) hg_11)))))))))))) dX2_init_79 (fun H_24 locs_24 hP_24 hD_24 hS_24 => ?_)
  clear hP hD hS
  have hP : va_P D vwCl [px_o g 2 ((((((((((((fg.set 0 (.int 0)).set 1 (.int 0)).set 2 (.int 0)).set 3 (.int 0)).set 4 (.ref q5)).set 5 (.ref q8)).set 6 (.ref q11)).set 7 (.ref q14)).set 8 (.int 0)).set 9 (.int 0)).set 10 (.ref q19)).set 11 (.ref q22)), px_l q5 (y 2) 6 (fun _ => 0), px_i q8 (y 1) 78 (fun _ => 0), px_i q11 (y 1) 6 (fun _ => 0), px_i q14 (y 1) 52 (fun _ => 0), px_i q19 (y 1) 13 (fun _ => 0), px_i q22 (y 1) 6 (fun _ => 0)] H_24 := hP_24
  have hD : va_D A [px_o g 2 ((((((((((((fg.set 0 (.int 0)).set 1 (.int 0)).set 2 (.int 0)).set 3 (.int 0)).set 4 (.ref q5)).set 5 (.ref q8)).set 6 (.ref q11)).set 7 (.ref q14)).set 8 (.int 0)).set 9 (.int 0)).set 10 (.ref q19)).set 11 (.ref q22)), px_l q5 (y 2) 6 (fun _ => 0), px_i q8 (y 1) 78 (fun _ => 0), px_i q11 (y 1) 6 (fun _ => 0), px_i q14 (y 1) 52 (fun _ => 0), px_i q19 (y 1) 13 (fun _ => 0), px_i q22 (y 1) 6 (fun _ => 0)] := hD_24
  have hS := hS_24
  clear hP_24 hD_24 hS_24
  refine lv_aload_n hx hb dX2_init_82 rfl (lv_at hl 0 rfl) ?_
  refine lv_bipush (v := 6) hx hb dX2_init_83 (by decide) ?_
  refine px_newa (atype := .int) (ty := .int) hx hb (hg _ q_1_60) rfl hK hP hD hS hA 1 rfl (N' := 6) (a0 := (6, .inl (fun _ => 0))) (px_aint _) (by decide) (by decide) (by decide) (Nat.le_of_ble_eq_true rfl) (Nat.le_of_ble_eq_true rfl) dX2_init_85 (fun q25 H_26 hP_26 hD_26 hS_26 => ?_)
  clear hP hD hS
  have hP : va_P D vwCl [px_o g 2 ((((((((((((fg.set 0 (.int 0)).set 1 (.int 0)).set 2 (.int 0)).set 3 (.int 0)).set 4 (.ref q5)).set 5 (.ref q8)).set 6 (.ref q11)).set 7 (.ref q14)).set 8 (.int 0)).set 9 (.int 0)).set 10 (.ref q19)).set 11 (.ref q22)), px_l q5 (y 2) 6 (fun _ => 0), px_i q8 (y 1) 78 (fun _ => 0), px_i q11 (y 1) 6 (fun _ => 0), px_i q14 (y 1) 52 (fun _ => 0), px_i q19 (y 1) 13 (fun _ => 0), px_i q22 (y 1) 6 (fun _ => 0), px_i q25 (y 1) 6 (fun _ => 0)] H_26 := hP_26
  have hD : va_D A [px_o g 2 ((((((((((((fg.set 0 (.int 0)).set 1 (.int 0)).set 2 (.int 0)).set 3 (.int 0)).set 4 (.ref q5)).set 5 (.ref q8)).set 6 (.ref q11)).set 7 (.ref q14)).set 8 (.int 0)).set 9 (.int 0)).set 10 (.ref q19)).set 11 (.ref q22)), px_l q5 (y 2) 6 (fun _ => 0), px_i q8 (y 1) 78 (fun _ => 0), px_i q11 (y 1) 6 (fun _ => 0), px_i q14 (y 1) 52 (fun _ => 0), px_i q19 (y 1) 13 (fun _ => 0), px_i q22 (y 1) 6 (fun _ => 0), px_i q25 (y 1) 6 (fun _ => 0)] := hD_26
  have hS := hS_26
  clear hP_26 hD_26 hS_26
  refine W.cs (cells' := 7) (slots' := 167) rfl rfl ?_
  refine va_putF (D := D) (ci := 2) (v := .ref q25) (ty := (.array .int)) (C := RX2) (T := TX2) (N := 18) hx hb hg inGX2 tyX2 tyX2_ok nmX2 hown hK hP hD hS 0 rfl rfl 12 (by decide) (hg _ q_1_98) (fun _ h9 => h9) rfl hin rfl (by decide +kernel) rfl rfl (px_len (px_sn (by decide) (px_sn (by decide) (px_sn (by decide) (px_sn (by decide) (px_sn (by decide) (px_sn (by decide) (px_sn (by decide) (px_sn (by decide) (px_sn (by decide) (px_sn (by decide) (px_sn (by decide) (px_sn (by decide) hg_12))))))))))))) dX2_init_87 (fun H_27 locs_27 hP_27 hD_27 hS_27 => ?_)
  clear hP hD hS
  have hP : va_P D vwCl [px_o g 2 (((((((((((((fg.set 0 (.int 0)).set 1 (.int 0)).set 2 (.int 0)).set 3 (.int 0)).set 4 (.ref q5)).set 5 (.ref q8)).set 6 (.ref q11)).set 7 (.ref q14)).set 8 (.int 0)).set 9 (.int 0)).set 10 (.ref q19)).set 11 (.ref q22)).set 12 (.ref q25)), px_l q5 (y 2) 6 (fun _ => 0), px_i q8 (y 1) 78 (fun _ => 0), px_i q11 (y 1) 6 (fun _ => 0), px_i q14 (y 1) 52 (fun _ => 0), px_i q19 (y 1) 13 (fun _ => 0), px_i q22 (y 1) 6 (fun _ => 0), px_i q25 (y 1) 6 (fun _ => 0)] H_27 := hP_27
  have hD : va_D A [px_o g 2 (((((((((((((fg.set 0 (.int 0)).set 1 (.int 0)).set 2 (.int 0)).set 3 (.int 0)).set 4 (.ref q5)).set 5 (.ref q8)).set 6 (.ref q11)).set 7 (.ref q14)).set 8 (.int 0)).set 9 (.int 0)).set 10 (.ref q19)).set 11 (.ref q22)).set 12 (.ref q25)), px_l q5 (y 2) 6 (fun _ => 0), px_i q8 (y 1) 78 (fun _ => 0), px_i q11 (y 1) 6 (fun _ => 0), px_i q14 (y 1) 52 (fun _ => 0), px_i q19 (y 1) 13 (fun _ => 0), px_i q22 (y 1) 6 (fun _ => 0), px_i q25 (y 1) 6 (fun _ => 0)] := hD_27
  have hS := hS_27
  clear hP_27 hD_27 hS_27
  refine lv_aload_n hx hb dX2_init_90 rfl (lv_at hl 0 rfl) ?_
  refine lv_bipush (v := 6) hx hb dX2_init_91 (by decide) ?_
  refine px_newa (atype := .int) (ty := .int) hx hb (hg _ q_1_60) rfl hK hP hD hS hA 1 rfl (N' := 6) (a0 := (6, .inl (fun _ => 0))) (px_aint _) (by decide) (by decide) (by decide) (Nat.le_of_ble_eq_true rfl) (Nat.le_of_ble_eq_true rfl) dX2_init_93 (fun q28 H_29 hP_29 hD_29 hS_29 => ?_)
  clear hP hD hS
  have hP : va_P D vwCl [px_o g 2 (((((((((((((fg.set 0 (.int 0)).set 1 (.int 0)).set 2 (.int 0)).set 3 (.int 0)).set 4 (.ref q5)).set 5 (.ref q8)).set 6 (.ref q11)).set 7 (.ref q14)).set 8 (.int 0)).set 9 (.int 0)).set 10 (.ref q19)).set 11 (.ref q22)).set 12 (.ref q25)), px_l q5 (y 2) 6 (fun _ => 0), px_i q8 (y 1) 78 (fun _ => 0), px_i q11 (y 1) 6 (fun _ => 0), px_i q14 (y 1) 52 (fun _ => 0), px_i q19 (y 1) 13 (fun _ => 0), px_i q22 (y 1) 6 (fun _ => 0), px_i q25 (y 1) 6 (fun _ => 0), px_i q28 (y 1) 6 (fun _ => 0)] H_29 := hP_29
  have hD : va_D A [px_o g 2 (((((((((((((fg.set 0 (.int 0)).set 1 (.int 0)).set 2 (.int 0)).set 3 (.int 0)).set 4 (.ref q5)).set 5 (.ref q8)).set 6 (.ref q11)).set 7 (.ref q14)).set 8 (.int 0)).set 9 (.int 0)).set 10 (.ref q19)).set 11 (.ref q22)).set 12 (.ref q25)), px_l q5 (y 2) 6 (fun _ => 0), px_i q8 (y 1) 78 (fun _ => 0), px_i q11 (y 1) 6 (fun _ => 0), px_i q14 (y 1) 52 (fun _ => 0), px_i q19 (y 1) 13 (fun _ => 0), px_i q22 (y 1) 6 (fun _ => 0), px_i q25 (y 1) 6 (fun _ => 0), px_i q28 (y 1) 6 (fun _ => 0)] := hD_29
  have hS := hS_29
  clear hP_29 hD_29 hS_29
  refine W.cs (cells' := 8) (slots' := 173) rfl rfl ?_
  refine va_putF (D := D) (ci := 2) (v := .ref q28) (ty := (.array .int)) (C := RX2) (T := TX2) (N := 18) hx hb hg inGX2 tyX2 tyX2_ok nmX2 hown hK hP hD hS 0 rfl rfl 13 (by decide) (hg _ q_1_100) (fun _ h9 => h9) rfl hin rfl (by decide +kernel) rfl rfl (px_len (px_sn (by decide) (px_sn (by decide) (px_sn (by decide) (px_sn (by decide) (px_sn (by decide) (px_sn (by decide) (px_sn (by decide) (px_sn (by decide) (px_sn (by decide) (px_sn (by decide) (px_sn (by decide) (px_sn (by decide) (px_sn (by decide) hg_13)))))))))))))) dX2_init_95 (fun H_30 locs_30 hP_30 hD_30 hS_30 => ?_)
  clear hP hD hS
  have hP : va_P D vwCl [px_o g 2 ((((((((((((((fg.set 0 (.int 0)).set 1 (.int 0)).set 2 (.int 0)).set 3 (.int 0)).set 4 (.ref q5)).set 5 (.ref q8)).set 6 (.ref q11)).set 7 (.ref q14)).set 8 (.int 0)).set 9 (.int 0)).set 10 (.ref q19)).set 11 (.ref q22)).set 12 (.ref q25)).set 13 (.ref q28)), px_l q5 (y 2) 6 (fun _ => 0), px_i q8 (y 1) 78 (fun _ => 0), px_i q11 (y 1) 6 (fun _ => 0), px_i q14 (y 1) 52 (fun _ => 0), px_i q19 (y 1) 13 (fun _ => 0), px_i q22 (y 1) 6 (fun _ => 0), px_i q25 (y 1) 6 (fun _ => 0), px_i q28 (y 1) 6 (fun _ => 0)] H_30 := hP_30
  have hD : va_D A [px_o g 2 ((((((((((((((fg.set 0 (.int 0)).set 1 (.int 0)).set 2 (.int 0)).set 3 (.int 0)).set 4 (.ref q5)).set 5 (.ref q8)).set 6 (.ref q11)).set 7 (.ref q14)).set 8 (.int 0)).set 9 (.int 0)).set 10 (.ref q19)).set 11 (.ref q22)).set 12 (.ref q25)).set 13 (.ref q28)), px_l q5 (y 2) 6 (fun _ => 0), px_i q8 (y 1) 78 (fun _ => 0), px_i q11 (y 1) 6 (fun _ => 0), px_i q14 (y 1) 52 (fun _ => 0), px_i q19 (y 1) 13 (fun _ => 0), px_i q22 (y 1) 6 (fun _ => 0), px_i q25 (y 1) 6 (fun _ => 0), px_i q28 (y 1) 6 (fun _ => 0)] := hD_30
  have hS := hS_30
  clear hP_30 hD_30 hS_30
  refine lv_aload_n hx hb dX2_init_98 rfl (lv_at hl 0 rfl) ?_
  refine lv_iconst (v := (-1)) hx hb dX2_init_99 (by decide) ?_
  refine va_put (D := D) (ci := 2) (v := .int (-1)) (ty := .int) (C := RX2) (T := TX2) (N := 18) hx hb hg inGX2 tyX2 tyX2_ok nmX2 hown hK hP hD hS 0 rfl rfl 14 (by decide) (hg _ q_1_102) (fun _ h9 => h9) rfl (by decide +kernel) rfl rfl (px_len (px_sn (by decide) (px_sn (by decide) (px_sn (by decide) (px_sn (by decide) (px_sn (by decide) (px_sn (by decide) (px_sn (by decide) (px_sn (by decide) (px_sn (by decide) (px_sn (by decide) (px_sn (by decide) (px_sn (by decide) (px_sn (by decide) (px_sn (by decide) hg_14))))))))))))))) dX2_init_100 (fun H_31 locs_31 hP_31 hD_31 hS_31 => ?_)
  clear hP hD hS
  have hP : va_P D vwCl [px_o g 2 (((((((((((((((fg.set 0 (.int 0)).set 1 (.int 0)).set 2 (.int 0)).set 3 (.int 0)).set 4 (.ref q5)).set 5 (.ref q8)).set 6 (.ref q11)).set 7 (.ref q14)).set 8 (.int 0)).set 9 (.int 0)).set 10 (.ref q19)).set 11 (.ref q22)).set 12 (.ref q25)).set 13 (.ref q28)).set 14 (.int (-1))), px_l q5 (y 2) 6 (fun _ => 0), px_i q8 (y 1) 78 (fun _ => 0), px_i q11 (y 1) 6 (fun _ => 0), px_i q14 (y 1) 52 (fun _ => 0), px_i q19 (y 1) 13 (fun _ => 0), px_i q22 (y 1) 6 (fun _ => 0), px_i q25 (y 1) 6 (fun _ => 0), px_i q28 (y 1) 6 (fun _ => 0)] H_31 := hP_31
  have hD : va_D A [px_o g 2 (((((((((((((((fg.set 0 (.int 0)).set 1 (.int 0)).set 2 (.int 0)).set 3 (.int 0)).set 4 (.ref q5)).set 5 (.ref q8)).set 6 (.ref q11)).set 7 (.ref q14)).set 8 (.int 0)).set 9 (.int 0)).set 10 (.ref q19)).set 11 (.ref q22)).set 12 (.ref q25)).set 13 (.ref q28)).set 14 (.int (-1))), px_l q5 (y 2) 6 (fun _ => 0), px_i q8 (y 1) 78 (fun _ => 0), px_i q11 (y 1) 6 (fun _ => 0), px_i q14 (y 1) 52 (fun _ => 0), px_i q19 (y 1) 13 (fun _ => 0), px_i q22 (y 1) 6 (fun _ => 0), px_i q25 (y 1) 6 (fun _ => 0), px_i q28 (y 1) 6 (fun _ => 0)] := hD_31
  have hS := hS_31
  clear hP_31 hD_31 hS_31
  refine lv_aload_n hx hb dX2_init_103 rfl (lv_at hl 0 rfl) ?_
  refine lv_iconst (v := 0) hx hb dX2_init_104 (by decide) ?_
  refine va_put (D := D) (ci := 2) (v := .int 0) (ty := .int) (C := RX2) (T := TX2) (N := 18) hx hb hg inGX2 tyX2 tyX2_ok nmX2 hown hK hP hD hS 0 rfl rfl 15 (by decide) (hg _ q_1_105) (fun _ h9 => h9) rfl (by decide +kernel) rfl rfl (px_len (px_sn (by decide) (px_sn (by decide) (px_sn (by decide) (px_sn (by decide) (px_sn (by decide) (px_sn (by decide) (px_sn (by decide) (px_sn (by decide) (px_sn (by decide) (px_sn (by decide) (px_sn (by decide) (px_sn (by decide) (px_sn (by decide) (px_sn (by decide) (px_sn (by decide) hg_15)))))))))))))))) dX2_init_105 (fun H_32 locs_32 hP_32 hD_32 hS_32 => ?_)
  clear hP hD hS
  have hP : va_P D vwCl [px_o g 2 ((((((((((((((((fg.set 0 (.int 0)).set 1 (.int 0)).set 2 (.int 0)).set 3 (.int 0)).set 4 (.ref q5)).set 5 (.ref q8)).set 6 (.ref q11)).set 7 (.ref q14)).set 8 (.int 0)).set 9 (.int 0)).set 10 (.ref q19)).set 11 (.ref q22)).set 12 (.ref q25)).set 13 (.ref q28)).set 14 (.int (-1))).set 15 (.int 0)), px_l q5 (y 2) 6 (fun _ => 0), px_i q8 (y 1) 78 (fun _ => 0), px_i q11 (y 1) 6 (fun _ => 0), px_i q14 (y 1) 52 (fun _ => 0), px_i q19 (y 1) 13 (fun _ => 0), px_i q22 (y 1) 6 (fun _ => 0), px_i q25 (y 1) 6 (fun _ => 0), px_i q28 (y 1) 6 (fun _ => 0)] H_32 := hP_32
  have hD : va_D A [px_o g 2 ((((((((((((((((fg.set 0 (.int 0)).set 1 (.int 0)).set 2 (.int 0)).set 3 (.int 0)).set 4 (.ref q5)).set 5 (.ref q8)).set 6 (.ref q11)).set 7 (.ref q14)).set 8 (.int 0)).set 9 (.int 0)).set 10 (.ref q19)).set 11 (.ref q22)).set 12 (.ref q25)).set 13 (.ref q28)).set 14 (.int (-1))).set 15 (.int 0)), px_l q5 (y 2) 6 (fun _ => 0), px_i q8 (y 1) 78 (fun _ => 0), px_i q11 (y 1) 6 (fun _ => 0), px_i q14 (y 1) 52 (fun _ => 0), px_i q19 (y 1) 13 (fun _ => 0), px_i q22 (y 1) 6 (fun _ => 0), px_i q25 (y 1) 6 (fun _ => 0), px_i q28 (y 1) 6 (fun _ => 0)] := hD_32
  have hS := hS_32
  clear hP_32 hD_32 hS_32
  refine lv_aload_n hx hb dX2_init_108 rfl (lv_at hl 0 rfl) ?_
  refine lv_iconst (v := 0) hx hb dX2_init_109 (by decide) ?_
  refine va_put (D := D) (ci := 2) (v := .int 0) (ty := .int) (C := RX2) (T := TX2) (N := 18) hx hb hg inGX2 tyX2 tyX2_ok nmX2 hown hK hP hD hS 0 rfl rfl 16 (by decide) (hg _ q_1_107) (fun _ h9 => h9) rfl (by decide +kernel) rfl rfl (px_len (px_sn (by decide) (px_sn (by decide) (px_sn (by decide) (px_sn (by decide) (px_sn (by decide) (px_sn (by decide) (px_sn (by decide) (px_sn (by decide) (px_sn (by decide) (px_sn (by decide) (px_sn (by decide) (px_sn (by decide) (px_sn (by decide) (px_sn (by decide) (px_sn (by decide) (px_sn (by decide) hg_16))))))))))))))))) dX2_init_110 (fun H_33 locs_33 hP_33 hD_33 hS_33 => ?_)
  clear hP hD hS
  have hP : va_P D vwCl [px_o g 2 (((((((((((((((((fg.set 0 (.int 0)).set 1 (.int 0)).set 2 (.int 0)).set 3 (.int 0)).set 4 (.ref q5)).set 5 (.ref q8)).set 6 (.ref q11)).set 7 (.ref q14)).set 8 (.int 0)).set 9 (.int 0)).set 10 (.ref q19)).set 11 (.ref q22)).set 12 (.ref q25)).set 13 (.ref q28)).set 14 (.int (-1))).set 15 (.int 0)).set 16 (.int 0)), px_l q5 (y 2) 6 (fun _ => 0), px_i q8 (y 1) 78 (fun _ => 0), px_i q11 (y 1) 6 (fun _ => 0), px_i q14 (y 1) 52 (fun _ => 0), px_i q19 (y 1) 13 (fun _ => 0), px_i q22 (y 1) 6 (fun _ => 0), px_i q25 (y 1) 6 (fun _ => 0), px_i q28 (y 1) 6 (fun _ => 0)] H_33 := hP_33
  have hD : va_D A [px_o g 2 (((((((((((((((((fg.set 0 (.int 0)).set 1 (.int 0)).set 2 (.int 0)).set 3 (.int 0)).set 4 (.ref q5)).set 5 (.ref q8)).set 6 (.ref q11)).set 7 (.ref q14)).set 8 (.int 0)).set 9 (.int 0)).set 10 (.ref q19)).set 11 (.ref q22)).set 12 (.ref q25)).set 13 (.ref q28)).set 14 (.int (-1))).set 15 (.int 0)).set 16 (.int 0)), px_l q5 (y 2) 6 (fun _ => 0), px_i q8 (y 1) 78 (fun _ => 0), px_i q11 (y 1) 6 (fun _ => 0), px_i q14 (y 1) 52 (fun _ => 0), px_i q19 (y 1) 13 (fun _ => 0), px_i q22 (y 1) 6 (fun _ => 0), px_i q25 (y 1) 6 (fun _ => 0), px_i q28 (y 1) 6 (fun _ => 0)] := hD_33
  have hS := hS_33
  clear hP_33 hD_33 hS_33
  refine lv_aload_n hx hb dX2_init_113 rfl (lv_at hl 0 rfl) ?_
  refine va_new (ci := 3) (fs := [.null, .null, .int 0, .null]) (C := RX3) (T := TX3) (N := 4) hx hb hg inGX3 tyX3 tyX3_ok hown (hg _ q_1_38) (hg _ q_1_39) (hg _ q_1_3) hK hP hD hS hA rfl (px_fsX3) (Nat.le_of_ble_eq_true rfl) (Nat.le_of_ble_eq_true rfl) dX2_init_114 (fun q34 H_35 hP_35 hD_35 hS_35 => ?_)
  clear hP hD hS
  have hP : va_P D vwCl [px_o g 2 (((((((((((((((((fg.set 0 (.int 0)).set 1 (.int 0)).set 2 (.int 0)).set 3 (.int 0)).set 4 (.ref q5)).set 5 (.ref q8)).set 6 (.ref q11)).set 7 (.ref q14)).set 8 (.int 0)).set 9 (.int 0)).set 10 (.ref q19)).set 11 (.ref q22)).set 12 (.ref q25)).set 13 (.ref q28)).set 14 (.int (-1))).set 15 (.int 0)).set 16 (.int 0)), px_l q5 (y 2) 6 (fun _ => 0), px_i q8 (y 1) 78 (fun _ => 0), px_i q11 (y 1) 6 (fun _ => 0), px_i q14 (y 1) 52 (fun _ => 0), px_i q19 (y 1) 13 (fun _ => 0), px_i q22 (y 1) 6 (fun _ => 0), px_i q25 (y 1) 6 (fun _ => 0), px_i q28 (y 1) 6 (fun _ => 0), px_o q34 3 [.null, .null, .int 0, .null]] H_35 := hP_35
  have hD : va_D A [px_o g 2 (((((((((((((((((fg.set 0 (.int 0)).set 1 (.int 0)).set 2 (.int 0)).set 3 (.int 0)).set 4 (.ref q5)).set 5 (.ref q8)).set 6 (.ref q11)).set 7 (.ref q14)).set 8 (.int 0)).set 9 (.int 0)).set 10 (.ref q19)).set 11 (.ref q22)).set 12 (.ref q25)).set 13 (.ref q28)).set 14 (.int (-1))).set 15 (.int 0)).set 16 (.int 0)), px_l q5 (y 2) 6 (fun _ => 0), px_i q8 (y 1) 78 (fun _ => 0), px_i q11 (y 1) 6 (fun _ => 0), px_i q14 (y 1) 52 (fun _ => 0), px_i q19 (y 1) 13 (fun _ => 0), px_i q22 (y 1) 6 (fun _ => 0), px_i q25 (y 1) 6 (fun _ => 0), px_i q28 (y 1) 6 (fun _ => 0), px_o q34 3 [.null, .null, .int 0, .null]] := hD_35
  have hS := hS_35
  clear hP_35 hD_35 hS_35
  refine W.cs (cells' := 9) (slots' := 177) rfl rfl ?_
  refine lv_dup hx hb dX2_init_117 rfl ?_
  have hPc_36 := hP.sub (ws' := [px_o q34 3 [.null, .null, .int 0, .null]]) [9] rfl
  have hDc_36 := hD.sub (ws' := [px_o q34 3 [.null, .null, .int 0, .null]]) [9] (by decide +kernel) rfl
  have hFc_36 := va_free (wc := [px_o q34 3 [.null, .null, .int 0, .null]]) hD hS hA [9] rfl
  refine va_callv (va_runIN (As := []) (rest := [.ref q34, .ref g]) ⟨hx, hb, hml, hown, hg⟩ (c_X3_init l D y H_35.size q34 ([.null, .null, .int 0, .null]) rfl rfl rfl rfl) ⟨va_cnB 0 hg (px_gI q_1_42) rfl rfl rfl hXX.2.2.1 (hg _ q_1_3) (by decide +kernel) ⟨Nat.le_of_ble_eq_true rfl, Nat.le_of_ble_eq_true rfl⟩, rfl, (hg _ q_1_41)⟩ (px_preS hK hPc_36 hDc_36) rfl rfl hl.1 rfl (lv_room (Nat.le_of_ble_eq_true rfl)) dX2_init_118 ⟨Nat.le_of_ble_eq_true rfl, Nat.le_of_ble_eq_true rfl⟩) hS (fun q _ h => hFc_36 q h) hFc_36 (fun u_36 t_36 H_36 locs_36 ht_36 hvm_36 hw_36 hB_36 hz_36 hk_36 hS_36 => ?_)
  refine W.cs (cells' := 12) (slots' := 313) rfl rfl ?_
  obtain ⟨hP1_36, hD1_36⟩ := hB_36
  rw [ht_36] at hP1_36
  obtain ⟨hP_36, hD_36⟩ := va_join (wr := [px_o g 2 (((((((((((((((((fg.set 0 (.int 0)).set 1 (.int 0)).set 2 (.int 0)).set 3 (.int 0)).set 4 (.ref q5)).set 5 (.ref q8)).set 6 (.ref q11)).set 7 (.ref q14)).set 8 (.int 0)).set 9 (.int 0)).set 10 (.ref q19)).set 11 (.ref q22)).set 12 (.ref q25)).set 13 (.ref q28)).set 14 (.int (-1))).set 15 (.int 0)).set 16 (.int 0)), px_l q5 (y 2) 6 (fun _ => 0), px_i q8 (y 1) 78 (fun _ => 0), px_i q11 (y 1) 6 (fun _ => 0), px_i q14 (y 1) 52 (fun _ => 0), px_i q19 (y 1) 13 (fun _ => 0), px_i q22 (y 1) 6 (fun _ => 0), px_i q25 (y 1) 6 (fun _ => 0), px_i q28 (y 1) 6 (fun _ => 0)]) (w1 := [px_o q34 3 [.ref (u_36.1 0), .ref (u_36.1 1), .int 0, .ref (u_36.1 2)], px_i (u_36.1 0) (y 1) 78 (fun _ => 0), px_i (u_36.1 1) (y 1) 52 (fun _ => 0), px_i (u_36.1 2) (y 1) 6 (fun _ => 0)]) hP hD [9] [0, 1, 2, 3, 4, 5, 6, 7, 8] rfl rfl (by decide +kernel) (by decide +kernel) hk_36 hFc_36 hP1_36 hD1_36
  clear hP hD hS hPc_36 hDc_36 hFc_36 hz_36 hk_36 hvm_36 ht_36 hP1_36 hD1_36
  have hP : va_P D vwCl [px_o g 2 (((((((((((((((((fg.set 0 (.int 0)).set 1 (.int 0)).set 2 (.int 0)).set 3 (.int 0)).set 4 (.ref q5)).set 5 (.ref q8)).set 6 (.ref q11)).set 7 (.ref q14)).set 8 (.int 0)).set 9 (.int 0)).set 10 (.ref q19)).set 11 (.ref q22)).set 12 (.ref q25)).set 13 (.ref q28)).set 14 (.int (-1))).set 15 (.int 0)).set 16 (.int 0)), px_l q5 (y 2) 6 (fun _ => 0), px_i q8 (y 1) 78 (fun _ => 0), px_i q11 (y 1) 6 (fun _ => 0), px_i q14 (y 1) 52 (fun _ => 0), px_i q19 (y 1) 13 (fun _ => 0), px_i q22 (y 1) 6 (fun _ => 0), px_i q25 (y 1) 6 (fun _ => 0), px_i q28 (y 1) 6 (fun _ => 0), px_o q34 3 [.ref (u_36.1 0), .ref (u_36.1 1), .int 0, .ref (u_36.1 2)], px_i (u_36.1 0) (y 1) 78 (fun _ => 0), px_i (u_36.1 1) (y 1) 52 (fun _ => 0), px_i (u_36.1 2) (y 1) 6 (fun _ => 0)] H_36 := hP_36
  have hD : va_D A [px_o g 2 (((((((((((((((((fg.set 0 (.int 0)).set 1 (.int 0)).set 2 (.int 0)).set 3 (.int 0)).set 4 (.ref q5)).set 5 (.ref q8)).set 6 (.ref q11)).set 7 (.ref q14)).set 8 (.int 0)).set 9 (.int 0)).set 10 (.ref q19)).set 11 (.ref q22)).set 12 (.ref q25)).set 13 (.ref q28)).set 14 (.int (-1))).set 15 (.int 0)).set 16 (.int 0)), px_l q5 (y 2) 6 (fun _ => 0), px_i q8 (y 1) 78 (fun _ => 0), px_i q11 (y 1) 6 (fun _ => 0), px_i q14 (y 1) 52 (fun _ => 0), px_i q19 (y 1) 13 (fun _ => 0), px_i q22 (y 1) 6 (fun _ => 0), px_i q25 (y 1) 6 (fun _ => 0), px_i q28 (y 1) 6 (fun _ => 0), px_o q34 3 [.ref (u_36.1 0), .ref (u_36.1 1), .int 0, .ref (u_36.1 2)], px_i (u_36.1 0) (y 1) 78 (fun _ => 0), px_i (u_36.1 1) (y 1) 52 (fun _ => 0), px_i (u_36.1 2) (y 1) 6 (fun _ => 0)] := hD_36
  have hS := hS_36
  clear hP_36 hD_36 hS_36
  refine va_putF (D := D) (ci := 2) (v := .ref q34) (ty := (.object "SevenTable$Knowledge")) (C := RX2) (T := TX2) (N := 18) hx hb hg inGX2 tyX2 tyX2_ok nmX2 hown hK hP hD hS 0 rfl rfl 17 (by decide) (hg _ q_1_110) (fun _ h9 => h9) rfl hin rfl (by decide +kernel) rfl rfl (px_len (px_sn (by decide) (px_sn (by decide) (px_sn (by decide) (px_sn (by decide) (px_sn (by decide) (px_sn (by decide) (px_sn (by decide) (px_sn (by decide) (px_sn (by decide) (px_sn (by decide) (px_sn (by decide) (px_sn (by decide) (px_sn (by decide) (px_sn (by decide) (px_sn (by decide) (px_sn (by decide) (px_sn (by decide) hg_17)))))))))))))))))) dX2_init_121 (fun H_37 locs_37 hP_37 hD_37 hS_37 => ?_)
  clear hP hD hS
  have hP : va_P D vwCl [px_o g 2 ((((((((((((((((((fg.set 0 (.int 0)).set 1 (.int 0)).set 2 (.int 0)).set 3 (.int 0)).set 4 (.ref q5)).set 5 (.ref q8)).set 6 (.ref q11)).set 7 (.ref q14)).set 8 (.int 0)).set 9 (.int 0)).set 10 (.ref q19)).set 11 (.ref q22)).set 12 (.ref q25)).set 13 (.ref q28)).set 14 (.int (-1))).set 15 (.int 0)).set 16 (.int 0)).set 17 (.ref q34)), px_l q5 (y 2) 6 (fun _ => 0), px_i q8 (y 1) 78 (fun _ => 0), px_i q11 (y 1) 6 (fun _ => 0), px_i q14 (y 1) 52 (fun _ => 0), px_i q19 (y 1) 13 (fun _ => 0), px_i q22 (y 1) 6 (fun _ => 0), px_i q25 (y 1) 6 (fun _ => 0), px_i q28 (y 1) 6 (fun _ => 0), px_o q34 3 [.ref (u_36.1 0), .ref (u_36.1 1), .int 0, .ref (u_36.1 2)], px_i (u_36.1 0) (y 1) 78 (fun _ => 0), px_i (u_36.1 1) (y 1) 52 (fun _ => 0), px_i (u_36.1 2) (y 1) 6 (fun _ => 0)] H_37 := hP_37
  have hD : va_D A [px_o g 2 ((((((((((((((((((fg.set 0 (.int 0)).set 1 (.int 0)).set 2 (.int 0)).set 3 (.int 0)).set 4 (.ref q5)).set 5 (.ref q8)).set 6 (.ref q11)).set 7 (.ref q14)).set 8 (.int 0)).set 9 (.int 0)).set 10 (.ref q19)).set 11 (.ref q22)).set 12 (.ref q25)).set 13 (.ref q28)).set 14 (.int (-1))).set 15 (.int 0)).set 16 (.int 0)).set 17 (.ref q34)), px_l q5 (y 2) 6 (fun _ => 0), px_i q8 (y 1) 78 (fun _ => 0), px_i q11 (y 1) 6 (fun _ => 0), px_i q14 (y 1) 52 (fun _ => 0), px_i q19 (y 1) 13 (fun _ => 0), px_i q22 (y 1) 6 (fun _ => 0), px_i q25 (y 1) 6 (fun _ => 0), px_i q28 (y 1) 6 (fun _ => 0), px_o q34 3 [.ref (u_36.1 0), .ref (u_36.1 1), .int 0, .ref (u_36.1 2)], px_i (u_36.1 0) (y 1) 78 (fun _ => 0), px_i (u_36.1 1) (y 1) 52 (fun _ => 0), px_i (u_36.1 2) (y 1) 6 (fun _ => 0)] := hD_37
  have hS := hS_37
  clear hP_37 hD_37 hS_37
  refine lv_aload_n hx hb dX2_init_124 rfl (lv_at hl 0 rfl) ?_
  refine va_get (D := D) (ci := 2) (v := .ref q19) (C := RX2) (T := TX2) (N := 18) hx hb hg inGX2 hown hK hP 0 rfl rfl 10 (by decide) (hg _ q_1_93) (fun _ h9 => h9) (px_sn (by decide) (px_sn (by decide) (px_sn (by decide) (px_sn (by decide) (px_sn (by decide) (px_sn (by decide) (px_sn (by decide) (px_ss (px_sn (by decide) (px_sn (by decide) (px_sn (by decide) (px_sn (by decide) (px_sn (by decide) (px_sn (by decide) (px_sn (by decide) (px_sn (by decide) (px_sn (by decide) (px_sn (by decide) hg_10)))))))))))))))))) dX2_init_125 ?_
  refine lv_iconst (v := (-1)) hx hb dX2_init_128 (by decide) ?_
  have hPc_38 := hP.sub (ws' := [px_i q19 (y 1) 13 (fun _ => 0)]) [5] rfl
  have hDc_38 := hD.sub (ws' := [px_i q19 (y 1) 13 (fun _ => 0)]) [5] (by decide +kernel) rfl
  have hFc_38 := va_free (wc := [px_i q19 (y 1) 13 (fun _ => 0)]) hD hS hA [5] rfl
  refine va_callv (va_runS (As := [.ref q19, .int (-1)]) (rest := []) ⟨hx, hb, hml, hown, hg⟩ (c_fill_13 l D y H_37.size q19 (fun _ => 0) (-1) ) (va_cwS 2 hg (px_gS q_1_61 q_1_62 q_1_4 q_1_63) rfl rfl rfl (by decide +kernel) ⟨Nat.le_of_ble_eq_true rfl, Nat.le_of_ble_eq_true rfl⟩) (px_preS hK hPc_38 hDc_38) rfl rfl hl.1 rfl (lv_room (Nat.le_of_ble_eq_true rfl)) dX2_init_129 ⟨Nat.le_of_ble_eq_true rfl, Nat.le_of_ble_eq_true rfl⟩) hS (fun q _ h => hFc_38 q h) hFc_38 (fun u_38 t_38 H_38 locs_38 ht_38 hvm_38 hw_38 hB_38 hz_38 hk_38 hS_38 => ?_)
  refine W.cs (cells' := 12) (slots' := 313) rfl rfl ?_
  obtain ⟨hP1_38, hD1_38⟩ := hB_38
  rw [ht_38] at hP1_38
  obtain ⟨hP_38, hD_38⟩ := va_join (wr := [px_o g 2 ((((((((((((((((((fg.set 0 (.int 0)).set 1 (.int 0)).set 2 (.int 0)).set 3 (.int 0)).set 4 (.ref q5)).set 5 (.ref q8)).set 6 (.ref q11)).set 7 (.ref q14)).set 8 (.int 0)).set 9 (.int 0)).set 10 (.ref q19)).set 11 (.ref q22)).set 12 (.ref q25)).set 13 (.ref q28)).set 14 (.int (-1))).set 15 (.int 0)).set 16 (.int 0)).set 17 (.ref q34)), px_l q5 (y 2) 6 (fun _ => 0), px_i q8 (y 1) 78 (fun _ => 0), px_i q11 (y 1) 6 (fun _ => 0), px_i q14 (y 1) 52 (fun _ => 0), px_i q22 (y 1) 6 (fun _ => 0), px_i q25 (y 1) 6 (fun _ => 0), px_i q28 (y 1) 6 (fun _ => 0), px_o q34 3 [.ref (u_36.1 0), .ref (u_36.1 1), .int 0, .ref (u_36.1 2)], px_i (u_36.1 0) (y 1) 78 (fun _ => 0), px_i (u_36.1 1) (y 1) 52 (fun _ => 0), px_i (u_36.1 2) (y 1) 6 (fun _ => 0)]) (w1 := [px_i q19 (y 1) 13 (u_38.2.1 0)]) hP hD [5] [0, 1, 2, 3, 4, 6, 7, 8, 9, 10, 11, 12] rfl rfl (by decide +kernel) (by decide +kernel) hk_38 hFc_38 hP1_38 hD1_38
  clear hP hD hS hPc_38 hDc_38 hFc_38 hz_38 hk_38 hvm_38 ht_38 hP1_38 hD1_38
  have hP : va_P D vwCl [px_o g 2 ((((((((((((((((((fg.set 0 (.int 0)).set 1 (.int 0)).set 2 (.int 0)).set 3 (.int 0)).set 4 (.ref q5)).set 5 (.ref q8)).set 6 (.ref q11)).set 7 (.ref q14)).set 8 (.int 0)).set 9 (.int 0)).set 10 (.ref q19)).set 11 (.ref q22)).set 12 (.ref q25)).set 13 (.ref q28)).set 14 (.int (-1))).set 15 (.int 0)).set 16 (.int 0)).set 17 (.ref q34)), px_l q5 (y 2) 6 (fun _ => 0), px_i q8 (y 1) 78 (fun _ => 0), px_i q11 (y 1) 6 (fun _ => 0), px_i q14 (y 1) 52 (fun _ => 0), px_i q22 (y 1) 6 (fun _ => 0), px_i q25 (y 1) 6 (fun _ => 0), px_i q28 (y 1) 6 (fun _ => 0), px_o q34 3 [.ref (u_36.1 0), .ref (u_36.1 1), .int 0, .ref (u_36.1 2)], px_i (u_36.1 0) (y 1) 78 (fun _ => 0), px_i (u_36.1 1) (y 1) 52 (fun _ => 0), px_i (u_36.1 2) (y 1) 6 (fun _ => 0), px_i q19 (y 1) 13 (u_38.2.1 0)] H_38 := hP_38
  have hD : va_D A [px_o g 2 ((((((((((((((((((fg.set 0 (.int 0)).set 1 (.int 0)).set 2 (.int 0)).set 3 (.int 0)).set 4 (.ref q5)).set 5 (.ref q8)).set 6 (.ref q11)).set 7 (.ref q14)).set 8 (.int 0)).set 9 (.int 0)).set 10 (.ref q19)).set 11 (.ref q22)).set 12 (.ref q25)).set 13 (.ref q28)).set 14 (.int (-1))).set 15 (.int 0)).set 16 (.int 0)).set 17 (.ref q34)), px_l q5 (y 2) 6 (fun _ => 0), px_i q8 (y 1) 78 (fun _ => 0), px_i q11 (y 1) 6 (fun _ => 0), px_i q14 (y 1) 52 (fun _ => 0), px_i q22 (y 1) 6 (fun _ => 0), px_i q25 (y 1) 6 (fun _ => 0), px_i q28 (y 1) 6 (fun _ => 0), px_o q34 3 [.ref (u_36.1 0), .ref (u_36.1 1), .int 0, .ref (u_36.1 2)], px_i (u_36.1 0) (y 1) 78 (fun _ => 0), px_i (u_36.1 1) (y 1) 52 (fun _ => 0), px_i (u_36.1 2) (y 1) 6 (fun _ => 0), px_i q19 (y 1) 13 (u_38.2.1 0)] := hD_38
  have hS := hS_38
  clear hP_38 hD_38 hS_38
  refine lv_aload_n hx hb dX2_init_132 rfl (lv_at hl 0 rfl) ?_
  refine va_get (D := D) (ci := 2) (v := .ref q28) (C := RX2) (T := TX2) (N := 18) hx hb hg inGX2 hown hK hP 0 rfl rfl 13 (by decide) (hg _ q_1_100) (fun _ h9 => h9) (px_sn (by decide) (px_sn (by decide) (px_sn (by decide) (px_sn (by decide) (px_ss (px_sn (by decide) (px_sn (by decide) (px_sn (by decide) (px_sn (by decide) (px_sn (by decide) (px_sn (by decide) (px_sn (by decide) (px_sn (by decide) (px_sn (by decide) (px_sn (by decide) (px_sn (by decide) (px_sn (by decide) (px_sn (by decide) hg_13)))))))))))))))))) dX2_init_133 ?_
  refine lv_iconst (v := (-1)) hx hb dX2_init_136 (by decide) ?_
  have hPc_39 := hP.sub (ws' := [px_i q28 (y 1) 6 (fun _ => 0)]) [7] rfl
  have hDc_39 := hD.sub (ws' := [px_i q28 (y 1) 6 (fun _ => 0)]) [7] (by decide +kernel) rfl
  have hFc_39 := va_free (wc := [px_i q28 (y 1) 6 (fun _ => 0)]) hD hS hA [7] rfl
  refine va_callv (va_runS (As := [.ref q28, .int (-1)]) (rest := []) ⟨hx, hb, hml, hown, hg⟩ (c_fill_6 l D y H_38.size q28 (fun _ => 0) (-1) ) (va_cwS 2 hg (px_gS q_1_61 q_1_62 q_1_4 q_1_63) rfl rfl rfl (by decide +kernel) ⟨Nat.le_of_ble_eq_true rfl, Nat.le_of_ble_eq_true rfl⟩) (px_preS hK hPc_39 hDc_39) rfl rfl hl.1 rfl (lv_room (Nat.le_of_ble_eq_true rfl)) dX2_init_137 ⟨Nat.le_of_ble_eq_true rfl, Nat.le_of_ble_eq_true rfl⟩) hS (fun q _ h => hFc_39 q h) hFc_39 (fun u_39 t_39 H_39 locs_39 ht_39 hvm_39 hw_39 hB_39 hz_39 hk_39 hS_39 => ?_)
  refine W.cs (cells' := 12) (slots' := 313) rfl rfl ?_
  obtain ⟨hP1_39, hD1_39⟩ := hB_39
  rw [ht_39] at hP1_39
  obtain ⟨hP_39, hD_39⟩ := va_join (wr := [px_o g 2 ((((((((((((((((((fg.set 0 (.int 0)).set 1 (.int 0)).set 2 (.int 0)).set 3 (.int 0)).set 4 (.ref q5)).set 5 (.ref q8)).set 6 (.ref q11)).set 7 (.ref q14)).set 8 (.int 0)).set 9 (.int 0)).set 10 (.ref q19)).set 11 (.ref q22)).set 12 (.ref q25)).set 13 (.ref q28)).set 14 (.int (-1))).set 15 (.int 0)).set 16 (.int 0)).set 17 (.ref q34)), px_l q5 (y 2) 6 (fun _ => 0), px_i q8 (y 1) 78 (fun _ => 0), px_i q11 (y 1) 6 (fun _ => 0), px_i q14 (y 1) 52 (fun _ => 0), px_i q22 (y 1) 6 (fun _ => 0), px_i q25 (y 1) 6 (fun _ => 0), px_o q34 3 [.ref (u_36.1 0), .ref (u_36.1 1), .int 0, .ref (u_36.1 2)], px_i (u_36.1 0) (y 1) 78 (fun _ => 0), px_i (u_36.1 1) (y 1) 52 (fun _ => 0), px_i (u_36.1 2) (y 1) 6 (fun _ => 0), px_i q19 (y 1) 13 (u_38.2.1 0)]) (w1 := [px_i q28 (y 1) 6 (u_39.2.1 0)]) hP hD [7] [0, 1, 2, 3, 4, 5, 6, 8, 9, 10, 11, 12] rfl rfl (by decide +kernel) (by decide +kernel) hk_39 hFc_39 hP1_39 hD1_39
  clear hP hD hS hPc_39 hDc_39 hFc_39 hz_39 hk_39 hvm_39 ht_39 hP1_39 hD1_39
  have hP : va_P D vwCl [px_o g 2 ((((((((((((((((((fg.set 0 (.int 0)).set 1 (.int 0)).set 2 (.int 0)).set 3 (.int 0)).set 4 (.ref q5)).set 5 (.ref q8)).set 6 (.ref q11)).set 7 (.ref q14)).set 8 (.int 0)).set 9 (.int 0)).set 10 (.ref q19)).set 11 (.ref q22)).set 12 (.ref q25)).set 13 (.ref q28)).set 14 (.int (-1))).set 15 (.int 0)).set 16 (.int 0)).set 17 (.ref q34)), px_l q5 (y 2) 6 (fun _ => 0), px_i q8 (y 1) 78 (fun _ => 0), px_i q11 (y 1) 6 (fun _ => 0), px_i q14 (y 1) 52 (fun _ => 0), px_i q22 (y 1) 6 (fun _ => 0), px_i q25 (y 1) 6 (fun _ => 0), px_o q34 3 [.ref (u_36.1 0), .ref (u_36.1 1), .int 0, .ref (u_36.1 2)], px_i (u_36.1 0) (y 1) 78 (fun _ => 0), px_i (u_36.1 1) (y 1) 52 (fun _ => 0), px_i (u_36.1 2) (y 1) 6 (fun _ => 0), px_i q19 (y 1) 13 (u_38.2.1 0), px_i q28 (y 1) 6 (u_39.2.1 0)] H_39 := hP_39
  have hD : va_D A [px_o g 2 ((((((((((((((((((fg.set 0 (.int 0)).set 1 (.int 0)).set 2 (.int 0)).set 3 (.int 0)).set 4 (.ref q5)).set 5 (.ref q8)).set 6 (.ref q11)).set 7 (.ref q14)).set 8 (.int 0)).set 9 (.int 0)).set 10 (.ref q19)).set 11 (.ref q22)).set 12 (.ref q25)).set 13 (.ref q28)).set 14 (.int (-1))).set 15 (.int 0)).set 16 (.int 0)).set 17 (.ref q34)), px_l q5 (y 2) 6 (fun _ => 0), px_i q8 (y 1) 78 (fun _ => 0), px_i q11 (y 1) 6 (fun _ => 0), px_i q14 (y 1) 52 (fun _ => 0), px_i q22 (y 1) 6 (fun _ => 0), px_i q25 (y 1) 6 (fun _ => 0), px_o q34 3 [.ref (u_36.1 0), .ref (u_36.1 1), .int 0, .ref (u_36.1 2)], px_i (u_36.1 0) (y 1) 78 (fun _ => 0), px_i (u_36.1 1) (y 1) 52 (fun _ => 0), px_i (u_36.1 2) (y 1) 6 (fun _ => 0), px_i q19 (y 1) 13 (u_38.2.1 0), px_i q28 (y 1) 6 (u_39.2.1 0)] := hD_39
  have hS := hS_39
  clear hP_39 hD_39 hS_39
  have hP9 := hP.sub (ws' := [px_o g 2 ((((((((((((((((((fg.set 0 (.int 0)).set 1 (.int 0)).set 2 (.int 0)).set 3 (.int 0)).set 4 (.ref q5)).set 5 (.ref q8)).set 6 (.ref q11)).set 7 (.ref q14)).set 8 (.int 0)).set 9 (.int 0)).set 10 (.ref q19)).set 11 (.ref q22)).set 12 (.ref q25)).set 13 (.ref q28)).set 14 (.int (-1))).set 15 (.int 0)).set 16 (.int 0)).set 17 (.ref q34)), px_l q5 (y 2) 6 (fun _ => 0), px_i q8 (y 1) 78 (fun _ => 0), px_i q11 (y 1) 6 (fun _ => 0), px_i q14 (y 1) 52 (fun _ => 0), px_i q22 (y 1) 6 (fun _ => 0), px_i q25 (y 1) 6 (fun _ => 0), px_o q34 3 [.ref (u_36.1 0), .ref (u_36.1 1), .int 0, .ref (u_36.1 2)], px_i (u_36.1 0) (y 1) 78 (fun _ => 0), px_i (u_36.1 1) (y 1) 52 (fun _ => 0), px_i (u_36.1 2) (y 1) 6 (fun _ => 0), px_i q19 (y 1) 13 (u_38.2.1 0), px_i q28 (y 1) 6 (u_39.2.1 0)]) [0, 1, 2, 3, 4, 5, 6, 7, 8, 9, 10, 11, 12] rfl
  have hD9 := hD.sub (ws' := [px_o g 2 ((((((((((((((((((fg.set 0 (.int 0)).set 1 (.int 0)).set 2 (.int 0)).set 3 (.int 0)).set 4 (.ref q5)).set 5 (.ref q8)).set 6 (.ref q11)).set 7 (.ref q14)).set 8 (.int 0)).set 9 (.int 0)).set 10 (.ref q19)).set 11 (.ref q22)).set 12 (.ref q25)).set 13 (.ref q28)).set 14 (.int (-1))).set 15 (.int 0)).set 16 (.int 0)).set 17 (.ref q34)), px_l q5 (y 2) 6 (fun _ => 0), px_i q8 (y 1) 78 (fun _ => 0), px_i q11 (y 1) 6 (fun _ => 0), px_i q14 (y 1) 52 (fun _ => 0), px_i q22 (y 1) 6 (fun _ => 0), px_i q25 (y 1) 6 (fun _ => 0), px_o q34 3 [.ref (u_36.1 0), .ref (u_36.1 1), .int 0, .ref (u_36.1 2)], px_i (u_36.1 0) (y 1) 78 (fun _ => 0), px_i (u_36.1 1) (y 1) 52 (fun _ => 0), px_i (u_36.1 2) (y 1) 6 (fun _ => 0), px_i q19 (y 1) 13 (u_38.2.1 0), px_i q28 (y 1) 6 (u_39.2.1 0)]) [0, 1, 2, 3, 4, 5, 6, 7, 8, 9, 10, 11, 12] (by decide +kernel) rfl
  exact W.vret hx hb hr (fun t ht hW => ⟨⟨(px_v [q5, q8, q11, q14, q22, q25, q34, (u_36.1 0), (u_36.1 1), (u_36.1 2), q19, q28], px_vi [(u_38.2.1 0), (u_39.2.1 0)], px_vl []), rfl, trivial, by rw [ht]; exact hP9, hD9⟩, hS.F ht⟩) hS.2.2 dX2_init_140
set_option maxHeartbeats 4000000 in
set_option maxRecDepth 100000 in
theorem c_X7_init (l : Launch) (D : va_G) (y : Nat → ClassId) (sz : Nat) (td : Nat) (ftd : List Value) (htd_0 : px_g ftd 0 (.null)) (htd_1 : px_g ftd 1 (.int 0)) : Met l yX7_init (px_w yX7_init cX7_init 1 none) ({ frames := 1, cells := 1, slots := 40, locals := 12 }) (va_Pc [.ref td] (px_P D y sz [px_o td 7 ftd])) (va_Qv (fun (u : px_U) => True) (fun (u : px_U) t => va_P D vwCl [px_o td 7 ((ftd.set 0 (.ref (u.1 0))).set 1 (.int 0)), px_i (u.1 0) (y 1) 40 (fun _ => 0)] t.heap ∧ va_D (va_A [px_o td 7 ftd] sz) [px_o td 7 ((ftd.set 0 (.ref (u.1 0))).set 1 (.int 0)), px_i (u.1 0) (y 1) 40 (fun _ => 0)]) (va_A [px_o td 7 ftd] sz)) 1 40 (va_A [px_o td 7 ftd] sz) := by
  refine Met.ofW (cc := cX7_init) (maxL := 1) (ret := none) (by decide) rfl ?_
  intro p e s m args below meth c s₁ B hml hv
  obtain ⟨rfl, hsz, hP, hK, hD0⟩ := hv
  have hx := B.exec
  have hb := B.bytes
  have hr := B.returns
  have hts := atoms_spec (ws := px_w yX7_init cX7_init 1 none) B.pre
  have hg : ∀ w ∈ gw, w.before [.ref td].toArray s = true := fun w h => hts w (List.mem_cons_of_mem _ h)
  have hown : s.vm.findClass RX7 = some m.cls := findClass_of_methodNamed B.named
  have hlocks := B.notSynchronized
  have hin : meth.name = "<init>" := (name_of_methodNamed B.named B.method).1
  subst hsz
  have hD := hD0.self (sz := s.heap.size)
  generalize hAe : va_A [px_o td 7 ftd] s.heap.size = A at hD ⊢
  have hA : ∀ q : Nat, s.heap.size ≤ q → A q := fun q h => by rw [← hAe]; exact Or.inr h
  have hS : va_S A s.heap s.heap [] := va_S.rf
  have hP : va_P D vwCl [px_o td 7 ftd] s.heap := hP
  have hl := lv_entry ([.ref td]) (n := 1) (Nat.le_of_ble_eq_true rfl)
  rw [lg_entry_eq]
  generalize (lg_sl ([.ref td]) ++ List.replicate (1 - (lg_sl ([.ref td])).length) Slot.unset).toArray = ls at hl ⊢
  have hl : lv_has ls 1 [(0, .ref td)] := hl
  refine lv_aload_n hx hb dX7_init_0 rfl (lv_at hl 0 rfl) ?_
  refine W.objInit hx hb hown (hg _ q_1_156) (hg _ q_1_30) (hg _ q_1_31) rfl (by rw [hml]; exact hl.1) rfl dX7_init_1 (Nat.le_of_ble_eq_true rfl) (Nat.le_of_ble_eq_true rfl) ?_
  refine W.eq (g2 := F0 m 4 ls []) rfl ?_
  refine lv_aload_n hx hb dX7_init_4 rfl (lv_at hl 0 rfl) ?_
  refine lv_bipush (v := 40) hx hb dX7_init_5 (by decide) ?_
  refine px_newa (atype := .int) (ty := .int) hx hb (hg _ q_1_60) rfl hK hP hD hS hA 1 rfl (N' := 40) (a0 := (40, .inl (fun _ => 0))) (px_aint _) (by decide) (by decide) (by decide) (Nat.le_of_ble_eq_true rfl) (Nat.le_of_ble_eq_true rfl) dX7_init_7 (fun q1 H_2 hP_2 hD_2 hS_2 => ?_)
  clear hP hD hS
  have hP : va_P D vwCl [px_o td 7 ftd, px_i q1 (y 1) 40 (fun _ => 0)] H_2 := hP_2
  have hD : va_D A [px_o td 7 ftd, px_i q1 (y 1) 40 (fun _ => 0)] := hD_2
  have hS := hS_2
  clear hP_2 hD_2 hS_2
  refine W.cs (cells' := 1) (slots' := 40) rfl rfl ?_
  refine va_putF (D := D) (ci := 7) (v := .ref q1) (ty := (.array .int)) (C := RX7) (T := TX7) (N := 2) hx hb hg inGX7 tyX7 tyX7_ok nmX7 hown hK hP hD hS 0 rfl rfl 0 (by decide) (hg _ q_1_157) (fun _ h9 => h9) rfl hin rfl (by decide +kernel) rfl rfl (px_len htd_0) dX7_init_9 (fun H_3 locs_3 hP_3 hD_3 hS_3 => ?_)
  clear hP hD hS
  have hP : va_P D vwCl [px_o td 7 (ftd.set 0 (.ref q1)), px_i q1 (y 1) 40 (fun _ => 0)] H_3 := hP_3
  have hD : va_D A [px_o td 7 (ftd.set 0 (.ref q1)), px_i q1 (y 1) 40 (fun _ => 0)] := hD_3
  have hS := hS_3
  clear hP_3 hD_3 hS_3
  refine lv_aload_n hx hb dX7_init_12 rfl (lv_at hl 0 rfl) ?_
  refine lv_iconst (v := 0) hx hb dX7_init_13 (by decide) ?_
  refine va_put (D := D) (ci := 7) (v := .int 0) (ty := .int) (C := RX7) (T := TX7) (N := 2) hx hb hg inGX7 tyX7 tyX7_ok nmX7 hown hK hP hD hS 0 rfl rfl 1 (by decide) (hg _ q_1_158) (fun _ h9 => h9) rfl (by decide +kernel) rfl rfl (px_len (px_sn (by decide) htd_1)) dX7_init_14 (fun H_4 locs_4 hP_4 hD_4 hS_4 => ?_)
  clear hP hD hS
  have hP : va_P D vwCl [px_o td 7 ((ftd.set 0 (.ref q1)).set 1 (.int 0)), px_i q1 (y 1) 40 (fun _ => 0)] H_4 := hP_4
  have hD : va_D A [px_o td 7 ((ftd.set 0 (.ref q1)).set 1 (.int 0)), px_i q1 (y 1) 40 (fun _ => 0)] := hD_4
  have hS := hS_4
  clear hP_4 hD_4 hS_4
  have hP9 := hP.sub (ws' := [px_o td 7 ((ftd.set 0 (.ref q1)).set 1 (.int 0)), px_i q1 (y 1) 40 (fun _ => 0)]) [0, 1] rfl
  have hD9 := hD.sub (ws' := [px_o td 7 ((ftd.set 0 (.ref q1)).set 1 (.int 0)), px_i q1 (y 1) 40 (fun _ => 0)]) [0, 1] (by decide +kernel) rfl
  exact W.vret hx hb hr (fun t ht hW => ⟨⟨(px_v [q1], px_vi [], px_vl []), rfl, trivial, by rw [ht]; exact hP9, hD9⟩, hS.F ht⟩) hS.2.2 dX7_init_17
