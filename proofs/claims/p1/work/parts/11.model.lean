set_option maxHeartbeats 4000000 in
set_option maxRecDepth 100000 in
theorem c_X11_isIn (l : Launch) (D : va_G) (y : Nat → ClassId) (sz : Nat) (p0 : Int32)  : Met l yX11_isIn (px_w yX11_isIn cX11_isIn 3 (some .boolean)) ({ frames := 0, cells := 0, slots := 0, locals := 0 }) (va_Pc [.int p0, .int 0, .int (-1)] (px_P D y sz [])) (vp_Si (fun r : Int32 => r = 0)) 0 0 (fun _ => False) := by
  refine Met.ofW (cc := cX11_isIn) (maxL := 3) (ret := (some .boolean)) (by decide) rfl ?_
  intro p e s m args below meth c s₁ B hml hv
  obtain ⟨rfl, hsz, hP, hK, hD0⟩ := hv
  have hx := B.exec
  have hb := B.bytes
  have hr := B.returns
  have hts := atoms_spec (ws := px_w yX11_isIn cX11_isIn 3 (some .boolean)) B.pre
  have hg : ∀ w ∈ gw, w.before [.int p0, .int 0, .int (-1)].toArray s = true := fun w h => hts w (List.mem_cons_of_mem _ h)
  have hown : s.vm.findClass RX11 = some m.cls := findClass_of_methodNamed B.named
  have hlocks := B.notSynchronized
  subst hsz
  have hD := hD0
  have hP : va_P D vwCl [] s.heap := hP
  have hl := lv_entry ([.int p0, .int 0, .int (-1)]) (n := 3) (Nat.le_of_ble_eq_true rfl)
  rw [lg_entry_eq]
  generalize (lg_sl ([.int p0, .int 0, .int (-1)]) ++ List.replicate (3 - (lg_sl ([.int p0, .int 0, .int (-1)])).length) Slot.unset).toArray = ls at hl ⊢
  have hl : lv_has ls 3 [(0, .int p0), (1, .int 0), (2, .int (-1))] := hl
  refine lv_iload_n hx hb dX11_isIn_0 rfl (lv_at hl 0 rfl) ?_
  refine lv_iload_n hx hb dX11_isIn_1 rfl (lv_at hl 1 rfl) ?_
  refine lv_icmp_lt (tgt := 14) hx hb dX11_isIn_2 (by decide) (fun c_1 => ?_) (fun c_1 => ?_)
  · refine lv_iconst (v := 0) hx hb dX11_isIn_14 (by decide) ?_
    exact W.zret (v := 0) hx hb hr (by decide) (fun t ht hW => ⟨_, rfl, rfl, ht⟩) (fun q h => by cases h) dX11_isIn_15
  · refine lv_iload_n hx hb dX11_isIn_5 rfl (lv_at hl 0 rfl) ?_
    refine lv_iload_n hx hb dX11_isIn_6 rfl (lv_at hl 2 rfl) ?_
    refine lv_icmp_gt (tgt := 14) hx hb dX11_isIn_7 (by decide) (fun c_2 => ?_) (fun c_2 => (by exfalso; simp only [Int32.lt_iff_toInt_lt, Int32.le_iff_toInt_le, ← Int32.toInt_inj] at c_1 c_2; have e0 : ((-1) : Int32).toInt = -1 := rfl; have e1 : (0 : Int32).toInt = 0 := rfl; omega))
    refine lv_iconst (v := 0) hx hb dX11_isIn_14 (by decide) ?_
    exact W.zret (v := 0) hx hb hr (by decide) (fun t ht hW => ⟨_, rfl, rfl, ht⟩) (fun q h => by cases h) dX11_isIn_15

set_option maxHeartbeats 4000000 in
set_option maxRecDepth 100000 in
theorem c_X11_isIn_2 (l : Launch) (D : va_G) (y : Nat → ClassId) (sz : Nat) (p0 : Int32) (p1 : Int32) (p2 : Int32)  : Met l yX11_isIn (px_w yX11_isIn cX11_isIn 3 (some .boolean)) ({ frames := 0, cells := 0, slots := 0, locals := 0 }) (va_Pc [.int p0, .int p1, .int p2] (px_P D y sz [])) (vp_Si (fun r : Int32 => True)) 0 0 (fun _ => False) := by
  refine Met.ofW (cc := cX11_isIn) (maxL := 3) (ret := (some .boolean)) (by decide) rfl ?_
  intro p e s m args below meth c s₁ B hml hv
  obtain ⟨rfl, hsz, hP, hK, hD0⟩ := hv
  have hx := B.exec
  have hb := B.bytes
  have hr := B.returns
  have hts := atoms_spec (ws := px_w yX11_isIn cX11_isIn 3 (some .boolean)) B.pre
  have hg : ∀ w ∈ gw, w.before [.int p0, .int p1, .int p2].toArray s = true := fun w h => hts w (List.mem_cons_of_mem _ h)
  have hown : s.vm.findClass RX11 = some m.cls := findClass_of_methodNamed B.named
  have hlocks := B.notSynchronized
  subst hsz
  have hD := hD0
  have hP : va_P D vwCl [] s.heap := hP
  have hl := lv_entry ([.int p0, .int p1, .int p2]) (n := 3) (Nat.le_of_ble_eq_true rfl)
  rw [lg_entry_eq]
  generalize (lg_sl ([.int p0, .int p1, .int p2]) ++ List.replicate (3 - (lg_sl ([.int p0, .int p1, .int p2])).length) Slot.unset).toArray = ls at hl ⊢
  have hl : lv_has ls 3 [(0, .int p0), (1, .int p1), (2, .int p2)] := hl
  refine lv_iload_n hx hb dX11_isIn_0 rfl (lv_at hl 0 rfl) ?_
  refine lv_iload_n hx hb dX11_isIn_1 rfl (lv_at hl 1 rfl) ?_
  refine lv_icmp_lt (tgt := 14) hx hb dX11_isIn_2 (by decide) (fun c_1 => ?_) (fun c_1 => ?_)
  · refine lv_iconst (v := 0) hx hb dX11_isIn_14 (by decide) ?_
    exact W.zret (v := 0) hx hb hr (by decide) (fun t ht hW => ⟨_, rfl, trivial, ht⟩) (fun q h => by cases h) dX11_isIn_15
  · refine lv_iload_n hx hb dX11_isIn_5 rfl (lv_at hl 0 rfl) ?_
    refine lv_iload_n hx hb dX11_isIn_6 rfl (lv_at hl 2 rfl) ?_
    refine lv_icmp_gt (tgt := 14) hx hb dX11_isIn_7 (by decide) (fun c_2 => ?_) (fun c_2 => ?_)
    · refine lv_iconst (v := 0) hx hb dX11_isIn_14 (by decide) ?_
      exact W.zret (v := 0) hx hb hr (by decide) (fun t ht hW => ⟨_, rfl, trivial, ht⟩) (fun q h => by cases h) dX11_isIn_15
    · refine lv_iconst (v := 1) hx hb dX11_isIn_10 (by decide) ?_
      refine lv_goto (tgt := 15) hx hb dX11_isIn_11 (by decide) ?_
      exact W.zret (v := 1) hx hb hr (by decide) (fun t ht hW => ⟨_, rfl, trivial, ht⟩) (fun q h => by cases h) dX11_isIn_15

set_option maxHeartbeats 4000000 in
set_option maxRecDepth 100000 in
theorem c_X11_isPerson (l : Launch) (D : va_G) (y : Nat → ClassId) (sz : Nat) (m : Nat) (fm : List Value) (ms : Nat) (fms : Nat → Int32) (p0 : Int32) (hm_6 : fm[6]? = some (.ref ms)) (hms_e1 : fms 1 = 0) : Met l yX11_isPerson (px_w yX11_isPerson cX11_isPerson 2 (some .boolean)) ({ frames := 1, cells := 0, slots := 0, locals := 22 }) (va_Pc [.ref m, .int p0] (px_P D y sz [(m, .inr (11, fm)), (ms, .inl (y 1, 765, .inl fms))])) (vp_Si (fun r : Int32 => r = 0)) 0 0 (fun _ => False) := by
  refine Met.ofW (cc := cX11_isPerson) (maxL := 2) (ret := (some .boolean)) (by decide) rfl ?_
  intro p e s m args below meth c s₁ B hml hv
  obtain ⟨rfl, hsz, hP, hK, hD0⟩ := hv
  have hx := B.exec
  have hb := B.bytes
  have hr := B.returns
  have hts := atoms_spec (ws := px_w yX11_isPerson cX11_isPerson 2 (some .boolean)) B.pre
  have hg : ∀ w ∈ gw, w.before [.ref m, .int p0].toArray s = true := fun w h => hts w (List.mem_cons_of_mem _ h)
  have hown : s.vm.findClass RX11 = some m.cls := findClass_of_methodNamed B.named
  have hlocks := B.notSynchronized
  subst hsz
  have hD := hD0
  have hP : va_P D vwCl [(m, .inr (11, fm)), (ms, .inl (y 1, 765, .inl fms))] s.heap := hP
  have hl := lv_entry ([.ref m, .int p0]) (n := 2) (Nat.le_of_ble_eq_true rfl)
  rw [lg_entry_eq]
  generalize (lg_sl ([.ref m, .int p0]) ++ List.replicate (2 - (lg_sl ([.ref m, .int p0])).length) Slot.unset).toArray = ls at hl ⊢
  have hl : lv_has ls 2 [(0, .ref m), (1, .int p0)] := hl
  refine lv_iload_n hx hb dX11_isPerson_0 rfl (lv_at hl 1 rfl) ?_
  refine lv_iconst (v := 0) hx hb dX11_isPerson_1 (by decide) ?_
  refine lv_aload_n hx hb dX11_isPerson_2 rfl (lv_at hl 0 rfl) ?_
  refine va_get (D := D) (ci := 11) (v := .ref ms) (C := RX11) (T := TX11) (N := 65) hx hb hg inGX11 hown hK hP 0 rfl rfl 6 (by decide) (hg _ q_6_132) (fun _ h9 => h9) hm_6 dX11_isPerson_3 ?_
  refine lv_iconst (v := 1) hx hb dX11_isPerson_6 (by decide) ?_
  refine va_iald hx hb hK hP 1 1 rfl rfl (i := 1) (px_in (by decide)) dX11_isPerson_7 ?_
  refine px_top (v := 0) hms_e1 ?_
  refine lv_iconst (v := 1) hx hb dX11_isPerson_8 (by decide) ?_
  refine lv_isub hx hb dX11_isPerson_9 ?_
  refine px_top (v := (-1)) (by decide) ?_
  have hPc_1 := hP.sub (ws' := []) [] rfl
  have hDc_1 := hD.sub (ws' := []) [] (by decide) rfl
  refine vp_callSi (va_Run.run (va_runS (As := [.int p0, .int 0, .int (-1)]) (rest := []) ⟨hx, hb, hml, hown, hg⟩ (c_X11_isIn l D y s.heap.size p0 ) (va_cwS 3 hg (px_gS q_7_121 q_7_122 q_1_15 q_7_123) rfl rfl rfl (by decide +kernel) ⟨Nat.le_of_ble_eq_true rfl, Nat.le_of_ble_eq_true rfl⟩) (px_preS hK hPc_1 hDc_1) rfl rfl hl.1 rfl (lv_room (Nat.le_of_ble_eq_true rfl)) dX11_isPerson_10 ⟨Nat.le_of_ble_eq_true rfl, Nat.le_of_ble_eq_true rfl⟩)) (fun r_1 hw_1 => ?_)
  obtain rfl : r_1 = 0 := hw_1
  exact W.zret (v := 0) hx hb hr (by decide) (fun t ht hW => ⟨_, rfl, rfl, ht⟩) (fun q h => by cases h) dX11_isPerson_13

set_option maxHeartbeats 4000000 in
set_option maxRecDepth 100000 in
theorem c_X11_isKind (l : Launch) (D : va_G) (y : Nat → ClassId) (sz : Nat) (m : Nat) (fm : List Value) (ms : Nat) (fms : Nat → Int32) (p0 : Int32) (hm_6 : fm[6]? = some (.ref ms)) (hms_e0 : fms 0 = 0) : Met l yX11_isKind (px_w yX11_isKind cX11_isKind 2 (some .boolean)) ({ frames := 1, cells := 0, slots := 0, locals := 22 }) (va_Pc [.ref m, .int p0] (px_P D y sz [(m, .inr (11, fm)), (ms, .inl (y 1, 765, .inl fms))])) (vp_Si (fun r : Int32 => r = 0)) 0 0 (fun _ => False) := by
  refine Met.ofW (cc := cX11_isKind) (maxL := 2) (ret := (some .boolean)) (by decide) rfl ?_
  intro p e s m args below meth c s₁ B hml hv
  obtain ⟨rfl, hsz, hP, hK, hD0⟩ := hv
  have hx := B.exec
  have hb := B.bytes
  have hr := B.returns
  have hts := atoms_spec (ws := px_w yX11_isKind cX11_isKind 2 (some .boolean)) B.pre
  have hg : ∀ w ∈ gw, w.before [.ref m, .int p0].toArray s = true := fun w h => hts w (List.mem_cons_of_mem _ h)
  have hown : s.vm.findClass RX11 = some m.cls := findClass_of_methodNamed B.named
  have hlocks := B.notSynchronized
  subst hsz
  have hD := hD0
  have hP : va_P D vwCl [(m, .inr (11, fm)), (ms, .inl (y 1, 765, .inl fms))] s.heap := hP
  have hl := lv_entry ([.ref m, .int p0]) (n := 2) (Nat.le_of_ble_eq_true rfl)
  rw [lg_entry_eq]
  generalize (lg_sl ([.ref m, .int p0]) ++ List.replicate (2 - (lg_sl ([.ref m, .int p0])).length) Slot.unset).toArray = ls at hl ⊢
  have hl : lv_has ls 2 [(0, .ref m), (1, .int p0)] := hl
  refine lv_iload_n hx hb dX11_isKind_0 rfl (lv_at hl 1 rfl) ?_
  refine lv_iconst (v := 0) hx hb dX11_isKind_1 (by decide) ?_
  refine lv_aload_n hx hb dX11_isKind_2 rfl (lv_at hl 0 rfl) ?_
  refine va_get (D := D) (ci := 11) (v := .ref ms) (C := RX11) (T := TX11) (N := 65) hx hb hg inGX11 hown hK hP 0 rfl rfl 6 (by decide) (hg _ q_6_132) (fun _ h9 => h9) hm_6 dX11_isKind_3 ?_
  refine lv_iconst (v := 0) hx hb dX11_isKind_6 (by decide) ?_
  refine va_iald hx hb hK hP 1 1 rfl rfl (i := 0) (px_in (by decide)) dX11_isKind_7 ?_
  refine px_top (v := 0) hms_e0 ?_
  refine lv_iconst (v := 1) hx hb dX11_isKind_8 (by decide) ?_
  refine lv_isub hx hb dX11_isKind_9 ?_
  refine px_top (v := (-1)) (by decide) ?_
  have hPc_1 := hP.sub (ws' := []) [] rfl
  have hDc_1 := hD.sub (ws' := []) [] (by decide) rfl
  refine vp_callSi (va_Run.run (va_runS (As := [.int p0, .int 0, .int (-1)]) (rest := []) ⟨hx, hb, hml, hown, hg⟩ (c_X11_isIn l D y s.heap.size p0 ) (va_cwS 3 hg (px_gS q_7_121 q_7_122 q_1_15 q_7_123) rfl rfl rfl (by decide +kernel) ⟨Nat.le_of_ble_eq_true rfl, Nat.le_of_ble_eq_true rfl⟩) (px_preS hK hPc_1 hDc_1) rfl rfl hl.1 rfl (lv_room (Nat.le_of_ble_eq_true rfl)) dX11_isKind_10 ⟨Nat.le_of_ble_eq_true rfl, Nat.le_of_ble_eq_true rfl⟩)) (fun r_1 hw_1 => ?_)
  obtain rfl : r_1 = 0 := hw_1
  exact W.zret (v := 0) hx hb hr (by decide) (fun t ht hW => ⟨_, rfl, rfl, ht⟩) (fun q h => by cases h) dX11_isKind_13

set_option maxHeartbeats 4000000 in
set_option maxRecDepth 100000 in
theorem c_X11_areAsked (l : Launch) (D : va_G) (y : Nat → ClassId) (sz : Nat) (m : Nat) (fm : List Value) (ms : Nat) (fms : Nat → Int32) (p0 : Int32) (p1 : Int32) (p2 : Int32) (hm_6 : fm[6]? = some (.ref ms)) (hms_e1 : fms 1 = 0) : Met l yX11_areAsked (px_w yX11_areAsked cX11_areAsked 4 (some .boolean)) ({ frames := 2, cells := 0, slots := 0, locals := 43 }) (va_Pc [.ref m, .int p0, .int p1, .int p2] (px_P D y sz [(m, .inr (11, fm)), (ms, .inl (y 1, 765, .inl fms))])) (vp_Si (fun r : Int32 => r = 0)) 0 0 (fun _ => False) := by
  refine Met.ofW (cc := cX11_areAsked) (maxL := 4) (ret := (some .boolean)) (by decide) rfl ?_
  intro p e s m args below meth c s₁ B hml hv
  obtain ⟨rfl, hsz, hP, hK, hD0⟩ := hv
  have hx := B.exec
  have hb := B.bytes
  have hr := B.returns
  have hts := atoms_spec (ws := px_w yX11_areAsked cX11_areAsked 4 (some .boolean)) B.pre
  have hg : ∀ w ∈ gw, w.before [.ref m, .int p0, .int p1, .int p2].toArray s = true := fun w h => hts w (List.mem_cons_of_mem _ h)
  have hown : s.vm.findClass RX11 = some m.cls := findClass_of_methodNamed B.named
  have hlocks := B.notSynchronized
  subst hsz
  have hD := hD0
  have hP : va_P D vwCl [(m, .inr (11, fm)), (ms, .inl (y 1, 765, .inl fms))] s.heap := hP
  have hl := lv_entry ([.ref m, .int p0, .int p1, .int p2]) (n := 4) (Nat.le_of_ble_eq_true rfl)
  rw [lg_entry_eq]
  generalize (lg_sl ([.ref m, .int p0, .int p1, .int p2]) ++ List.replicate (4 - (lg_sl ([.ref m, .int p0, .int p1, .int p2])).length) Slot.unset).toArray = ls at hl ⊢
  have hl : lv_has ls 4 [(0, .ref m), (1, .int p0), (2, .int p1), (3, .int p2)] := hl
  refine lv_aload_n hx hb dX11_areAsked_0 rfl (lv_at hl 0 rfl) ?_
  refine lv_iload_n hx hb dX11_areAsked_1 rfl (lv_at hl 1 rfl) ?_
  have hPc_1 := hP.sub (ws' := [(m, .inr (11, fm)), (ms, .inl (y 1, 765, .inl fms))]) [0, 1] rfl
  have hDc_1 := hD.sub (ws' := [(m, .inr (11, fm)), (ms, .inl (y 1, 765, .inl fms))]) [0, 1] (by decide) rfl
  refine vp_callSi (va_Run.run (va_runV (As := [.int p0]) (rest := []) ⟨hx, hb, hml, hown, hg⟩ (c_X11_isPerson l D y s.heap.size m fm ms fms p0 hm_6 hms_e1) (cwV 1 hg (px_gV q_7_195 q_7_197 q_p_81 q_1_15 q_7_198) rfl rfl rfl (by decide +kernel) ⟨Nat.le_of_ble_eq_true rfl, Nat.le_of_ble_eq_true rfl⟩) (px_preV hK hPc_1 hDc_1 (ci := 11) (q0 := 0) rfl rfl) rfl rfl hl.1 rfl (lv_room (Nat.le_of_ble_eq_true rfl)) dX11_areAsked_2 ⟨Nat.le_of_ble_eq_true rfl, Nat.le_of_ble_eq_true rfl⟩)) (fun r_1 hw_1 => ?_)
  obtain rfl : r_1 = 0 := hw_1
  refine lv_if_eq (tgt := 28) hx hb dX11_areAsked_5 (by decide) (fun _ => ?_) (fun c_2 => absurd c_2 (by decide))
  refine lv_iconst (v := 0) hx hb dX11_areAsked_28 (by decide) ?_
  exact W.zret (v := 0) hx hb hr (by decide) (fun t ht hW => ⟨_, rfl, rfl, ht⟩) (fun q h => by cases h) dX11_areAsked_29

set_option maxHeartbeats 4000000 in
set_option maxRecDepth 100000 in
theorem c_X11_thrown (l : Launch) (D : va_G) (y : Nat → ClassId) (sz : Nat) (m : Nat) (fm : List Value) (hm_0 : fm[0]? = some (.int 0)) : Met l yX11_thrown (px_w yX11_thrown cX11_thrown 1 (some .int)) ({ frames := 0, cells := 0, slots := 0, locals := 0 }) (va_Pc [.ref m] (px_P D y sz [(m, .inr (11, fm))])) (vp_Si (fun r : Int32 => r = 0)) 0 0 (fun _ => False) := by
  refine Met.ofW (cc := cX11_thrown) (maxL := 1) (ret := (some .int)) (by decide) rfl ?_
  intro p e s m args below meth c s₁ B hml hv
  obtain ⟨rfl, hsz, hP, hK, hD0⟩ := hv
  have hx := B.exec
  have hb := B.bytes
  have hr := B.returns
  have hts := atoms_spec (ws := px_w yX11_thrown cX11_thrown 1 (some .int)) B.pre
  have hg : ∀ w ∈ gw, w.before [.ref m].toArray s = true := fun w h => hts w (List.mem_cons_of_mem _ h)
  have hown : s.vm.findClass RX11 = some m.cls := findClass_of_methodNamed B.named
  have hlocks := B.notSynchronized
  subst hsz
  have hD := hD0
  have hP : va_P D vwCl [(m, .inr (11, fm))] s.heap := hP
  have hl := lv_entry ([.ref m]) (n := 1) (Nat.le_of_ble_eq_true rfl)
  rw [lg_entry_eq]
  generalize (lg_sl ([.ref m]) ++ List.replicate (1 - (lg_sl ([.ref m])).length) Slot.unset).toArray = ls at hl ⊢
  have hl : lv_has ls 1 [(0, .ref m)] := hl
  refine lv_aload_n hx hb dX11_thrown_0 rfl (lv_at hl 0 rfl) ?_
  refine va_get (D := D) (ci := 11) (v := .int 0) (C := RX11) (T := TX11) (N := 65) hx hb hg inGX11 hown hK hP 0 rfl rfl 0 (by decide) (hg _ q_6_126) (fun _ h9 => h9) hm_0 dX11_thrown_1 ?_
  exact W.iret (v := 0) hx hb hr (fun t ht hW => ⟨_, rfl, rfl, ht⟩) (fun q h => by cases h) dX11_thrown_4

set_option maxHeartbeats 4000000 in
set_option maxRecDepth 100000 in
theorem c_X11_fault (l : Launch) (D : va_G) (y : Nat → ClassId) (sz : Nat) (m : Nat) (fm : List Value) (hm_0 : fm[0]? = some (.int 0)) (hm_15 : fm[15]? = some (.int 0)) : Met l yX11_fault (px_w yX11_fault cX11_fault 1 (some .int)) ({ frames := 0, cells := 0, slots := 0, locals := 0 }) (va_Pc [.ref m] (px_P D y sz [(m, .inr (11, fm))])) (va_Qi (fun (r : Int32) (u : Unit) => r = 0) (fun (u : Unit) t => True) (va_A [(m, .inr (11, fm))] sz)) 0 0 (va_A [(m, .inr (11, fm))] sz) := by
  refine Met.ofW (cc := cX11_fault) (maxL := 1) (ret := (some .int)) (by decide) rfl ?_
  intro p e s m args below meth c s₁ B hml hv
  obtain ⟨rfl, hsz, hP, hK, hD0⟩ := hv
  have hx := B.exec
  have hb := B.bytes
  have hr := B.returns
  have hts := atoms_spec (ws := px_w yX11_fault cX11_fault 1 (some .int)) B.pre
  have hg : ∀ w ∈ gw, w.before [.ref m].toArray s = true := fun w h => hts w (List.mem_cons_of_mem _ h)
  have hown : s.vm.findClass RX11 = some m.cls := findClass_of_methodNamed B.named
  have hlocks := B.notSynchronized
  subst hsz
  have hD := hD0.self (sz := s.heap.size)
  generalize hAe : va_A [(m, .inr (11, fm))] s.heap.size = A at hD ⊢
  have hA : ∀ q : Nat, s.heap.size ≤ q → A q := fun q h => by rw [← hAe]; exact Or.inr h
  have hS : va_S A s.heap s.heap [] := va_S.rf
  have hP : va_P D vwCl [(m, .inr (11, fm))] s.heap := hP
  have hl := lv_entry ([.ref m]) (n := 1) (Nat.le_of_ble_eq_true rfl)
  rw [lg_entry_eq]
  generalize (lg_sl ([.ref m]) ++ List.replicate (1 - (lg_sl ([.ref m])).length) Slot.unset).toArray = ls at hl ⊢
  have hl : lv_has ls 1 [(0, .ref m)] := hl
  refine lv_aload_n hx hb dX11_fault_0 rfl (lv_at hl 0 rfl) ?_
  refine lv_iconst (v := 0) hx hb dX11_fault_1 (by decide) ?_
  refine va_put (D := D) (ci := 11) (v := .int 0) (ty := .int) (C := RX11) (T := TX11) (N := 65) hx hb hg inGX11 tyX11 tyX11_ok nmX11 hown hK hP hD hS 0 rfl rfl 0 (by decide) (hg _ q_6_126) (fun _ h9 => h9) rfl (by decide +kernel) rfl rfl (px_len hm_0) dX11_fault_2 (fun H locs hP hD hS => ?_)
  have hP : va_P D vwCl [(m, .inr (11, (fm.set 0 (.int 0))))] H := hP
  have hD : va_D A [(m, .inr (11, (fm.set 0 (.int 0))))] := hD
  refine lv_aload_n hx hb dX11_fault_5 rfl (lv_at hl 0 rfl) ?_
  refine va_get (D := D) (ci := 11) (v := .int 0) (C := RX11) (T := TX11) (N := 65) hx hb hg inGX11 hown hK hP 0 rfl rfl 15 (by decide) (hg _ q_6_141) (fun _ h9 => h9) (px_sn (by decide) hm_15) dX11_fault_6 ?_
  exact W.iret (v := 0) hx hb hr (fun t ht hW => ⟨⟨_, (), rfl, rfl, trivial⟩, by subst hAe; exact hS.F ht⟩) (fun q h => by subst hAe; exact hS.2.2 q h) dX11_fault_9

set_option maxHeartbeats 4000000 in
set_option maxRecDepth 100000 in
theorem c_X11_person (l : Launch) (D : va_G) (y : Nat → ClassId) (sz : Nat) (m : Nat) (fm : List Value) (ms : Nat) (fms : Nat → Int32) (p0 : Int32) (p1 : Int32) (hm_0 : fm[0]? = some (.int 0)) (hm_6 : fm[6]? = some (.ref ms)) (hms_e1 : fms 1 = 0) : Met l yX11_person (px_w yX11_person cX11_person 5 (some .int)) ({ frames := 2, cells := 0, slots := 0, locals := 43 }) (va_Pc [.ref m, .int p0, .int p1] (px_P D y sz [(m, .inr (11, fm)), (ms, .inl (y 1, 765, .inl fms))])) (va_Qi (fun (r : Int32) (u : Unit) => r = (-1)) (fun (u : Unit) t => True) (va_A [(m, .inr (11, fm)), (ms, .inl (y 1, 765, .inl fms))] sz)) 0 0 (va_A [(m, .inr (11, fm)), (ms, .inl (y 1, 765, .inl fms))] sz) := by
  refine Met.ofW (cc := cX11_person) (maxL := 5) (ret := (some .int)) (by decide) rfl ?_
  intro p e s m args below meth c s₁ B hml hv
  obtain ⟨rfl, hsz, hP, hK, hD0⟩ := hv
  have hx := B.exec
  have hb := B.bytes
  have hr := B.returns
  have hts := atoms_spec (ws := px_w yX11_person cX11_person 5 (some .int)) B.pre
  have hg : ∀ w ∈ gw, w.before [.ref m, .int p0, .int p1].toArray s = true := fun w h => hts w (List.mem_cons_of_mem _ h)
  have hown : s.vm.findClass RX11 = some m.cls := findClass_of_methodNamed B.named
  have hlocks := B.notSynchronized
  subst hsz
  have hD := hD0.self (sz := s.heap.size)
  generalize hAe : va_A [(m, .inr (11, fm)), (ms, .inl (y 1, 765, .inl fms))] s.heap.size = A at hD ⊢
  have hA : ∀ q : Nat, s.heap.size ≤ q → A q := fun q h => by rw [← hAe]; exact Or.inr h
  have hS : va_S A s.heap s.heap [] := va_S.rf
  have hP : va_P D vwCl [(m, .inr (11, fm)), (ms, .inl (y 1, 765, .inl fms))] s.heap := hP
  have hl := lv_entry ([.ref m, .int p0, .int p1]) (n := 5) (Nat.le_of_ble_eq_true rfl)
  rw [lg_entry_eq]
  generalize (lg_sl ([.ref m, .int p0, .int p1]) ++ List.replicate (5 - (lg_sl ([.ref m, .int p0, .int p1])).length) Slot.unset).toArray = ls at hl ⊢
  have hl : lv_has ls 5 [(0, .ref m), (1, .int p0), (2, .int p1)] := hl
  refine lv_aload_n hx hb dX11_person_0 rfl (lv_at hl 0 rfl) ?_
  refine lv_iconst (v := 0) hx hb dX11_person_1 (by decide) ?_
  refine va_put (D := D) (ci := 11) (v := .int 0) (ty := .int) (C := RX11) (T := TX11) (N := 65) hx hb hg inGX11 tyX11 tyX11_ok nmX11 hown hK hP hD hS 0 rfl rfl 0 (by decide) (hg _ q_6_126) (fun _ h9 => h9) rfl (by decide +kernel) rfl rfl (px_len hm_0) dX11_person_2 (fun H locs hP hD hS => ?_)
  have hP : va_P D vwCl [(m, .inr (11, (fm.set 0 (.int 0)))), (ms, .inl (y 1, 765, .inl fms))] H := hP
  have hD : va_D A [(m, .inr (11, (fm.set 0 (.int 0)))), (ms, .inl (y 1, 765, .inl fms))] := hD
  refine lv_aload_n hx hb dX11_person_5 rfl (lv_at hl 0 rfl) ?_
  refine lv_iload_n hx hb dX11_person_6 rfl (lv_at hl 1 rfl) ?_
  have hPc_1 := hP.sub (ws' := [(m, .inr (11, (fm.set 0 (.int 0)))), (ms, .inl (y 1, 765, .inl fms))]) [0, 1] rfl
  have hDc_1 := hD.sub (ws' := [(m, .inr (11, (fm.set 0 (.int 0)))), (ms, .inl (y 1, 765, .inl fms))]) [0, 1] (by decide) rfl
  refine vp_callSi (va_Run.run (va_runV (As := [.int p0]) (rest := []) ⟨hx, hb, hml, hown, hg⟩ (c_X11_isPerson l D y H.size m (fm.set 0 (.int 0)) ms fms p0 (px_sn (by decide) hm_6) hms_e1) (cwV 1 hg (px_gV q_7_195 q_7_197 q_p_81 q_1_15 q_7_198) rfl rfl rfl (by decide +kernel) ⟨Nat.le_of_ble_eq_true rfl, Nat.le_of_ble_eq_true rfl⟩) (px_preV hK hPc_1 hDc_1 (ci := 11) (q0 := 0) rfl rfl) rfl rfl hl.1 rfl (lv_room (Nat.le_of_ble_eq_true rfl)) dX11_person_7 ⟨Nat.le_of_ble_eq_true rfl, Nat.le_of_ble_eq_true rfl⟩)) (fun r_1 hw_1 => ?_)
  obtain rfl : r_1 = 0 := hw_1
  refine lv_if_ne (tgt := 15) hx hb dX11_person_10 (by decide) (fun c_2 => absurd c_2 (by decide)) (fun _ => ?_)
  refine lv_iconst (v := (-1)) hx hb dX11_person_13 (by decide) ?_
  exact W.iret (v := (-1)) hx hb hr (fun t ht hW => ⟨⟨_, (), rfl, rfl, trivial⟩, by subst hAe; exact hS.F ht⟩) (fun q h => by subst hAe; exact hS.2.2 q h) dX11_person_14

set_option maxHeartbeats 4000000 in
set_option maxRecDepth 100000 in
theorem c_X11_book (l : Launch) (D : va_G) (y : Nat → ClassId) (sz : Nat) (m : Nat) (fm : List Value) (ms : Nat) (fms : Nat → Int32) (p0 : Int32) (hm_0 : fm[0]? = some (.int 0)) (hm_6 : fm[6]? = some (.ref ms)) (hms_e0 : fms 0 = 0) : Met l yX11_book (px_w yX11_book cX11_book 2 (some .int)) ({ frames := 2, cells := 0, slots := 0, locals := 43 }) (va_Pc [.ref m, .int p0] (px_P D y sz [(m, .inr (11, fm)), (ms, .inl (y 1, 765, .inl fms))])) (va_Qi (fun (r : Int32) (u : Unit) => r = (-1)) (fun (u : Unit) t => True) (va_A [(m, .inr (11, fm)), (ms, .inl (y 1, 765, .inl fms))] sz)) 0 0 (va_A [(m, .inr (11, fm)), (ms, .inl (y 1, 765, .inl fms))] sz) := by
  refine Met.ofW (cc := cX11_book) (maxL := 2) (ret := (some .int)) (by decide) rfl ?_
  intro p e s m args below meth c s₁ B hml hv
  obtain ⟨rfl, hsz, hP, hK, hD0⟩ := hv
  have hx := B.exec
  have hb := B.bytes
  have hr := B.returns
  have hts := atoms_spec (ws := px_w yX11_book cX11_book 2 (some .int)) B.pre
  have hg : ∀ w ∈ gw, w.before [.ref m, .int p0].toArray s = true := fun w h => hts w (List.mem_cons_of_mem _ h)
  have hown : s.vm.findClass RX11 = some m.cls := findClass_of_methodNamed B.named
  have hlocks := B.notSynchronized
  subst hsz
  have hD := hD0.self (sz := s.heap.size)
  generalize hAe : va_A [(m, .inr (11, fm)), (ms, .inl (y 1, 765, .inl fms))] s.heap.size = A at hD ⊢
  have hA : ∀ q : Nat, s.heap.size ≤ q → A q := fun q h => by rw [← hAe]; exact Or.inr h
  have hS : va_S A s.heap s.heap [] := va_S.rf
  have hP : va_P D vwCl [(m, .inr (11, fm)), (ms, .inl (y 1, 765, .inl fms))] s.heap := hP
  have hl := lv_entry ([.ref m, .int p0]) (n := 2) (Nat.le_of_ble_eq_true rfl)
  rw [lg_entry_eq]
  generalize (lg_sl ([.ref m, .int p0]) ++ List.replicate (2 - (lg_sl ([.ref m, .int p0])).length) Slot.unset).toArray = ls at hl ⊢
  have hl : lv_has ls 2 [(0, .ref m), (1, .int p0)] := hl
  refine lv_aload_n hx hb dX11_book_0 rfl (lv_at hl 0 rfl) ?_
  refine lv_iconst (v := 0) hx hb dX11_book_1 (by decide) ?_
  refine va_put (D := D) (ci := 11) (v := .int 0) (ty := .int) (C := RX11) (T := TX11) (N := 65) hx hb hg inGX11 tyX11 tyX11_ok nmX11 hown hK hP hD hS 0 rfl rfl 0 (by decide) (hg _ q_6_126) (fun _ h9 => h9) rfl (by decide +kernel) rfl rfl (px_len hm_0) dX11_book_2 (fun H locs hP hD hS => ?_)
  have hP : va_P D vwCl [(m, .inr (11, (fm.set 0 (.int 0)))), (ms, .inl (y 1, 765, .inl fms))] H := hP
  have hD : va_D A [(m, .inr (11, (fm.set 0 (.int 0)))), (ms, .inl (y 1, 765, .inl fms))] := hD
  refine lv_aload_n hx hb dX11_book_5 rfl (lv_at hl 0 rfl) ?_
  refine lv_iload_n hx hb dX11_book_6 rfl (lv_at hl 1 rfl) ?_
  have hPc_1 := hP.sub (ws' := [(m, .inr (11, (fm.set 0 (.int 0)))), (ms, .inl (y 1, 765, .inl fms))]) [0, 1] rfl
  have hDc_1 := hD.sub (ws' := [(m, .inr (11, (fm.set 0 (.int 0)))), (ms, .inl (y 1, 765, .inl fms))]) [0, 1] (by decide) rfl
  refine vp_callSi (va_Run.run (va_runV (As := [.int p0]) (rest := []) ⟨hx, hb, hml, hown, hg⟩ (c_X11_isKind l D y H.size m (fm.set 0 (.int 0)) ms fms p0 (px_sn (by decide) hm_6) hms_e0) (cwV 1 hg (px_gV q_7_199 q_7_201 q_p_82 q_1_15 q_7_202) rfl rfl rfl (by decide +kernel) ⟨Nat.le_of_ble_eq_true rfl, Nat.le_of_ble_eq_true rfl⟩) (px_preV hK hPc_1 hDc_1 (ci := 11) (q0 := 0) rfl rfl) rfl rfl hl.1 rfl (lv_room (Nat.le_of_ble_eq_true rfl)) dX11_book_7 ⟨Nat.le_of_ble_eq_true rfl, Nat.le_of_ble_eq_true rfl⟩)) (fun r_1 hw_1 => ?_)
  obtain rfl : r_1 = 0 := hw_1
  refine lv_if_eq (tgt := 28) hx hb dX11_book_10 (by decide) (fun _ => ?_) (fun c_2 => absurd c_2 (by decide))
  refine lv_iconst (v := (-1)) hx hb dX11_book_28 (by decide) ?_
  exact W.iret (v := (-1)) hx hb hr (fun t ht hW => ⟨⟨_, (), rfl, rfl, trivial⟩, by subst hAe; exact hS.F ht⟩) (fun q h => by subst hAe; exact hS.2.2 q h) dX11_book_29

set_option maxHeartbeats 4000000 in
set_option maxRecDepth 100000 in
theorem c_X11_heap (l : Launch) (D : va_G) (y : Nat → ClassId) (sz : Nat) (m : Nat) (fm : List Value) (ms : Nat) (fms : Nat → Int32) (p0 : Int32) (hm_0 : fm[0]? = some (.int 0)) (hm_6 : fm[6]? = some (.ref ms)) (hms_e7 : fms 7 = 0) : Met l yX11_heap (px_w yX11_heap cX11_heap 2 (some .int)) ({ frames := 1, cells := 0, slots := 0, locals := 22 }) (va_Pc [.ref m, .int p0] (px_P D y sz [(m, .inr (11, fm)), (ms, .inl (y 1, 765, .inl fms))])) (va_Qi (fun (r : Int32) (u : Unit) => r = (-1)) (fun (u : Unit) t => True) (va_A [(m, .inr (11, fm)), (ms, .inl (y 1, 765, .inl fms))] sz)) 0 0 (va_A [(m, .inr (11, fm)), (ms, .inl (y 1, 765, .inl fms))] sz) := by
  refine Met.ofW (cc := cX11_heap) (maxL := 2) (ret := (some .int)) (by decide) rfl ?_
  intro p e s m args below meth c s₁ B hml hv
  obtain ⟨rfl, hsz, hP, hK, hD0⟩ := hv
  have hx := B.exec
  have hb := B.bytes
  have hr := B.returns
  have hts := atoms_spec (ws := px_w yX11_heap cX11_heap 2 (some .int)) B.pre
  have hg : ∀ w ∈ gw, w.before [.ref m, .int p0].toArray s = true := fun w h => hts w (List.mem_cons_of_mem _ h)
  have hown : s.vm.findClass RX11 = some m.cls := findClass_of_methodNamed B.named
  have hlocks := B.notSynchronized
  subst hsz
  have hD := hD0.self (sz := s.heap.size)
  generalize hAe : va_A [(m, .inr (11, fm)), (ms, .inl (y 1, 765, .inl fms))] s.heap.size = A at hD ⊢
  have hA : ∀ q : Nat, s.heap.size ≤ q → A q := fun q h => by rw [← hAe]; exact Or.inr h
  have hS : va_S A s.heap s.heap [] := va_S.rf
  have hP : va_P D vwCl [(m, .inr (11, fm)), (ms, .inl (y 1, 765, .inl fms))] s.heap := hP
  have hl := lv_entry ([.ref m, .int p0]) (n := 2) (Nat.le_of_ble_eq_true rfl)
  rw [lg_entry_eq]
  generalize (lg_sl ([.ref m, .int p0]) ++ List.replicate (2 - (lg_sl ([.ref m, .int p0])).length) Slot.unset).toArray = ls at hl ⊢
  have hl : lv_has ls 2 [(0, .ref m), (1, .int p0)] := hl
  refine lv_aload_n hx hb dX11_heap_0 rfl (lv_at hl 0 rfl) ?_
  refine lv_iconst (v := 0) hx hb dX11_heap_1 (by decide) ?_
  refine va_put (D := D) (ci := 11) (v := .int 0) (ty := .int) (C := RX11) (T := TX11) (N := 65) hx hb hg inGX11 tyX11 tyX11_ok nmX11 hown hK hP hD hS 0 rfl rfl 0 (by decide) (hg _ q_6_126) (fun _ h9 => h9) rfl (by decide +kernel) rfl rfl (px_len hm_0) dX11_heap_2 (fun H locs hP hD hS => ?_)
  have hP : va_P D vwCl [(m, .inr (11, (fm.set 0 (.int 0)))), (ms, .inl (y 1, 765, .inl fms))] H := hP
  have hD : va_D A [(m, .inr (11, (fm.set 0 (.int 0)))), (ms, .inl (y 1, 765, .inl fms))] := hD
  refine lv_iload_n hx hb dX11_heap_5 rfl (lv_at hl 1 rfl) ?_
  refine lv_iconst (v := 0) hx hb dX11_heap_6 (by decide) ?_
  refine lv_aload_n hx hb dX11_heap_7 rfl (lv_at hl 0 rfl) ?_
  refine va_get (D := D) (ci := 11) (v := .ref ms) (C := RX11) (T := TX11) (N := 65) hx hb hg inGX11 hown hK hP 0 rfl rfl 6 (by decide) (hg _ q_6_132) (fun _ h9 => h9) (px_sn (by decide) hm_6) dX11_heap_8 ?_
  refine lv_bipush (v := 7) hx hb dX11_heap_11 (by decide) ?_
  refine va_iald hx hb hK hP 1 1 rfl rfl (i := 7) (px_in (by decide)) dX11_heap_13 ?_
  refine px_top (v := 0) hms_e7 ?_
  refine lv_iconst (v := 1) hx hb dX11_heap_14 (by decide) ?_
  refine lv_isub hx hb dX11_heap_15 ?_
  refine px_top (v := (-1)) (by decide) ?_
  have hPc_1 := hP.sub (ws' := []) [] rfl
  have hDc_1 := hD.sub (ws' := []) [] (by decide) rfl
  refine vp_callSi (va_Run.run (va_runS (As := [.int p0, .int 0, .int (-1)]) (rest := []) ⟨hx, hb, hml, hown, hg⟩ (c_X11_isIn l D y H.size p0 ) (va_cwS 3 hg (px_gS q_7_121 q_7_122 q_1_15 q_7_123) rfl rfl rfl (by decide +kernel) ⟨Nat.le_of_ble_eq_true rfl, Nat.le_of_ble_eq_true rfl⟩) (px_preS hK hPc_1 hDc_1) rfl rfl hl.1 rfl (lv_room (Nat.le_of_ble_eq_true rfl)) dX11_heap_16 ⟨Nat.le_of_ble_eq_true rfl, Nat.le_of_ble_eq_true rfl⟩)) (fun r_1 hw_1 => ?_)
  obtain rfl : r_1 = 0 := hw_1
  refine lv_if_eq (tgt := 34) hx hb dX11_heap_19 (by decide) (fun _ => ?_) (fun c_2 => absurd c_2 (by decide))
  refine lv_iconst (v := (-1)) hx hb dX11_heap_34 (by decide) ?_
  exact W.iret (v := (-1)) hx hb hr (fun t ht hW => ⟨⟨_, (), rfl, rfl, trivial⟩, by subst hAe; exact hS.F ht⟩) (fun q h => by subst hAe; exact hS.2.2 q h) dX11_heap_35

set_option maxHeartbeats 4000000 in
set_option maxRecDepth 100000 in
theorem c_X11_why (l : Launch) (D : va_G) (y : Nat → ClassId) (sz : Nat) (m : Nat) (fm : List Value) (ms : Nat) (fms : Nat → Int32) (p0 : Int32) (p1 : Int32) (p2 : Int32) (hm_0 : fm[0]? = some (.int 0)) (hm_6 : fm[6]? = some (.ref ms)) (hms_e1 : fms 1 = 0) : Met l yX11_why (px_w yX11_why cX11_why 4 (some .int)) ({ frames := 3, cells := 0, slots := 0, locals := 66 }) (va_Pc [.ref m, .int p0, .int p1, .int p2] (px_P D y sz [(m, .inr (11, fm)), (ms, .inl (y 1, 765, .inl fms))])) (va_Qi (fun (r : Int32) (u : Unit) => r = (-1)) (fun (u : Unit) t => True) (va_A [(m, .inr (11, fm)), (ms, .inl (y 1, 765, .inl fms))] sz)) 0 0 (va_A [(m, .inr (11, fm)), (ms, .inl (y 1, 765, .inl fms))] sz) := by
  refine Met.ofW (cc := cX11_why) (maxL := 4) (ret := (some .int)) (by decide) rfl ?_
  intro p e s m args below meth c s₁ B hml hv
  obtain ⟨rfl, hsz, hP, hK, hD0⟩ := hv
  have hx := B.exec
  have hb := B.bytes
  have hr := B.returns
  have hts := atoms_spec (ws := px_w yX11_why cX11_why 4 (some .int)) B.pre
  have hg : ∀ w ∈ gw, w.before [.ref m, .int p0, .int p1, .int p2].toArray s = true := fun w h => hts w (List.mem_cons_of_mem _ h)
  have hown : s.vm.findClass RX11 = some m.cls := findClass_of_methodNamed B.named
  have hlocks := B.notSynchronized
  subst hsz
  have hD := hD0.self (sz := s.heap.size)
  generalize hAe : va_A [(m, .inr (11, fm)), (ms, .inl (y 1, 765, .inl fms))] s.heap.size = A at hD ⊢
  have hA : ∀ q : Nat, s.heap.size ≤ q → A q := fun q h => by rw [← hAe]; exact Or.inr h
  have hS : va_S A s.heap s.heap [] := va_S.rf
  have hP : va_P D vwCl [(m, .inr (11, fm)), (ms, .inl (y 1, 765, .inl fms))] s.heap := hP
  have hl := lv_entry ([.ref m, .int p0, .int p1, .int p2]) (n := 4) (Nat.le_of_ble_eq_true rfl)
  rw [lg_entry_eq]
  generalize (lg_sl ([.ref m, .int p0, .int p1, .int p2]) ++ List.replicate (4 - (lg_sl ([.ref m, .int p0, .int p1, .int p2])).length) Slot.unset).toArray = ls at hl ⊢
  have hl : lv_has ls 4 [(0, .ref m), (1, .int p0), (2, .int p1), (3, .int p2)] := hl
  refine lv_aload_n hx hb dX11_why_0 rfl (lv_at hl 0 rfl) ?_
  refine lv_iconst (v := 0) hx hb dX11_why_1 (by decide) ?_
  refine va_put (D := D) (ci := 11) (v := .int 0) (ty := .int) (C := RX11) (T := TX11) (N := 65) hx hb hg inGX11 tyX11 tyX11_ok nmX11 hown hK hP hD hS 0 rfl rfl 0 (by decide) (hg _ q_6_126) (fun _ h9 => h9) rfl (by decide +kernel) rfl rfl (px_len hm_0) dX11_why_2 (fun H locs hP hD hS => ?_)
  have hP : va_P D vwCl [(m, .inr (11, (fm.set 0 (.int 0)))), (ms, .inl (y 1, 765, .inl fms))] H := hP
  have hD : va_D A [(m, .inr (11, (fm.set 0 (.int 0)))), (ms, .inl (y 1, 765, .inl fms))] := hD
  refine lv_aload_n hx hb dX11_why_5 rfl (lv_at hl 0 rfl) ?_
  refine lv_iload_n hx hb dX11_why_6 rfl (lv_at hl 1 rfl) ?_
  refine lv_iload_n hx hb dX11_why_7 rfl (lv_at hl 2 rfl) ?_
  refine lv_iload_n hx hb dX11_why_8 rfl (lv_at hl 3 rfl) ?_
  have hPc_1 := hP.sub (ws' := [(m, .inr (11, (fm.set 0 (.int 0)))), (ms, .inl (y 1, 765, .inl fms))]) [0, 1] rfl
  have hDc_1 := hD.sub (ws' := [(m, .inr (11, (fm.set 0 (.int 0)))), (ms, .inl (y 1, 765, .inl fms))]) [0, 1] (by decide) rfl
  refine vp_callSi (va_Run.run (va_runV (As := [.int p0, .int p1, .int p2]) (rest := []) ⟨hx, hb, hml, hown, hg⟩ (c_X11_areAsked l D y H.size m (fm.set 0 (.int 0)) ms fms p0 p1 p2 (px_sn (by decide) hm_6) hms_e1) (cwV 3 hg (px_gV q_7_235 q_7_237 q_p_86 q_1_15 q_7_238) rfl rfl rfl (by decide +kernel) ⟨Nat.le_of_ble_eq_true rfl, Nat.le_of_ble_eq_true rfl⟩) (px_preV hK hPc_1 hDc_1 (ci := 11) (q0 := 0) rfl rfl) rfl rfl hl.1 rfl (lv_room (Nat.le_of_ble_eq_true rfl)) dX11_why_9 ⟨Nat.le_of_ble_eq_true rfl, Nat.le_of_ble_eq_true rfl⟩)) (fun r_1 hw_1 => ?_)
  obtain rfl : r_1 = 0 := hw_1
  refine lv_if_eq (tgt := 25) hx hb dX11_why_12 (by decide) (fun _ => ?_) (fun c_2 => absurd c_2 (by decide))
  refine lv_iconst (v := (-1)) hx hb dX11_why_25 (by decide) ?_
  exact W.iret (v := (-1)) hx hb hr (fun t ht hW => ⟨⟨_, (), rfl, rfl, trivial⟩, by subst hAe; exact hS.F ht⟩) (fun q h => by subst hAe; exact hS.2.2 q h) dX11_why_26

set_option maxHeartbeats 4000000 in
set_option maxRecDepth 100000 in
theorem c_X11_ask (l : Launch) (D : va_G) (y : Nat → ClassId) (sz : Nat) (m : Nat) (fm : List Value) (ms : Nat) (fms : Nat → Int32) (p0 : Int32) (p1 : Int32) (p2 : Int32) (p3 : Int32) (hm_0 : fm[0]? = some (.int 0)) (hm_6 : fm[6]? = some (.ref ms)) (hms_e1 : fms 1 = 0) : Met l yX11_ask (px_w yX11_ask cX11_ask 6 (some .int)) ({ frames := 3, cells := 0, slots := 0, locals := 66 }) (va_Pc [.ref m, .int p0, .int p1, .int p2, .int p3] (px_P D y sz [(m, .inr (11, fm)), (ms, .inl (y 1, 765, .inl fms))])) (va_Qi (fun (r : Int32) (u : Unit) => r = (-1)) (fun (u : Unit) t => True) (va_A [(m, .inr (11, fm)), (ms, .inl (y 1, 765, .inl fms))] sz)) 0 0 (va_A [(m, .inr (11, fm)), (ms, .inl (y 1, 765, .inl fms))] sz) := by
  refine Met.ofW (cc := cX11_ask) (maxL := 6) (ret := (some .int)) (by decide) rfl ?_
  intro p e s m args below meth c s₁ B hml hv
  obtain ⟨rfl, hsz, hP, hK, hD0⟩ := hv
  have hx := B.exec
  have hb := B.bytes
  have hr := B.returns
  have hts := atoms_spec (ws := px_w yX11_ask cX11_ask 6 (some .int)) B.pre
  have hg : ∀ w ∈ gw, w.before [.ref m, .int p0, .int p1, .int p2, .int p3].toArray s = true := fun w h => hts w (List.mem_cons_of_mem _ h)
  have hown : s.vm.findClass RX11 = some m.cls := findClass_of_methodNamed B.named
  have hlocks := B.notSynchronized
  subst hsz
  have hD := hD0.self (sz := s.heap.size)
  generalize hAe : va_A [(m, .inr (11, fm)), (ms, .inl (y 1, 765, .inl fms))] s.heap.size = A at hD ⊢
  have hA : ∀ q : Nat, s.heap.size ≤ q → A q := fun q h => by rw [← hAe]; exact Or.inr h
  have hS : va_S A s.heap s.heap [] := va_S.rf
  have hP : va_P D vwCl [(m, .inr (11, fm)), (ms, .inl (y 1, 765, .inl fms))] s.heap := hP
  have hl := lv_entry ([.ref m, .int p0, .int p1, .int p2, .int p3]) (n := 6) (Nat.le_of_ble_eq_true rfl)
  rw [lg_entry_eq]
  generalize (lg_sl ([.ref m, .int p0, .int p1, .int p2, .int p3]) ++ List.replicate (6 - (lg_sl ([.ref m, .int p0, .int p1, .int p2, .int p3])).length) Slot.unset).toArray = ls at hl ⊢
  have hl : lv_has ls 6 [(0, .ref m), (1, .int p0), (2, .int p1), (3, .int p2), (4, .int p3)] := hl
  refine lv_aload_n hx hb dX11_ask_0 rfl (lv_at hl 0 rfl) ?_
  refine lv_iconst (v := 0) hx hb dX11_ask_1 (by decide) ?_
  refine va_put (D := D) (ci := 11) (v := .int 0) (ty := .int) (C := RX11) (T := TX11) (N := 65) hx hb hg inGX11 tyX11 tyX11_ok nmX11 hown hK hP hD hS 0 rfl rfl 0 (by decide) (hg _ q_6_126) (fun _ h9 => h9) rfl (by decide +kernel) rfl rfl (px_len hm_0) dX11_ask_2 (fun H locs hP hD hS => ?_)
  have hP : va_P D vwCl [(m, .inr (11, (fm.set 0 (.int 0)))), (ms, .inl (y 1, 765, .inl fms))] H := hP
  have hD : va_D A [(m, .inr (11, (fm.set 0 (.int 0)))), (ms, .inl (y 1, 765, .inl fms))] := hD
  refine lv_aload_n hx hb dX11_ask_5 rfl (lv_at hl 0 rfl) ?_
  refine lv_iload_n hx hb dX11_ask_6 rfl (lv_at hl 1 rfl) ?_
  refine lv_iload_n hx hb dX11_ask_7 rfl (lv_at hl 2 rfl) ?_
  refine lv_iload_n hx hb dX11_ask_8 rfl (lv_at hl 3 rfl) ?_
  have hPc_1 := hP.sub (ws' := [(m, .inr (11, (fm.set 0 (.int 0)))), (ms, .inl (y 1, 765, .inl fms))]) [0, 1] rfl
  have hDc_1 := hD.sub (ws' := [(m, .inr (11, (fm.set 0 (.int 0)))), (ms, .inl (y 1, 765, .inl fms))]) [0, 1] (by decide) rfl
  refine vp_callSi (va_Run.run (va_runV (As := [.int p0, .int p1, .int p2]) (rest := []) ⟨hx, hb, hml, hown, hg⟩ (c_X11_areAsked l D y H.size m (fm.set 0 (.int 0)) ms fms p0 p1 p2 (px_sn (by decide) hm_6) hms_e1) (cwV 3 hg (px_gV q_7_235 q_7_237 q_p_86 q_1_15 q_7_238) rfl rfl rfl (by decide +kernel) ⟨Nat.le_of_ble_eq_true rfl, Nat.le_of_ble_eq_true rfl⟩) (px_preV hK hPc_1 hDc_1 (ci := 11) (q0 := 0) rfl rfl) rfl rfl hl.1 rfl (lv_room (Nat.le_of_ble_eq_true rfl)) dX11_ask_9 ⟨Nat.le_of_ble_eq_true rfl, Nat.le_of_ble_eq_true rfl⟩)) (fun r_1 hw_1 => ?_)
  obtain rfl : r_1 = 0 := hw_1
  refine lv_if_eq (tgt := 25) hx hb dX11_ask_12 (by decide) (fun _ => ?_) (fun c_2 => absurd c_2 (by decide))
  refine lv_iconst (v := (-1)) hx hb dX11_ask_25 (by decide) ?_
  exact W.iret (v := (-1)) hx hb hr (fun t ht hW => ⟨⟨_, (), rfl, rfl, trivial⟩, by subst hAe; exact hS.F ht⟩) (fun q h => by subst hAe; exact hS.2.2 q h) dX11_ask_26

set_option maxHeartbeats 4000000 in
set_option maxRecDepth 100000 in
theorem c_X11_undo (l : Launch) (D : va_G) (y : Nat → ClassId) (sz : Nat) (m : Nat) (fm : List Value) (hm_0 : fm[0]? = some (.int 0)) (hm_27 : fm[27]? = some (.int 0)) : Met l yX11_undo (px_w yX11_undo cX11_undo 2 (some .int)) ({ frames := 0, cells := 0, slots := 0, locals := 0 }) (va_Pc [.ref m] (px_P D y sz [(m, .inr (11, fm))])) (va_Qi (fun (r : Int32) (u : Unit) => r = (-1)) (fun (u : Unit) t => True) (va_A [(m, .inr (11, fm))] sz)) 0 0 (va_A [(m, .inr (11, fm))] sz) := by
  refine Met.ofW (cc := cX11_undo) (maxL := 2) (ret := (some .int)) (by decide) rfl ?_
  intro p e s m args below meth c s₁ B hml hv
  obtain ⟨rfl, hsz, hP, hK, hD0⟩ := hv
  have hx := B.exec
  have hb := B.bytes
  have hr := B.returns
  have hts := atoms_spec (ws := px_w yX11_undo cX11_undo 2 (some .int)) B.pre
  have hg : ∀ w ∈ gw, w.before [.ref m].toArray s = true := fun w h => hts w (List.mem_cons_of_mem _ h)
  have hown : s.vm.findClass RX11 = some m.cls := findClass_of_methodNamed B.named
  have hlocks := B.notSynchronized
  subst hsz
  have hD := hD0.self (sz := s.heap.size)
  generalize hAe : va_A [(m, .inr (11, fm))] s.heap.size = A at hD ⊢
  have hA : ∀ q : Nat, s.heap.size ≤ q → A q := fun q h => by rw [← hAe]; exact Or.inr h
  have hS : va_S A s.heap s.heap [] := va_S.rf
  have hP : va_P D vwCl [(m, .inr (11, fm))] s.heap := hP
  have hl := lv_entry ([.ref m]) (n := 2) (Nat.le_of_ble_eq_true rfl)
  rw [lg_entry_eq]
  generalize (lg_sl ([.ref m]) ++ List.replicate (2 - (lg_sl ([.ref m])).length) Slot.unset).toArray = ls at hl ⊢
  have hl : lv_has ls 2 [(0, .ref m)] := hl
  refine lv_aload_n hx hb dX11_undo_0 rfl (lv_at hl 0 rfl) ?_
  refine lv_iconst (v := 0) hx hb dX11_undo_1 (by decide) ?_
  refine va_put (D := D) (ci := 11) (v := .int 0) (ty := .int) (C := RX11) (T := TX11) (N := 65) hx hb hg inGX11 tyX11 tyX11_ok nmX11 hown hK hP hD hS 0 rfl rfl 0 (by decide) (hg _ q_6_126) (fun _ h9 => h9) rfl (by decide +kernel) rfl rfl (px_len hm_0) dX11_undo_2 (fun H locs hP hD hS => ?_)
  have hP : va_P D vwCl [(m, .inr (11, (fm.set 0 (.int 0))))] H := hP
  have hD : va_D A [(m, .inr (11, (fm.set 0 (.int 0))))] := hD
  refine lv_aload_n hx hb dX11_undo_5 rfl (lv_at hl 0 rfl) ?_
  refine va_get (D := D) (ci := 11) (v := .int 0) (C := RX11) (T := TX11) (N := 65) hx hb hg inGX11 hown hK hP 0 rfl rfl 27 (by decide) (hg _ q_6_153) (fun _ h9 => h9) (px_sn (by decide) hm_27) dX11_undo_6 ?_
  refine lv_if_ne (tgt := 14) hx hb dX11_undo_9 (by decide) (fun c_1 => absurd c_1 (by decide)) (fun _ => ?_)
  refine lv_iconst (v := (-1)) hx hb dX11_undo_12 (by decide) ?_
  exact W.iret (v := (-1)) hx hb hr (fun t ht hW => ⟨⟨_, (), rfl, rfl, trivial⟩, by subst hAe; exact hS.F ht⟩) (fun q h => by subst hAe; exact hS.2.2 q h) dX11_undo_13

set_option maxHeartbeats 4000000 in
set_option maxRecDepth 100000 in
theorem c_X11_known (l : Launch) (D : va_G) (y : Nat → ClassId) (sz : Nat) (m : Nat) (fm : List Value) (ms : Nat) (fms : Nat → Int32) (p0 : Int32) (p1 : Int32) (hm_0 : fm[0]? = some (.int 0)) (hm_6 : fm[6]? = some (.ref ms)) (hms_e1 : fms 1 = 0) : Met l yX11_known (px_w yX11_known cX11_known 3 (some .int)) ({ frames := 2, cells := 0, slots := 0, locals := 43 }) (va_Pc [.ref m, .int p0, .int p1] (px_P D y sz [(m, .inr (11, fm)), (ms, .inl (y 1, 765, .inl fms))])) (va_Qi (fun (r : Int32) (u : Unit) => r = (-1)) (fun (u : Unit) t => True) (va_A [(m, .inr (11, fm)), (ms, .inl (y 1, 765, .inl fms))] sz)) 0 0 (va_A [(m, .inr (11, fm)), (ms, .inl (y 1, 765, .inl fms))] sz) := by
  refine Met.ofW (cc := cX11_known) (maxL := 3) (ret := (some .int)) (by decide) rfl ?_
  intro p e s m args below meth c s₁ B hml hv
  obtain ⟨rfl, hsz, hP, hK, hD0⟩ := hv
  have hx := B.exec
  have hb := B.bytes
  have hr := B.returns
  have hts := atoms_spec (ws := px_w yX11_known cX11_known 3 (some .int)) B.pre
  have hg : ∀ w ∈ gw, w.before [.ref m, .int p0, .int p1].toArray s = true := fun w h => hts w (List.mem_cons_of_mem _ h)
  have hown : s.vm.findClass RX11 = some m.cls := findClass_of_methodNamed B.named
  have hlocks := B.notSynchronized
  subst hsz
  have hD := hD0.self (sz := s.heap.size)
  generalize hAe : va_A [(m, .inr (11, fm)), (ms, .inl (y 1, 765, .inl fms))] s.heap.size = A at hD ⊢
  have hA : ∀ q : Nat, s.heap.size ≤ q → A q := fun q h => by rw [← hAe]; exact Or.inr h
  have hS : va_S A s.heap s.heap [] := va_S.rf
  have hP : va_P D vwCl [(m, .inr (11, fm)), (ms, .inl (y 1, 765, .inl fms))] s.heap := hP
  have hl := lv_entry ([.ref m, .int p0, .int p1]) (n := 3) (Nat.le_of_ble_eq_true rfl)
  rw [lg_entry_eq]
  generalize (lg_sl ([.ref m, .int p0, .int p1]) ++ List.replicate (3 - (lg_sl ([.ref m, .int p0, .int p1])).length) Slot.unset).toArray = ls at hl ⊢
  have hl : lv_has ls 3 [(0, .ref m), (1, .int p0), (2, .int p1)] := hl
  refine lv_aload_n hx hb dX11_known_0 rfl (lv_at hl 0 rfl) ?_
  refine lv_iconst (v := 0) hx hb dX11_known_1 (by decide) ?_
  refine va_put (D := D) (ci := 11) (v := .int 0) (ty := .int) (C := RX11) (T := TX11) (N := 65) hx hb hg inGX11 tyX11 tyX11_ok nmX11 hown hK hP hD hS 0 rfl rfl 0 (by decide) (hg _ q_6_126) (fun _ h9 => h9) rfl (by decide +kernel) rfl rfl (px_len hm_0) dX11_known_2 (fun H locs hP hD hS => ?_)
  have hP : va_P D vwCl [(m, .inr (11, (fm.set 0 (.int 0)))), (ms, .inl (y 1, 765, .inl fms))] H := hP
  have hD : va_D A [(m, .inr (11, (fm.set 0 (.int 0)))), (ms, .inl (y 1, 765, .inl fms))] := hD
  refine lv_aload_n hx hb dX11_known_5 rfl (lv_at hl 0 rfl) ?_
  refine lv_iload_n hx hb dX11_known_6 rfl (lv_at hl 1 rfl) ?_
  have hPc_1 := hP.sub (ws' := [(m, .inr (11, (fm.set 0 (.int 0)))), (ms, .inl (y 1, 765, .inl fms))]) [0, 1] rfl
  have hDc_1 := hD.sub (ws' := [(m, .inr (11, (fm.set 0 (.int 0)))), (ms, .inl (y 1, 765, .inl fms))]) [0, 1] (by decide) rfl
  refine vp_callSi (va_Run.run (va_runV (As := [.int p0]) (rest := []) ⟨hx, hb, hml, hown, hg⟩ (c_X11_isPerson l D y H.size m (fm.set 0 (.int 0)) ms fms p0 (px_sn (by decide) hm_6) hms_e1) (cwV 1 hg (px_gV q_7_195 q_7_197 q_p_81 q_1_15 q_7_198) rfl rfl rfl (by decide +kernel) ⟨Nat.le_of_ble_eq_true rfl, Nat.le_of_ble_eq_true rfl⟩) (px_preV hK hPc_1 hDc_1 (ci := 11) (q0 := 0) rfl rfl) rfl rfl hl.1 rfl (lv_room (Nat.le_of_ble_eq_true rfl)) dX11_known_7 ⟨Nat.le_of_ble_eq_true rfl, Nat.le_of_ble_eq_true rfl⟩)) (fun r_1 hw_1 => ?_)
  obtain rfl : r_1 = 0 := hw_1
  refine lv_if_eq (tgt := 39) hx hb dX11_known_10 (by decide) (fun _ => ?_) (fun c_2 => absurd c_2 (by decide))
  refine lv_iconst (v := (-1)) hx hb dX11_known_39 (by decide) ?_
  exact W.iret (v := (-1)) hx hb hr (fun t ht hW => ⟨⟨_, (), rfl, rfl, trivial⟩, by subst hAe; exact hS.F ht⟩) (fun q h => by subst hAe; exact hS.2.2 q h) dX11_known_40

set_option maxHeartbeats 4000000 in
set_option maxRecDepth 100000 in
theorem c_X11_can (l : Launch) (D : va_G) (y : Nat → ClassId) (sz : Nat) (m : Nat) (fm : List Value) (ms : Nat) (fms : Nat → Int32) (p0 : Int32) (p1 : Int32) (hm_0 : fm[0]? = some (.int 0)) (hm_6 : fm[6]? = some (.ref ms)) (hms_e1 : fms 1 = 0) : Met l yX11_can (px_w yX11_can cX11_can 5 (some .int)) ({ frames := 2, cells := 0, slots := 0, locals := 43 }) (va_Pc [.ref m, .int p0, .int p1] (px_P D y sz [(m, .inr (11, fm)), (ms, .inl (y 1, 765, .inl fms))])) (va_Qi (fun (r : Int32) (u : Unit) => r = (-1)) (fun (u : Unit) t => True) (va_A [(m, .inr (11, fm)), (ms, .inl (y 1, 765, .inl fms))] sz)) 0 0 (va_A [(m, .inr (11, fm)), (ms, .inl (y 1, 765, .inl fms))] sz) := by
  refine Met.ofW (cc := cX11_can) (maxL := 5) (ret := (some .int)) (by decide) rfl ?_
  intro p e s m args below meth c s₁ B hml hv
  obtain ⟨rfl, hsz, hP, hK, hD0⟩ := hv
  have hx := B.exec
  have hb := B.bytes
  have hr := B.returns
  have hts := atoms_spec (ws := px_w yX11_can cX11_can 5 (some .int)) B.pre
  have hg : ∀ w ∈ gw, w.before [.ref m, .int p0, .int p1].toArray s = true := fun w h => hts w (List.mem_cons_of_mem _ h)
  have hown : s.vm.findClass RX11 = some m.cls := findClass_of_methodNamed B.named
  have hlocks := B.notSynchronized
  subst hsz
  have hD := hD0.self (sz := s.heap.size)
  generalize hAe : va_A [(m, .inr (11, fm)), (ms, .inl (y 1, 765, .inl fms))] s.heap.size = A at hD ⊢
  have hA : ∀ q : Nat, s.heap.size ≤ q → A q := fun q h => by rw [← hAe]; exact Or.inr h
  have hS : va_S A s.heap s.heap [] := va_S.rf
  have hP : va_P D vwCl [(m, .inr (11, fm)), (ms, .inl (y 1, 765, .inl fms))] s.heap := hP
  have hl := lv_entry ([.ref m, .int p0, .int p1]) (n := 5) (Nat.le_of_ble_eq_true rfl)
  rw [lg_entry_eq]
  generalize (lg_sl ([.ref m, .int p0, .int p1]) ++ List.replicate (5 - (lg_sl ([.ref m, .int p0, .int p1])).length) Slot.unset).toArray = ls at hl ⊢
  have hl : lv_has ls 5 [(0, .ref m), (1, .int p0), (2, .int p1)] := hl
  refine lv_aload_n hx hb dX11_can_0 rfl (lv_at hl 0 rfl) ?_
  refine lv_iconst (v := 0) hx hb dX11_can_1 (by decide) ?_
  refine va_put (D := D) (ci := 11) (v := .int 0) (ty := .int) (C := RX11) (T := TX11) (N := 65) hx hb hg inGX11 tyX11 tyX11_ok nmX11 hown hK hP hD hS 0 rfl rfl 0 (by decide) (hg _ q_6_126) (fun _ h9 => h9) rfl (by decide +kernel) rfl rfl (px_len hm_0) dX11_can_2 (fun H locs hP hD hS => ?_)
  have hP : va_P D vwCl [(m, .inr (11, (fm.set 0 (.int 0)))), (ms, .inl (y 1, 765, .inl fms))] H := hP
  have hD : va_D A [(m, .inr (11, (fm.set 0 (.int 0)))), (ms, .inl (y 1, 765, .inl fms))] := hD
  refine lv_aload_n hx hb dX11_can_5 rfl (lv_at hl 0 rfl) ?_
  refine lv_iload_n hx hb dX11_can_6 rfl (lv_at hl 1 rfl) ?_
  have hPc_1 := hP.sub (ws' := [(m, .inr (11, (fm.set 0 (.int 0)))), (ms, .inl (y 1, 765, .inl fms))]) [0, 1] rfl
  have hDc_1 := hD.sub (ws' := [(m, .inr (11, (fm.set 0 (.int 0)))), (ms, .inl (y 1, 765, .inl fms))]) [0, 1] (by decide) rfl
  refine vp_callSi (va_Run.run (va_runV (As := [.int p0]) (rest := []) ⟨hx, hb, hml, hown, hg⟩ (c_X11_isPerson l D y H.size m (fm.set 0 (.int 0)) ms fms p0 (px_sn (by decide) hm_6) hms_e1) (cwV 1 hg (px_gV q_7_195 q_7_197 q_p_81 q_1_15 q_7_198) rfl rfl rfl (by decide +kernel) ⟨Nat.le_of_ble_eq_true rfl, Nat.le_of_ble_eq_true rfl⟩) (px_preV hK hPc_1 hDc_1 (ci := 11) (q0 := 0) rfl rfl) rfl rfl hl.1 rfl (lv_room (Nat.le_of_ble_eq_true rfl)) dX11_can_7 ⟨Nat.le_of_ble_eq_true rfl, Nat.le_of_ble_eq_true rfl⟩)) (fun r_1 hw_1 => ?_)
  obtain rfl : r_1 = 0 := hw_1
  refine lv_if_eq (tgt := 21) hx hb dX11_can_10 (by decide) (fun _ => ?_) (fun c_2 => absurd c_2 (by decide))
  refine lv_iconst (v := (-1)) hx hb dX11_can_21 (by decide) ?_
  exact W.iret (v := (-1)) hx hb hr (fun t ht hW => ⟨⟨_, (), rfl, rfl, trivial⟩, by subst hAe; exact hS.F ht⟩) (fun q h => by subst hAe; exact hS.2.2 q h) dX11_can_22

set_option maxHeartbeats 4000000 in
set_option maxRecDepth 100000 in
theorem c_X11_whom (l : Launch) (D : va_G) (y : Nat → ClassId) (sz : Nat) (m : Nat) (fm : List Value) (ms : Nat) (fms : Nat → Int32) (p0 : Int32) (hm_0 : fm[0]? = some (.int 0)) (hm_6 : fm[6]? = some (.ref ms)) (hms_e1 : fms 1 = 0) : Met l yX11_whom (px_w yX11_whom cX11_whom 11 (some .int)) ({ frames := 2, cells := 0, slots := 0, locals := 43 }) (va_Pc [.ref m, .int p0] (px_P D y sz [(m, .inr (11, fm)), (ms, .inl (y 1, 765, .inl fms))])) (va_Qi (fun (r : Int32) (u : Unit) => r = (-1)) (fun (u : Unit) t => True) (va_A [(m, .inr (11, fm)), (ms, .inl (y 1, 765, .inl fms))] sz)) 0 0 (va_A [(m, .inr (11, fm)), (ms, .inl (y 1, 765, .inl fms))] sz) := by
  refine Met.ofW (cc := cX11_whom) (maxL := 11) (ret := (some .int)) (by decide) rfl ?_
  intro p e s m args below meth c s₁ B hml hv
  obtain ⟨rfl, hsz, hP, hK, hD0⟩ := hv
  have hx := B.exec
  have hb := B.bytes
  have hr := B.returns
  have hts := atoms_spec (ws := px_w yX11_whom cX11_whom 11 (some .int)) B.pre
  have hg : ∀ w ∈ gw, w.before [.ref m, .int p0].toArray s = true := fun w h => hts w (List.mem_cons_of_mem _ h)
  have hown : s.vm.findClass RX11 = some m.cls := findClass_of_methodNamed B.named
  have hlocks := B.notSynchronized
  subst hsz
  have hD := hD0.self (sz := s.heap.size)
  generalize hAe : va_A [(m, .inr (11, fm)), (ms, .inl (y 1, 765, .inl fms))] s.heap.size = A at hD ⊢
  have hA : ∀ q : Nat, s.heap.size ≤ q → A q := fun q h => by rw [← hAe]; exact Or.inr h
  have hS : va_S A s.heap s.heap [] := va_S.rf
  have hP : va_P D vwCl [(m, .inr (11, fm)), (ms, .inl (y 1, 765, .inl fms))] s.heap := hP
  have hl := lv_entry ([.ref m, .int p0]) (n := 11) (Nat.le_of_ble_eq_true rfl)
  rw [lg_entry_eq]
  generalize (lg_sl ([.ref m, .int p0]) ++ List.replicate (11 - (lg_sl ([.ref m, .int p0])).length) Slot.unset).toArray = ls at hl ⊢
  have hl : lv_has ls 11 [(0, .ref m), (1, .int p0)] := hl
  refine lv_aload_n hx hb dX11_whom_0 rfl (lv_at hl 0 rfl) ?_
  refine lv_iconst (v := 0) hx hb dX11_whom_1 (by decide) ?_
  refine va_put (D := D) (ci := 11) (v := .int 0) (ty := .int) (C := RX11) (T := TX11) (N := 65) hx hb hg inGX11 tyX11 tyX11_ok nmX11 hown hK hP hD hS 0 rfl rfl 0 (by decide) (hg _ q_6_126) (fun _ h9 => h9) rfl (by decide +kernel) rfl rfl (px_len hm_0) dX11_whom_2 (fun H locs hP hD hS => ?_)
  have hP : va_P D vwCl [(m, .inr (11, (fm.set 0 (.int 0)))), (ms, .inl (y 1, 765, .inl fms))] H := hP
  have hD : va_D A [(m, .inr (11, (fm.set 0 (.int 0)))), (ms, .inl (y 1, 765, .inl fms))] := hD
  refine lv_aload_n hx hb dX11_whom_5 rfl (lv_at hl 0 rfl) ?_
  refine lv_iload_n hx hb dX11_whom_6 rfl (lv_at hl 1 rfl) ?_
  have hPc_1 := hP.sub (ws' := [(m, .inr (11, (fm.set 0 (.int 0)))), (ms, .inl (y 1, 765, .inl fms))]) [0, 1] rfl
  have hDc_1 := hD.sub (ws' := [(m, .inr (11, (fm.set 0 (.int 0)))), (ms, .inl (y 1, 765, .inl fms))]) [0, 1] (by decide) rfl
  refine vp_callSi (va_Run.run (va_runV (As := [.int p0]) (rest := []) ⟨hx, hb, hml, hown, hg⟩ (c_X11_isPerson l D y H.size m (fm.set 0 (.int 0)) ms fms p0 (px_sn (by decide) hm_6) hms_e1) (cwV 1 hg (px_gV q_7_195 q_7_197 q_p_81 q_1_15 q_7_198) rfl rfl rfl (by decide +kernel) ⟨Nat.le_of_ble_eq_true rfl, Nat.le_of_ble_eq_true rfl⟩) (px_preV hK hPc_1 hDc_1 (ci := 11) (q0 := 0) rfl rfl) rfl rfl hl.1 rfl (lv_room (Nat.le_of_ble_eq_true rfl)) dX11_whom_7 ⟨Nat.le_of_ble_eq_true rfl, Nat.le_of_ble_eq_true rfl⟩)) (fun r_1 hw_1 => ?_)
  obtain rfl : r_1 = 0 := hw_1
  refine lv_if_eq (tgt := 29) hx hb dX11_whom_10 (by decide) (fun _ => ?_) (fun c_2 => absurd c_2 (by decide))
  refine lv_iconst (v := (-1)) hx hb dX11_whom_29 (by decide) ?_
  exact W.iret (v := (-1)) hx hb hr (fun t ht hW => ⟨⟨_, (), rfl, rfl, trivial⟩, by subst hAe; exact hS.F ht⟩) (fun q h => by subst hAe; exact hS.2.2 q h) dX11_whom_30

set_option maxHeartbeats 4000000 in
set_option maxRecDepth 100000 in
theorem c_X11_sweep (l : Launch) (D : va_G) (y : Nat → ClassId) (sz : Nat) (m : Nat) (fm : List Value) (ms : Nat) (fms : Nat → Int32) (p0 : Int32) (hm_0 : fm[0]? = some (.int 0)) (hm_6 : fm[6]? = some (.ref ms)) (hms_e1 : fms 1 = 0) : Met l yX11_sweep (px_w yX11_sweep cX11_sweep 4 (some .int)) ({ frames := 2, cells := 0, slots := 0, locals := 43 }) (va_Pc [.ref m, .int p0] (px_P D y sz [(m, .inr (11, fm)), (ms, .inl (y 1, 765, .inl fms))])) (va_Qi (fun (r : Int32) (u : Unit) => r = (-1)) (fun (u : Unit) t => True) (va_A [(m, .inr (11, fm)), (ms, .inl (y 1, 765, .inl fms))] sz)) 0 0 (va_A [(m, .inr (11, fm)), (ms, .inl (y 1, 765, .inl fms))] sz) := by
  refine Met.ofW (cc := cX11_sweep) (maxL := 4) (ret := (some .int)) (by decide) rfl ?_
  intro p e s m args below meth c s₁ B hml hv
  obtain ⟨rfl, hsz, hP, hK, hD0⟩ := hv
  have hx := B.exec
  have hb := B.bytes
  have hr := B.returns
  have hts := atoms_spec (ws := px_w yX11_sweep cX11_sweep 4 (some .int)) B.pre
  have hg : ∀ w ∈ gw, w.before [.ref m, .int p0].toArray s = true := fun w h => hts w (List.mem_cons_of_mem _ h)
  have hown : s.vm.findClass RX11 = some m.cls := findClass_of_methodNamed B.named
  have hlocks := B.notSynchronized
  subst hsz
  have hD := hD0.self (sz := s.heap.size)
  generalize hAe : va_A [(m, .inr (11, fm)), (ms, .inl (y 1, 765, .inl fms))] s.heap.size = A at hD ⊢
  have hA : ∀ q : Nat, s.heap.size ≤ q → A q := fun q h => by rw [← hAe]; exact Or.inr h
  have hS : va_S A s.heap s.heap [] := va_S.rf
  have hP : va_P D vwCl [(m, .inr (11, fm)), (ms, .inl (y 1, 765, .inl fms))] s.heap := hP
  have hl := lv_entry ([.ref m, .int p0]) (n := 4) (Nat.le_of_ble_eq_true rfl)
  rw [lg_entry_eq]
  generalize (lg_sl ([.ref m, .int p0]) ++ List.replicate (4 - (lg_sl ([.ref m, .int p0])).length) Slot.unset).toArray = ls at hl ⊢
  have hl : lv_has ls 4 [(0, .ref m), (1, .int p0)] := hl
  refine lv_aload_n hx hb dX11_sweep_0 rfl (lv_at hl 0 rfl) ?_
  refine lv_iconst (v := 0) hx hb dX11_sweep_1 (by decide) ?_
  refine va_put (D := D) (ci := 11) (v := .int 0) (ty := .int) (C := RX11) (T := TX11) (N := 65) hx hb hg inGX11 tyX11 tyX11_ok nmX11 hown hK hP hD hS 0 rfl rfl 0 (by decide) (hg _ q_6_126) (fun _ h9 => h9) rfl (by decide +kernel) rfl rfl (px_len hm_0) dX11_sweep_2 (fun H locs hP hD hS => ?_)
  have hP : va_P D vwCl [(m, .inr (11, (fm.set 0 (.int 0)))), (ms, .inl (y 1, 765, .inl fms))] H := hP
  have hD : va_D A [(m, .inr (11, (fm.set 0 (.int 0)))), (ms, .inl (y 1, 765, .inl fms))] := hD
  refine lv_aload_n hx hb dX11_sweep_5 rfl (lv_at hl 0 rfl) ?_
  refine lv_iload_n hx hb dX11_sweep_6 rfl (lv_at hl 1 rfl) ?_
  have hPc_1 := hP.sub (ws' := [(m, .inr (11, (fm.set 0 (.int 0)))), (ms, .inl (y 1, 765, .inl fms))]) [0, 1] rfl
  have hDc_1 := hD.sub (ws' := [(m, .inr (11, (fm.set 0 (.int 0)))), (ms, .inl (y 1, 765, .inl fms))]) [0, 1] (by decide) rfl
  refine vp_callSi (va_Run.run (va_runV (As := [.int p0]) (rest := []) ⟨hx, hb, hml, hown, hg⟩ (c_X11_isPerson l D y H.size m (fm.set 0 (.int 0)) ms fms p0 (px_sn (by decide) hm_6) hms_e1) (cwV 1 hg (px_gV q_7_195 q_7_197 q_p_81 q_1_15 q_7_198) rfl rfl rfl (by decide +kernel) ⟨Nat.le_of_ble_eq_true rfl, Nat.le_of_ble_eq_true rfl⟩) (px_preV hK hPc_1 hDc_1 (ci := 11) (q0 := 0) rfl rfl) rfl rfl hl.1 rfl (lv_room (Nat.le_of_ble_eq_true rfl)) dX11_sweep_7 ⟨Nat.le_of_ble_eq_true rfl, Nat.le_of_ble_eq_true rfl⟩)) (fun r_1 hw_1 => ?_)
  obtain rfl : r_1 = 0 := hw_1
  refine lv_if_ne (tgt := 15) hx hb dX11_sweep_10 (by decide) (fun c_2 => absurd c_2 (by decide)) (fun _ => ?_)
  refine lv_iconst (v := (-1)) hx hb dX11_sweep_13 (by decide) ?_
  exact W.iret (v := (-1)) hx hb hr (fun t ht hW => ⟨⟨_, (), rfl, rfl, trivial⟩, by subst hAe; exact hS.F ht⟩) (fun q h => by subst hAe; exact hS.2.2 q h) dX11_sweep_14

set_option maxHeartbeats 4000000 in
set_option maxRecDepth 100000 in
theorem c_X11_swept (l : Launch) (D : va_G) (y : Nat → ClassId) (sz : Nat) (m : Nat) (fm : List Value) (p0 : Int32) (hm_0 : fm[0]? = some (.int 0)) (hm_37 : fm[37]? = some (.int 0)) : Met l yX11_swept (px_w yX11_swept cX11_swept 2 (some .int)) ({ frames := 1, cells := 0, slots := 0, locals := 22 }) (va_Pc [.ref m, .int p0] (px_P D y sz [(m, .inr (11, fm))])) (va_Qi (fun (r : Int32) (u : Unit) => r = (-1)) (fun (u : Unit) t => True) (va_A [(m, .inr (11, fm))] sz)) 0 0 (va_A [(m, .inr (11, fm))] sz) := by
  refine Met.ofW (cc := cX11_swept) (maxL := 2) (ret := (some .int)) (by decide) rfl ?_
  intro p e s m args below meth c s₁ B hml hv
  obtain ⟨rfl, hsz, hP, hK, hD0⟩ := hv
  have hx := B.exec
  have hb := B.bytes
  have hr := B.returns
  have hts := atoms_spec (ws := px_w yX11_swept cX11_swept 2 (some .int)) B.pre
  have hg : ∀ w ∈ gw, w.before [.ref m, .int p0].toArray s = true := fun w h => hts w (List.mem_cons_of_mem _ h)
  have hown : s.vm.findClass RX11 = some m.cls := findClass_of_methodNamed B.named
  have hlocks := B.notSynchronized
  subst hsz
  have hD := hD0.self (sz := s.heap.size)
  generalize hAe : va_A [(m, .inr (11, fm))] s.heap.size = A at hD ⊢
  have hA : ∀ q : Nat, s.heap.size ≤ q → A q := fun q h => by rw [← hAe]; exact Or.inr h
  have hS : va_S A s.heap s.heap [] := va_S.rf
  have hP : va_P D vwCl [(m, .inr (11, fm))] s.heap := hP
  have hl := lv_entry ([.ref m, .int p0]) (n := 2) (Nat.le_of_ble_eq_true rfl)
  rw [lg_entry_eq]
  generalize (lg_sl ([.ref m, .int p0]) ++ List.replicate (2 - (lg_sl ([.ref m, .int p0])).length) Slot.unset).toArray = ls at hl ⊢
  have hl : lv_has ls 2 [(0, .ref m), (1, .int p0)] := hl
  refine lv_aload_n hx hb dX11_swept_0 rfl (lv_at hl 0 rfl) ?_
  refine lv_iconst (v := 0) hx hb dX11_swept_1 (by decide) ?_
  refine va_put (D := D) (ci := 11) (v := .int 0) (ty := .int) (C := RX11) (T := TX11) (N := 65) hx hb hg inGX11 tyX11 tyX11_ok nmX11 hown hK hP hD hS 0 rfl rfl 0 (by decide) (hg _ q_6_126) (fun _ h9 => h9) rfl (by decide +kernel) rfl rfl (px_len hm_0) dX11_swept_2 (fun H locs hP hD hS => ?_)
  have hP : va_P D vwCl [(m, .inr (11, (fm.set 0 (.int 0))))] H := hP
  have hD : va_D A [(m, .inr (11, (fm.set 0 (.int 0))))] := hD
  refine lv_iload_n hx hb dX11_swept_5 rfl (lv_at hl 1 rfl) ?_
  refine lv_iconst (v := 0) hx hb dX11_swept_6 (by decide) ?_
  refine lv_aload_n hx hb dX11_swept_7 rfl (lv_at hl 0 rfl) ?_
  refine va_get (D := D) (ci := 11) (v := .int 0) (C := RX11) (T := TX11) (N := 65) hx hb hg inGX11 hown hK hP 0 rfl rfl 37 (by decide) (hg _ q_6_163) (fun _ h9 => h9) (px_sn (by decide) hm_37) dX11_swept_8 ?_
  refine lv_iconst (v := 1) hx hb dX11_swept_11 (by decide) ?_
  refine lv_isub hx hb dX11_swept_12 ?_
  refine px_top (v := (-1)) (by decide) ?_
  have hPc_1 := hP.sub (ws' := []) [] rfl
  have hDc_1 := hD.sub (ws' := []) [] (by decide) rfl
  refine vp_callSi (va_Run.run (va_runS (As := [.int p0, .int 0, .int (-1)]) (rest := []) ⟨hx, hb, hml, hown, hg⟩ (c_X11_isIn l D y H.size p0 ) (va_cwS 3 hg (px_gS q_7_121 q_7_122 q_1_15 q_7_123) rfl rfl rfl (by decide +kernel) ⟨Nat.le_of_ble_eq_true rfl, Nat.le_of_ble_eq_true rfl⟩) (px_preS hK hPc_1 hDc_1) rfl rfl hl.1 rfl (lv_room (Nat.le_of_ble_eq_true rfl)) dX11_swept_13 ⟨Nat.le_of_ble_eq_true rfl, Nat.le_of_ble_eq_true rfl⟩)) (fun r_1 hw_1 => ?_)
  obtain rfl : r_1 = 0 := hw_1
  refine lv_if_eq (tgt := 28) hx hb dX11_swept_16 (by decide) (fun _ => ?_) (fun c_2 => absurd c_2 (by decide))
  refine lv_iconst (v := (-1)) hx hb dX11_swept_28 (by decide) ?_
  exact W.iret (v := (-1)) hx hb hr (fun t ht hW => ⟨⟨_, (), rfl, rfl, trivial⟩, by subst hAe; exact hS.F ht⟩) (fun q h => by subst hAe; exact hS.2.2 q h) dX11_swept_29

set_option maxHeartbeats 4000000 in
set_option maxRecDepth 100000 in
theorem c_X11_gains (l : Launch) (D : va_G) (y : Nat → ClassId) (sz : Nat) (m : Nat) (fm : List Value) (ms : Nat) (fms : Nat → Int32) (p0 : Int32) (hm_0 : fm[0]? = some (.int 0)) (hm_6 : fm[6]? = some (.ref ms)) (hms_e1 : fms 1 = 0) : Met l yX11_gains (px_w yX11_gains cX11_gains 4 (some .int)) ({ frames := 2, cells := 0, slots := 0, locals := 43 }) (va_Pc [.ref m, .int p0] (px_P D y sz [(m, .inr (11, fm)), (ms, .inl (y 1, 765, .inl fms))])) (va_Qi (fun (r : Int32) (u : Unit) => r = (-1)) (fun (u : Unit) t => True) (va_A [(m, .inr (11, fm)), (ms, .inl (y 1, 765, .inl fms))] sz)) 0 0 (va_A [(m, .inr (11, fm)), (ms, .inl (y 1, 765, .inl fms))] sz) := by
  refine Met.ofW (cc := cX11_gains) (maxL := 4) (ret := (some .int)) (by decide) rfl ?_
  intro p e s m args below meth c s₁ B hml hv
  obtain ⟨rfl, hsz, hP, hK, hD0⟩ := hv
  have hx := B.exec
  have hb := B.bytes
  have hr := B.returns
  have hts := atoms_spec (ws := px_w yX11_gains cX11_gains 4 (some .int)) B.pre
  have hg : ∀ w ∈ gw, w.before [.ref m, .int p0].toArray s = true := fun w h => hts w (List.mem_cons_of_mem _ h)
  have hown : s.vm.findClass RX11 = some m.cls := findClass_of_methodNamed B.named
  have hlocks := B.notSynchronized
  subst hsz
  have hD := hD0.self (sz := s.heap.size)
  generalize hAe : va_A [(m, .inr (11, fm)), (ms, .inl (y 1, 765, .inl fms))] s.heap.size = A at hD ⊢
  have hA : ∀ q : Nat, s.heap.size ≤ q → A q := fun q h => by rw [← hAe]; exact Or.inr h
  have hS : va_S A s.heap s.heap [] := va_S.rf
  have hP : va_P D vwCl [(m, .inr (11, fm)), (ms, .inl (y 1, 765, .inl fms))] s.heap := hP
  have hl := lv_entry ([.ref m, .int p0]) (n := 4) (Nat.le_of_ble_eq_true rfl)
  rw [lg_entry_eq]
  generalize (lg_sl ([.ref m, .int p0]) ++ List.replicate (4 - (lg_sl ([.ref m, .int p0])).length) Slot.unset).toArray = ls at hl ⊢
  have hl : lv_has ls 4 [(0, .ref m), (1, .int p0)] := hl
  refine lv_aload_n hx hb dX11_gains_0 rfl (lv_at hl 0 rfl) ?_
  refine lv_iconst (v := 0) hx hb dX11_gains_1 (by decide) ?_
  refine va_put (D := D) (ci := 11) (v := .int 0) (ty := .int) (C := RX11) (T := TX11) (N := 65) hx hb hg inGX11 tyX11 tyX11_ok nmX11 hown hK hP hD hS 0 rfl rfl 0 (by decide) (hg _ q_6_126) (fun _ h9 => h9) rfl (by decide +kernel) rfl rfl (px_len hm_0) dX11_gains_2 (fun H locs hP hD hS => ?_)
  have hP : va_P D vwCl [(m, .inr (11, (fm.set 0 (.int 0)))), (ms, .inl (y 1, 765, .inl fms))] H := hP
  have hD : va_D A [(m, .inr (11, (fm.set 0 (.int 0)))), (ms, .inl (y 1, 765, .inl fms))] := hD
  refine lv_aload_n hx hb dX11_gains_5 rfl (lv_at hl 0 rfl) ?_
  refine lv_iload_n hx hb dX11_gains_6 rfl (lv_at hl 1 rfl) ?_
  have hPc_1 := hP.sub (ws' := [(m, .inr (11, (fm.set 0 (.int 0)))), (ms, .inl (y 1, 765, .inl fms))]) [0, 1] rfl
  have hDc_1 := hD.sub (ws' := [(m, .inr (11, (fm.set 0 (.int 0)))), (ms, .inl (y 1, 765, .inl fms))]) [0, 1] (by decide) rfl
  refine vp_callSi (va_Run.run (va_runV (As := [.int p0]) (rest := []) ⟨hx, hb, hml, hown, hg⟩ (c_X11_isPerson l D y H.size m (fm.set 0 (.int 0)) ms fms p0 (px_sn (by decide) hm_6) hms_e1) (cwV 1 hg (px_gV q_7_195 q_7_197 q_p_81 q_1_15 q_7_198) rfl rfl rfl (by decide +kernel) ⟨Nat.le_of_ble_eq_true rfl, Nat.le_of_ble_eq_true rfl⟩) (px_preV hK hPc_1 hDc_1 (ci := 11) (q0 := 0) rfl rfl) rfl rfl hl.1 rfl (lv_room (Nat.le_of_ble_eq_true rfl)) dX11_gains_7 ⟨Nat.le_of_ble_eq_true rfl, Nat.le_of_ble_eq_true rfl⟩)) (fun r_1 hw_1 => ?_)
  obtain rfl : r_1 = 0 := hw_1
  refine lv_if_ne (tgt := 15) hx hb dX11_gains_10 (by decide) (fun c_2 => absurd c_2 (by decide)) (fun _ => ?_)
  refine lv_iconst (v := (-1)) hx hb dX11_gains_13 (by decide) ?_
  exact W.iret (v := (-1)) hx hb hr (fun t ht hW => ⟨⟨_, (), rfl, rfl, trivial⟩, by subst hAe; exact hS.F ht⟩) (fun q h => by subst hAe; exact hS.2.2 q h) dX11_gains_14

set_option maxHeartbeats 4000000 in
set_option maxRecDepth 100000 in
theorem c_X11_asked (l : Launch) (D : va_G) (y : Nat → ClassId) (sz : Nat) (m : Nat) (fm : List Value) (p0 : Int32) (hm_0 : fm[0]? = some (.int 0)) (hm_24 : fm[24]? = some (.int 0)) : Met l yX11_asked (px_w yX11_asked cX11_asked 2 (some .int)) ({ frames := 0, cells := 0, slots := 0, locals := 0 }) (va_Pc [.ref m, .int p0] (px_P D y sz [(m, .inr (11, fm))])) (va_Qi (fun (r : Int32) (u : Unit) => r = (-1)) (fun (u : Unit) t => True) (va_A [(m, .inr (11, fm))] sz)) 0 0 (va_A [(m, .inr (11, fm))] sz) := by
  refine Met.ofW (cc := cX11_asked) (maxL := 2) (ret := (some .int)) (by decide) rfl ?_
  intro p e s m args below meth c s₁ B hml hv
  obtain ⟨rfl, hsz, hP, hK, hD0⟩ := hv
  have hx := B.exec
  have hb := B.bytes
  have hr := B.returns
  have hts := atoms_spec (ws := px_w yX11_asked cX11_asked 2 (some .int)) B.pre
  have hg : ∀ w ∈ gw, w.before [.ref m, .int p0].toArray s = true := fun w h => hts w (List.mem_cons_of_mem _ h)
  have hown : s.vm.findClass RX11 = some m.cls := findClass_of_methodNamed B.named
  have hlocks := B.notSynchronized
  subst hsz
  have hD := hD0.self (sz := s.heap.size)
  generalize hAe : va_A [(m, .inr (11, fm))] s.heap.size = A at hD ⊢
  have hA : ∀ q : Nat, s.heap.size ≤ q → A q := fun q h => by rw [← hAe]; exact Or.inr h
  have hS : va_S A s.heap s.heap [] := va_S.rf
  have hP : va_P D vwCl [(m, .inr (11, fm))] s.heap := hP
  have hl := lv_entry ([.ref m, .int p0]) (n := 2) (Nat.le_of_ble_eq_true rfl)
  rw [lg_entry_eq]
  generalize (lg_sl ([.ref m, .int p0]) ++ List.replicate (2 - (lg_sl ([.ref m, .int p0])).length) Slot.unset).toArray = ls at hl ⊢
  have hl : lv_has ls 2 [(0, .ref m), (1, .int p0)] := hl
  refine lv_aload_n hx hb dX11_asked_0 rfl (lv_at hl 0 rfl) ?_
  refine lv_iconst (v := 0) hx hb dX11_asked_1 (by decide) ?_
  refine va_put (D := D) (ci := 11) (v := .int 0) (ty := .int) (C := RX11) (T := TX11) (N := 65) hx hb hg inGX11 tyX11 tyX11_ok nmX11 hown hK hP hD hS 0 rfl rfl 0 (by decide) (hg _ q_6_126) (fun _ h9 => h9) rfl (by decide +kernel) rfl rfl (px_len hm_0) dX11_asked_2 (fun H locs hP hD hS => ?_)
  have hP : va_P D vwCl [(m, .inr (11, (fm.set 0 (.int 0))))] H := hP
  have hD : va_D A [(m, .inr (11, (fm.set 0 (.int 0))))] := hD
  refine lv_aload_n hx hb dX11_asked_5 rfl (lv_at hl 0 rfl) ?_
  refine va_get (D := D) (ci := 11) (v := .int 0) (C := RX11) (T := TX11) (N := 65) hx hb hg inGX11 hown hK hP 0 rfl rfl 24 (by decide) (hg _ q_6_150) (fun _ h9 => h9) (px_sn (by decide) hm_24) dX11_asked_6 ?_
  refine lv_if_eq (tgt := 31) hx hb dX11_asked_9 (by decide) (fun _ => ?_) (fun c_1 => absurd c_1 (by decide))
  refine lv_iconst (v := (-1)) hx hb dX11_asked_31 (by decide) ?_
  exact W.iret (v := (-1)) hx hb hr (fun t ht hW => ⟨⟨_, (), rfl, rfl, trivial⟩, by subst hAe; exact hS.F ht⟩) (fun q h => by subst hAe; exact hS.2.2 q h) dX11_asked_32

set_option maxHeartbeats 4000000 in
set_option maxRecDepth 100000 in
theorem c_X11_heard (l : Launch) (D : va_G) (y : Nat → ClassId) (sz : Nat) (m : Nat) (fm : List Value) (p0 : Int32) (hm_0 : fm[0]? = some (.int 0)) (hm_54 : fm[54]? = some (.int 0)) : Met l yX11_heard (px_w yX11_heard cX11_heard 2 (some .int)) ({ frames := 0, cells := 0, slots := 0, locals := 0 }) (va_Pc [.ref m, .int p0] (px_P D y sz [(m, .inr (11, fm))])) (va_Qi (fun (r : Int32) (u : Unit) => r = (-1)) (fun (u : Unit) t => True) (va_A [(m, .inr (11, fm))] sz)) 0 0 (va_A [(m, .inr (11, fm))] sz) := by
  refine Met.ofW (cc := cX11_heard) (maxL := 2) (ret := (some .int)) (by decide) rfl ?_
  intro p e s m args below meth c s₁ B hml hv
  obtain ⟨rfl, hsz, hP, hK, hD0⟩ := hv
  have hx := B.exec
  have hb := B.bytes
  have hr := B.returns
  have hts := atoms_spec (ws := px_w yX11_heard cX11_heard 2 (some .int)) B.pre
  have hg : ∀ w ∈ gw, w.before [.ref m, .int p0].toArray s = true := fun w h => hts w (List.mem_cons_of_mem _ h)
  have hown : s.vm.findClass RX11 = some m.cls := findClass_of_methodNamed B.named
  have hlocks := B.notSynchronized
  subst hsz
  have hD := hD0.self (sz := s.heap.size)
  generalize hAe : va_A [(m, .inr (11, fm))] s.heap.size = A at hD ⊢
  have hA : ∀ q : Nat, s.heap.size ≤ q → A q := fun q h => by rw [← hAe]; exact Or.inr h
  have hS : va_S A s.heap s.heap [] := va_S.rf
  have hP : va_P D vwCl [(m, .inr (11, fm))] s.heap := hP
  have hl := lv_entry ([.ref m, .int p0]) (n := 2) (Nat.le_of_ble_eq_true rfl)
  rw [lg_entry_eq]
  generalize (lg_sl ([.ref m, .int p0]) ++ List.replicate (2 - (lg_sl ([.ref m, .int p0])).length) Slot.unset).toArray = ls at hl ⊢
  have hl : lv_has ls 2 [(0, .ref m), (1, .int p0)] := hl
  refine lv_aload_n hx hb dX11_heard_0 rfl (lv_at hl 0 rfl) ?_
  refine lv_iconst (v := 0) hx hb dX11_heard_1 (by decide) ?_
  refine va_put (D := D) (ci := 11) (v := .int 0) (ty := .int) (C := RX11) (T := TX11) (N := 65) hx hb hg inGX11 tyX11 tyX11_ok nmX11 hown hK hP hD hS 0 rfl rfl 0 (by decide) (hg _ q_6_126) (fun _ h9 => h9) rfl (by decide +kernel) rfl rfl (px_len hm_0) dX11_heard_2 (fun H locs hP hD hS => ?_)
  have hP : va_P D vwCl [(m, .inr (11, (fm.set 0 (.int 0))))] H := hP
  have hD : va_D A [(m, .inr (11, (fm.set 0 (.int 0))))] := hD
  refine lv_aload_n hx hb dX11_heard_5 rfl (lv_at hl 0 rfl) ?_
  refine va_get (D := D) (ci := 11) (v := .int 0) (C := RX11) (T := TX11) (N := 65) hx hb hg inGX11 hown hK hP 0 rfl rfl 54 (by decide) (hg _ q_6_180) (fun _ h9 => h9) (px_sn (by decide) hm_54) dX11_heard_6 ?_
  refine lv_if_eq (tgt := 30) hx hb dX11_heard_9 (by decide) (fun _ => ?_) (fun c_1 => absurd c_1 (by decide))
  refine lv_iconst (v := (-1)) hx hb dX11_heard_30 (by decide) ?_
  exact W.iret (v := (-1)) hx hb hr (fun t ht hW => ⟨⟨_, (), rfl, rfl, trivial⟩, by subst hAe; exact hS.F ht⟩) (fun q h => by subst hAe; exact hS.2.2 q h) dX11_heard_31

set_option maxHeartbeats 4000000 in
set_option maxRecDepth 100000 in
theorem c_X11_bent (l : Launch) (D : va_G) (y : Nat → ClassId) (sz : Nat) (m : Nat) (fm : List Value) (ms : Nat) (fms : Nat → Int32) (p0 : Int32) (p1 : Int32) (hm_0 : fm[0]? = some (.int 0)) (hm_6 : fm[6]? = some (.ref ms)) (hms_e1 : fms 1 = 0) : Met l yX11_bent (px_w yX11_bent cX11_bent 3 (some .int)) ({ frames := 2, cells := 0, slots := 0, locals := 43 }) (va_Pc [.ref m, .int p0, .int p1] (px_P D y sz [(m, .inr (11, fm)), (ms, .inl (y 1, 765, .inl fms))])) (va_Qi (fun (r : Int32) (u : Unit) => r = (-1)) (fun (u : Unit) t => True) (va_A [(m, .inr (11, fm)), (ms, .inl (y 1, 765, .inl fms))] sz)) 0 0 (va_A [(m, .inr (11, fm)), (ms, .inl (y 1, 765, .inl fms))] sz) := by
  refine Met.ofW (cc := cX11_bent) (maxL := 3) (ret := (some .int)) (by decide) rfl ?_
  intro p e s m args below meth c s₁ B hml hv
  obtain ⟨rfl, hsz, hP, hK, hD0⟩ := hv
  have hx := B.exec
  have hb := B.bytes
  have hr := B.returns
  have hts := atoms_spec (ws := px_w yX11_bent cX11_bent 3 (some .int)) B.pre
  have hg : ∀ w ∈ gw, w.before [.ref m, .int p0, .int p1].toArray s = true := fun w h => hts w (List.mem_cons_of_mem _ h)
  have hown : s.vm.findClass RX11 = some m.cls := findClass_of_methodNamed B.named
  have hlocks := B.notSynchronized
  subst hsz
  have hD := hD0.self (sz := s.heap.size)
  generalize hAe : va_A [(m, .inr (11, fm)), (ms, .inl (y 1, 765, .inl fms))] s.heap.size = A at hD ⊢
  have hA : ∀ q : Nat, s.heap.size ≤ q → A q := fun q h => by rw [← hAe]; exact Or.inr h
  have hS : va_S A s.heap s.heap [] := va_S.rf
  have hP : va_P D vwCl [(m, .inr (11, fm)), (ms, .inl (y 1, 765, .inl fms))] s.heap := hP
  have hl := lv_entry ([.ref m, .int p0, .int p1]) (n := 3) (Nat.le_of_ble_eq_true rfl)
  rw [lg_entry_eq]
  generalize (lg_sl ([.ref m, .int p0, .int p1]) ++ List.replicate (3 - (lg_sl ([.ref m, .int p0, .int p1])).length) Slot.unset).toArray = ls at hl ⊢
  have hl : lv_has ls 3 [(0, .ref m), (1, .int p0), (2, .int p1)] := hl
  refine lv_aload_n hx hb dX11_bent_0 rfl (lv_at hl 0 rfl) ?_
  refine lv_iconst (v := 0) hx hb dX11_bent_1 (by decide) ?_
  refine va_put (D := D) (ci := 11) (v := .int 0) (ty := .int) (C := RX11) (T := TX11) (N := 65) hx hb hg inGX11 tyX11 tyX11_ok nmX11 hown hK hP hD hS 0 rfl rfl 0 (by decide) (hg _ q_6_126) (fun _ h9 => h9) rfl (by decide +kernel) rfl rfl (px_len hm_0) dX11_bent_2 (fun H locs hP hD hS => ?_)
  have hP : va_P D vwCl [(m, .inr (11, (fm.set 0 (.int 0)))), (ms, .inl (y 1, 765, .inl fms))] H := hP
  have hD : va_D A [(m, .inr (11, (fm.set 0 (.int 0)))), (ms, .inl (y 1, 765, .inl fms))] := hD
  refine lv_aload_n hx hb dX11_bent_5 rfl (lv_at hl 0 rfl) ?_
  refine lv_iload_n hx hb dX11_bent_6 rfl (lv_at hl 1 rfl) ?_
  have hPc_1 := hP.sub (ws' := [(m, .inr (11, (fm.set 0 (.int 0)))), (ms, .inl (y 1, 765, .inl fms))]) [0, 1] rfl
  have hDc_1 := hD.sub (ws' := [(m, .inr (11, (fm.set 0 (.int 0)))), (ms, .inl (y 1, 765, .inl fms))]) [0, 1] (by decide) rfl
  refine vp_callSi (va_Run.run (va_runV (As := [.int p0]) (rest := []) ⟨hx, hb, hml, hown, hg⟩ (c_X11_isPerson l D y H.size m (fm.set 0 (.int 0)) ms fms p0 (px_sn (by decide) hm_6) hms_e1) (cwV 1 hg (px_gV q_7_195 q_7_197 q_p_81 q_1_15 q_7_198) rfl rfl rfl (by decide +kernel) ⟨Nat.le_of_ble_eq_true rfl, Nat.le_of_ble_eq_true rfl⟩) (px_preV hK hPc_1 hDc_1 (ci := 11) (q0 := 0) rfl rfl) rfl rfl hl.1 rfl (lv_room (Nat.le_of_ble_eq_true rfl)) dX11_bent_7 ⟨Nat.le_of_ble_eq_true rfl, Nat.le_of_ble_eq_true rfl⟩)) (fun r_1 hw_1 => ?_)
  obtain rfl : r_1 = 0 := hw_1
  refine lv_if_eq (tgt := 31) hx hb dX11_bent_10 (by decide) (fun _ => ?_) (fun c_2 => absurd c_2 (by decide))
  refine lv_iconst (v := (-1)) hx hb dX11_bent_31 (by decide) ?_
  exact W.iret (v := (-1)) hx hb hr (fun t ht hW => ⟨⟨_, (), rfl, rfl, trivial⟩, by subst hAe; exact hS.F ht⟩) (fun q h => by subst hAe; exact hS.2.2 q h) dX11_bent_32

set_option maxHeartbeats 4000000 in
set_option maxRecDepth 100000 in
theorem c_X11_leader (l : Launch) (D : va_G) (y : Nat → ClassId) (sz : Nat) (m : Nat) (fm : List Value) (ms : Nat) (fms : Nat → Int32) (hm_0 : fm[0]? = some (.int 0)) (hm_6 : fm[6]? = some (.ref ms)) (hms_e1 : fms 1 = 0) : Met l yX11_leader (px_w yX11_leader cX11_leader 3 (some .int)) ({ frames := 0, cells := 0, slots := 0, locals := 0 }) (va_Pc [.ref m] (px_P D y sz [(m, .inr (11, fm)), (ms, .inl (y 1, 765, .inl fms))])) (va_Qi (fun (r : Int32) (u : Unit) => r = (-1)) (fun (u : Unit) t => True) (va_A [(m, .inr (11, fm)), (ms, .inl (y 1, 765, .inl fms))] sz)) 0 0 (va_A [(m, .inr (11, fm)), (ms, .inl (y 1, 765, .inl fms))] sz) := by
  refine Met.ofW (cc := cX11_leader) (maxL := 3) (ret := (some .int)) (by decide) rfl ?_
  intro p e s m args below meth c s₁ B hml hv
  obtain ⟨rfl, hsz, hP, hK, hD0⟩ := hv
  have hx := B.exec
  have hb := B.bytes
  have hr := B.returns
  have hts := atoms_spec (ws := px_w yX11_leader cX11_leader 3 (some .int)) B.pre
  have hg : ∀ w ∈ gw, w.before [.ref m].toArray s = true := fun w h => hts w (List.mem_cons_of_mem _ h)
  have hown : s.vm.findClass RX11 = some m.cls := findClass_of_methodNamed B.named
  have hlocks := B.notSynchronized
  subst hsz
  have hD := hD0.self (sz := s.heap.size)
  generalize hAe : va_A [(m, .inr (11, fm)), (ms, .inl (y 1, 765, .inl fms))] s.heap.size = A at hD ⊢
  have hA : ∀ q : Nat, s.heap.size ≤ q → A q := fun q h => by rw [← hAe]; exact Or.inr h
  have hS : va_S A s.heap s.heap [] := va_S.rf
  have hP : va_P D vwCl [(m, .inr (11, fm)), (ms, .inl (y 1, 765, .inl fms))] s.heap := hP
  have hl := lv_entry ([.ref m]) (n := 3) (Nat.le_of_ble_eq_true rfl)
  rw [lg_entry_eq]
  generalize (lg_sl ([.ref m]) ++ List.replicate (3 - (lg_sl ([.ref m])).length) Slot.unset).toArray = ls at hl ⊢
  have hl : lv_has ls 3 [(0, .ref m)] := hl
  refine lv_aload_n hx hb dX11_leader_0 rfl (lv_at hl 0 rfl) ?_
  refine lv_iconst (v := 0) hx hb dX11_leader_1 (by decide) ?_
  refine va_put (D := D) (ci := 11) (v := .int 0) (ty := .int) (C := RX11) (T := TX11) (N := 65) hx hb hg inGX11 tyX11 tyX11_ok nmX11 hown hK hP hD hS 0 rfl rfl 0 (by decide) (hg _ q_6_126) (fun _ h9 => h9) rfl (by decide +kernel) rfl rfl (px_len hm_0) dX11_leader_2 (fun H locs hP hD hS => ?_)
  have hP : va_P D vwCl [(m, .inr (11, (fm.set 0 (.int 0)))), (ms, .inl (y 1, 765, .inl fms))] H := hP
  have hD : va_D A [(m, .inr (11, (fm.set 0 (.int 0)))), (ms, .inl (y 1, 765, .inl fms))] := hD
  refine lv_iconst (v := (-1)) hx hb dX11_leader_5 (by decide) ?_
  refine lv_istore_n (lv' := [(1, .int (-1)), (0, .ref m)]) hx hb dX11_leader_6 rfl hl (by decide) rfl (fun ls hl => ?_)
  refine lv_iconst (v := 0) hx hb dX11_leader_7 (by decide) ?_
  refine lv_istore_n (lv' := [(2, .int 0), (1, .int (-1)), (0, .ref m)]) hx hb dX11_leader_8 rfl hl (by decide) rfl (fun ls hl => ?_)
  refine lv_iload_n hx hb dX11_leader_9 rfl (lv_at hl 0 rfl) ?_
  refine lv_aload_n hx hb dX11_leader_10 rfl (lv_at hl 2 rfl) ?_
  refine va_get (D := D) (ci := 11) (v := .ref ms) (C := RX11) (T := TX11) (N := 65) hx hb hg inGX11 hown hK hP 0 rfl rfl 6 (by decide) (hg _ q_6_132) (fun _ h9 => h9) (px_sn (by decide) hm_6) dX11_leader_11 ?_
  refine lv_iconst (v := 1) hx hb dX11_leader_14 (by decide) ?_
  refine va_iald hx hb hK hP 1 1 rfl rfl (i := 1) (px_in (by decide)) dX11_leader_15 ?_
  refine px_top (v := 0) hms_e1 ?_
  refine lv_icmp_ge (tgt := 44) hx hb dX11_leader_16 (by decide) (fun _ => ?_) (fun c_1 => absurd c_1 (by decide))
  refine lv_iload_n hx hb dX11_leader_44 rfl (lv_at hl 1 rfl) ?_
  exact W.iret (v := (-1)) hx hb hr (fun t ht hW => ⟨⟨_, (), rfl, rfl, trivial⟩, by subst hAe; exact hS.F ht⟩) (fun q h => by subst hAe; exact hS.2.2 q h) dX11_leader_45

set_option maxHeartbeats 4000000 in
set_option maxRecDepth 100000 in
theorem c_X11_said (l : Launch) (D : va_G) (y : Nat → ClassId) (sz : Nat) (m : Nat) (fm : List Value) (ms : Nat) (fms : Nat → Int32) (p0 : Int32) (hm_0 : fm[0]? = some (.int 0)) (hm_6 : fm[6]? = some (.ref ms)) (hms_e584 : fms 584 = 0) : Met l yX11_said (px_w yX11_said cX11_said 4 (some .int)) ({ frames := 0, cells := 0, slots := 0, locals := 0 }) (va_Pc [.ref m, .int p0] (px_P D y sz [(m, .inr (11, fm)), (ms, .inl (y 1, 765, .inl fms))])) (va_Qi (fun (r : Int32) (u : Unit) => r = (-1)) (fun (u : Unit) t => True) (va_A [(m, .inr (11, fm)), (ms, .inl (y 1, 765, .inl fms))] sz)) 0 0 (va_A [(m, .inr (11, fm)), (ms, .inl (y 1, 765, .inl fms))] sz) := by
  refine Met.ofW (cc := cX11_said) (maxL := 4) (ret := (some .int)) (by decide) rfl ?_
  intro p e s m args below meth c s₁ B hml hv
  obtain ⟨rfl, hsz, hP, hK, hD0⟩ := hv
  have hx := B.exec
  have hb := B.bytes
  have hr := B.returns
  have hts := atoms_spec (ws := px_w yX11_said cX11_said 4 (some .int)) B.pre
  have hg : ∀ w ∈ gw, w.before [.ref m, .int p0].toArray s = true := fun w h => hts w (List.mem_cons_of_mem _ h)
  have hown : s.vm.findClass RX11 = some m.cls := findClass_of_methodNamed B.named
  have hlocks := B.notSynchronized
  subst hsz
  have hD := hD0.self (sz := s.heap.size)
  generalize hAe : va_A [(m, .inr (11, fm)), (ms, .inl (y 1, 765, .inl fms))] s.heap.size = A at hD ⊢
  have hA : ∀ q : Nat, s.heap.size ≤ q → A q := fun q h => by rw [← hAe]; exact Or.inr h
  have hS : va_S A s.heap s.heap [] := va_S.rf
  have hP : va_P D vwCl [(m, .inr (11, fm)), (ms, .inl (y 1, 765, .inl fms))] s.heap := hP
  have hl := lv_entry ([.ref m, .int p0]) (n := 4) (Nat.le_of_ble_eq_true rfl)
  rw [lg_entry_eq]
  generalize (lg_sl ([.ref m, .int p0]) ++ List.replicate (4 - (lg_sl ([.ref m, .int p0])).length) Slot.unset).toArray = ls at hl ⊢
  have hl : lv_has ls 4 [(0, .ref m), (1, .int p0)] := hl
  refine lv_aload_n hx hb dX11_said_0 rfl (lv_at hl 0 rfl) ?_
  refine lv_iconst (v := 0) hx hb dX11_said_1 (by decide) ?_
  refine va_put (D := D) (ci := 11) (v := .int 0) (ty := .int) (C := RX11) (T := TX11) (N := 65) hx hb hg inGX11 tyX11 tyX11_ok nmX11 hown hK hP hD hS 0 rfl rfl 0 (by decide) (hg _ q_6_126) (fun _ h9 => h9) rfl (by decide +kernel) rfl rfl (px_len hm_0) dX11_said_2 (fun H locs hP hD hS => ?_)
  have hP : va_P D vwCl [(m, .inr (11, (fm.set 0 (.int 0)))), (ms, .inl (y 1, 765, .inl fms))] H := hP
  have hD : va_D A [(m, .inr (11, (fm.set 0 (.int 0)))), (ms, .inl (y 1, 765, .inl fms))] := hD
  refine lv_aload_n hx hb dX11_said_5 rfl (lv_at hl 0 rfl) ?_
  refine va_get (D := D) (ci := 11) (v := .ref ms) (C := RX11) (T := TX11) (N := 65) hx hb hg inGX11 hown hK hP 0 rfl rfl 6 (by decide) (hg _ q_6_132) (fun _ h9 => h9) (px_sn (by decide) hm_6) dX11_said_6 ?_
  refine lv_sipush (v := 584) hx hb dX11_said_9 (by decide) ?_
  refine va_iald hx hb hK hP 1 1 rfl rfl (i := 584) (px_in (by decide)) dX11_said_12 ?_
  refine px_top (v := 0) hms_e584 ?_
  refine lv_if_eq (tgt := 21) hx hb dX11_said_13 (by decide) (fun _ => ?_) (fun c_1 => absurd c_1 (by decide))
  refine lv_iconst (v := (-1)) hx hb dX11_said_21 (by decide) ?_
  exact W.iret (v := (-1)) hx hb hr (fun t ht hW => ⟨⟨_, (), rfl, rfl, trivial⟩, by subst hAe; exact hS.F ht⟩) (fun q h => by subst hAe; exact hS.2.2 q h) dX11_said_22
