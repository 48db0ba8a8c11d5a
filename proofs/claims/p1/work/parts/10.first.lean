set_option maxHeartbeats 4000000 in
set_option maxRecDepth 100000 in
theorem c_X2_hasPerson (l : Launch) (D : va_G) (y : Nat → ClassId) (sz : Nat) (g : Nat) (fg : List Value) (p0 : Int32) (hg1 : fg[1]? = some (.int 0)) : Met l yX2_hasPerson (px_w yX2_hasPerson cX2_hasPerson 2 (some .boolean)) ({ frames := 0, cells := 0, slots := 0, locals := 0 }) (va_Pc [.ref g, .int p0] (px_P D y sz [(g, .inr (2, fg))])) (vp_Si (fun r : Int32 => r = 0)) 0 0 (fun _ => False) := by
  refine Met.ofW (cc := cX2_hasPerson) (maxL := 2) (ret := (some .boolean)) (by decide) rfl ?_
  intro p e s m args below meth c s₁ B hml hv
  obtain ⟨rfl, hsz, hP, hK, hD0⟩ := hv
  have hx := B.exec
  have hb := B.bytes
  have hr := B.returns
  have hts := atoms_spec (ws := px_w yX2_hasPerson cX2_hasPerson 2 (some .boolean)) B.pre
  have hg : ∀ w ∈ gw, w.before [.ref g, .int p0].toArray s = true := fun w h => hts w (List.mem_cons_of_mem _ h)
  have hown : s.vm.findClass RX2 = some m.cls := findClass_of_methodNamed B.named
  have hlocks := B.notSynchronized
  subst hsz
  have hD := hD0
  have hP : va_P D vwCl [(g, .inr (2, fg))] s.heap := hP
  have hl := lv_entry ([.ref g, .int p0]) (n := 2) (Nat.le_of_ble_eq_true rfl)
  rw [lg_entry_eq]
  generalize (lg_sl ([.ref g, .int p0]) ++ List.replicate (2 - (lg_sl ([.ref g, .int p0])).length) Slot.unset).toArray = ls at hl ⊢
  have hl : lv_has ls 2 [(0, .ref g), (1, .int p0)] := hl
  refine lv_iload_n hx hb dX2_hasPerson_0 rfl (lv_at hl 1 rfl) ?_
  refine lv_if_lt (tgt := 16) hx hb dX2_hasPerson_1 (by decide) (fun c_1 => ?_) (fun c_1 => ?_)
  · refine lv_iconst (v := 0) hx hb dX2_hasPerson_16 (by decide) ?_
    exact W.zret (v := 0) hx hb hr (by decide) (fun t ht hW => ⟨_, rfl, rfl, ht⟩) (fun q h => by cases h) dX2_hasPerson_17
  · refine lv_iload_n hx hb dX2_hasPerson_4 rfl (lv_at hl 1 rfl) ?_
    refine lv_aload_n hx hb dX2_hasPerson_5 rfl (lv_at hl 0 rfl) ?_
    refine va_get (D := D) (ci := 2) (v := .int 0) (C := RX2) (T := TX2) (N := 18) hx hb hg inGX2 hown hK hP 0 rfl rfl 1 (by decide) (hg _ q_1_70) (fun _ h9 => h9) hg1 dX2_hasPerson_6 ?_
    refine lv_icmp_ge (tgt := 16) hx hb dX2_hasPerson_9 (by decide) (fun c_2 => ?_) (fun c_2 => (by exfalso; simp only [Int32.lt_iff_toInt_lt, Int32.le_iff_toInt_le, ← Int32.toInt_inj] at c_1 c_2; have e0 : (0 : Int32).toInt = 0 := rfl; omega))
    refine lv_iconst (v := 0) hx hb dX2_hasPerson_16 (by decide) ?_
    exact W.zret (v := 0) hx hb hr (by decide) (fun t ht hW => ⟨_, rfl, rfl, ht⟩) (fun q h => by cases h) dX2_hasPerson_17

set_option maxHeartbeats 4000000 in
set_option maxRecDepth 100000 in
theorem c_X2_hasKind (l : Launch) (D : va_G) (y : Nat → ClassId) (sz : Nat) (g : Nat) (fg : List Value) (p0 : Int32) (hg0 : fg[0]? = some (.int 0)) : Met l yX2_hasKind (px_w yX2_hasKind cX2_hasKind 2 (some .boolean)) ({ frames := 0, cells := 0, slots := 0, locals := 0 }) (va_Pc [.ref g, .int p0] (px_P D y sz [(g, .inr (2, fg))])) (vp_Si (fun r : Int32 => r = 0)) 0 0 (fun _ => False) := by
  refine Met.ofW (cc := cX2_hasKind) (maxL := 2) (ret := (some .boolean)) (by decide) rfl ?_
  intro p e s m args below meth c s₁ B hml hv
  obtain ⟨rfl, hsz, hP, hK, hD0⟩ := hv
  have hx := B.exec
  have hb := B.bytes
  have hr := B.returns
  have hts := atoms_spec (ws := px_w yX2_hasKind cX2_hasKind 2 (some .boolean)) B.pre
  have hg : ∀ w ∈ gw, w.before [.ref g, .int p0].toArray s = true := fun w h => hts w (List.mem_cons_of_mem _ h)
  have hown : s.vm.findClass RX2 = some m.cls := findClass_of_methodNamed B.named
  have hlocks := B.notSynchronized
  subst hsz
  have hD := hD0
  have hP : va_P D vwCl [(g, .inr (2, fg))] s.heap := hP
  have hl := lv_entry ([.ref g, .int p0]) (n := 2) (Nat.le_of_ble_eq_true rfl)
  rw [lg_entry_eq]
  generalize (lg_sl ([.ref g, .int p0]) ++ List.replicate (2 - (lg_sl ([.ref g, .int p0])).length) Slot.unset).toArray = ls at hl ⊢
  have hl : lv_has ls 2 [(0, .ref g), (1, .int p0)] := hl
  refine lv_iload_n hx hb dX2_hasKind_0 rfl (lv_at hl 1 rfl) ?_
  refine lv_if_lt (tgt := 16) hx hb dX2_hasKind_1 (by decide) (fun c_1 => ?_) (fun c_1 => ?_)
  · refine lv_iconst (v := 0) hx hb dX2_hasKind_16 (by decide) ?_
    exact W.zret (v := 0) hx hb hr (by decide) (fun t ht hW => ⟨_, rfl, rfl, ht⟩) (fun q h => by cases h) dX2_hasKind_17
  · refine lv_iload_n hx hb dX2_hasKind_4 rfl (lv_at hl 1 rfl) ?_
    refine lv_aload_n hx hb dX2_hasKind_5 rfl (lv_at hl 0 rfl) ?_
    refine va_get (D := D) (ci := 2) (v := .int 0) (C := RX2) (T := TX2) (N := 18) hx hb hg inGX2 hown hK hP 0 rfl rfl 0 (by decide) (hg _ q_1_64) (fun _ h9 => h9) hg0 dX2_hasKind_6 ?_
    refine lv_icmp_ge (tgt := 16) hx hb dX2_hasKind_9 (by decide) (fun c_2 => ?_) (fun c_2 => (by exfalso; simp only [Int32.lt_iff_toInt_lt, Int32.le_iff_toInt_le, ← Int32.toInt_inj] at c_1 c_2; have e0 : (0 : Int32).toInt = 0 := rfl; omega))
    refine lv_iconst (v := 0) hx hb dX2_hasKind_16 (by decide) ?_
    exact W.zret (v := 0) hx hb hr (by decide) (fun t ht hW => ⟨_, rfl, rfl, ht⟩) (fun q h => by cases h) dX2_hasKind_17

set_option maxHeartbeats 4000000 in
set_option maxRecDepth 100000 in
theorem c_X10_areSuch (l : Launch) (D : va_G) (y : Nat → ClassId) (sz : Nat) (x : Nat) (fx : List Value) (g : Nat) (fg : List Value) (p0 : Int32) (p1 : Int32) (p2 : Int32) (hx3 : fx[3]? = some (.ref g)) (hg0 : fg[0]? = some (.int 0)) (hg1 : fg[1]? = some (.int 0)) : Met l yX10_areSuch (px_w yX10_areSuch cX10_areSuch 4 (some .boolean)) ({ frames := 1, cells := 0, slots := 0, locals := 21 }) (va_Pc [.ref x, .int p0, .int p1, .int p2] (px_P D y sz [(x, .inr (10, fx)), (g, .inr (2, fg))])) (vp_Si (fun r : Int32 => r = 0)) 0 0 (fun _ => False) := by
  refine Met.ofW (cc := cX10_areSuch) (maxL := 4) (ret := (some .boolean)) (by decide) rfl ?_
  intro p e s m args below meth c s₁ B hml hv
  obtain ⟨rfl, hsz, hP, hK, hD0⟩ := hv
  have hx := B.exec
  have hb := B.bytes
  have hr := B.returns
  have hts := atoms_spec (ws := px_w yX10_areSuch cX10_areSuch 4 (some .boolean)) B.pre
  have hg : ∀ w ∈ gw, w.before [.ref x, .int p0, .int p1, .int p2].toArray s = true := fun w h => hts w (List.mem_cons_of_mem _ h)
  have hown : s.vm.findClass RX10 = some m.cls := findClass_of_methodNamed B.named
  have hlocks := B.notSynchronized
  subst hsz
  have hD := hD0
  have hP : va_P D vwCl [(x, .inr (10, fx)), (g, .inr (2, fg))] s.heap := hP
  have hl := lv_entry ([.ref x, .int p0, .int p1, .int p2]) (n := 4) (Nat.le_of_ble_eq_true rfl)
  rw [lg_entry_eq]
  generalize (lg_sl ([.ref x, .int p0, .int p1, .int p2]) ++ List.replicate (4 - (lg_sl ([.ref x, .int p0, .int p1, .int p2])).length) Slot.unset).toArray = ls at hl ⊢
  have hl : lv_has ls 4 [(0, .ref x), (1, .int p0), (2, .int p1), (3, .int p2)] := hl
  refine lv_aload_n hx hb dX10_areSuch_0 rfl (lv_at hl 0 rfl) ?_
  refine va_get (D := D) (ci := 10) (v := .ref g) (C := RX10) (T := TX10) (N := 20) hx hb hg inGX10 hown hK hP 0 rfl rfl 3 (by decide) (hg _ q_2_106) (fun _ h9 => h9) hx3 dX10_areSuch_1 ?_
  refine lv_iload_n hx hb dX10_areSuch_4 rfl (lv_at hl 1 rfl) ?_
  have hPc_1 := hP.sub (ws' := [(g, .inr (2, fg))]) [1] rfl
  have hDc_1 := hD.sub (ws' := [(g, .inr (2, fg))]) [1] (by decide) rfl
  refine vp_callSi (va_Run.run (va_runV (As := [.int p0]) (rest := []) ⟨hx, hb, hml, hown, hg⟩ (c_X2_hasPerson l D y s.heap.size g fg p0 hg1) (cwV 1 hg (px_gV q_3_115 q_3_116 q_3_117 q_1_2 q_3_118) rfl rfl rfl (by decide +kernel) ⟨Nat.le_of_ble_eq_true rfl, Nat.le_of_ble_eq_true rfl⟩) (px_preV hK hPc_1 hDc_1 (ci := 2) (q0 := 0) rfl rfl) rfl rfl hl.1 rfl (lv_room (Nat.le_of_ble_eq_true rfl)) dX10_areSuch_5 ⟨Nat.le_of_ble_eq_true rfl, Nat.le_of_ble_eq_true rfl⟩)) (fun r_1 hw_1 => ?_)
  obtain rfl : r_1 = 0 := hw_1
  refine lv_if_eq (tgt := 37) hx hb dX10_areSuch_8 (by decide) (fun _ => ?_) (fun c_2 => absurd c_2 (by decide))
  refine lv_iconst (v := 0) hx hb dX10_areSuch_37 (by decide) ?_
  exact W.zret (v := 0) hx hb hr (by decide) (fun t ht hW => ⟨_, rfl, rfl, ht⟩) (fun q h => by cases h) dX10_areSuch_38

set_option maxHeartbeats 4000000 in
set_option maxRecDepth 100000 in
theorem c_X10_why (l : Launch) (D : va_G) (y : Nat → ClassId) (sz : Nat) (x : Nat) (fx : List Value) (g : Nat) (fg : List Value) (p0 : Int32) (p1 : Int32) (p2 : Int32) (hx3 : fx[3]? = some (.ref g)) (hg0 : fg[0]? = some (.int 0)) (hg1 : fg[1]? = some (.int 0)) : Met l yX10_why (px_w yX10_why cX10_why 4 (some .int)) ({ frames := 2, cells := 0, slots := 0, locals := 44 }) (va_Pc [.ref x, .int p0, .int p1, .int p2] (px_P D y sz [(x, .inr (10, fx)), (g, .inr (2, fg))])) (vp_Si (fun r : Int32 => r = (-1))) 0 0 (fun _ => False) := by
  refine Met.ofW (cc := cX10_why) (maxL := 4) (ret := (some .int)) (by decide) rfl ?_
  intro p e s m args below meth c s₁ B hml hv
  obtain ⟨rfl, hsz, hP, hK, hD0⟩ := hv
  have hx := B.exec
  have hb := B.bytes
  have hr := B.returns
  have hts := atoms_spec (ws := px_w yX10_why cX10_why 4 (some .int)) B.pre
  have hg : ∀ w ∈ gw, w.before [.ref x, .int p0, .int p1, .int p2].toArray s = true := fun w h => hts w (List.mem_cons_of_mem _ h)
  have hown : s.vm.findClass RX10 = some m.cls := findClass_of_methodNamed B.named
  have hlocks := B.notSynchronized
  subst hsz
  have hD := hD0
  have hP : va_P D vwCl [(x, .inr (10, fx)), (g, .inr (2, fg))] s.heap := hP
  have hl := lv_entry ([.ref x, .int p0, .int p1, .int p2]) (n := 4) (Nat.le_of_ble_eq_true rfl)
  rw [lg_entry_eq]
  generalize (lg_sl ([.ref x, .int p0, .int p1, .int p2]) ++ List.replicate (4 - (lg_sl ([.ref x, .int p0, .int p1, .int p2])).length) Slot.unset).toArray = ls at hl ⊢
  have hl : lv_has ls 4 [(0, .ref x), (1, .int p0), (2, .int p1), (3, .int p2)] := hl
  refine lv_aload_n hx hb dX10_why_0 rfl (lv_at hl 0 rfl) ?_
  refine lv_iload_n hx hb dX10_why_1 rfl (lv_at hl 1 rfl) ?_
  refine lv_iload_n hx hb dX10_why_2 rfl (lv_at hl 2 rfl) ?_
  refine lv_iload_n hx hb dX10_why_3 rfl (lv_at hl 3 rfl) ?_
  have hPc_1 := hP.sub (ws' := [(x, .inr (10, fx)), (g, .inr (2, fg))]) [0, 1] rfl
  have hDc_1 := hD.sub (ws' := [(x, .inr (10, fx)), (g, .inr (2, fg))]) [0, 1] (by decide) rfl
  refine vp_callSi (va_Run.run (va_runV (As := [.int p0, .int p1, .int p2]) (rest := []) ⟨hx, hb, hml, hown, hg⟩ (c_X10_areSuch l D y s.heap.size x fx g fg p0 p1 p2 hx3 hg0 hg1) (cwV 3 hg (px_gV q_3_165 q_3_167 q_p_15 q_1_1 q_3_168) rfl rfl rfl (by decide +kernel) ⟨Nat.le_of_ble_eq_true rfl, Nat.le_of_ble_eq_true rfl⟩) (px_preV hK hPc_1 hDc_1 (ci := 10) (q0 := 0) rfl rfl) rfl rfl hl.1 rfl (lv_room (Nat.le_of_ble_eq_true rfl)) dX10_why_4 ⟨Nat.le_of_ble_eq_true rfl, Nat.le_of_ble_eq_true rfl⟩)) (fun r_1 hw_1 => ?_)
  obtain rfl : r_1 = 0 := hw_1
  refine lv_if_eq (tgt := 23) hx hb dX10_why_7 (by decide) (fun _ => ?_) (fun c_2 => absurd c_2 (by decide))
  refine lv_iconst (v := (-1)) hx hb dX10_why_23 (by decide) ?_
  exact W.iret (v := (-1)) hx hb hr (fun t ht hW => ⟨_, rfl, rfl, ht⟩) (fun q h => by cases h) dX10_why_24
