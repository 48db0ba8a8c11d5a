set_option maxHeartbeats 4000000 in
set_option maxRecDepth 100000 in
theorem c_X2_hasPerson (l : Launch) (D : va_G) (y : Nat → ClassId) (sz : Nat) (g : Nat) (fg : List Value) (p0 : Int32) (hg_1 : fg[1]? = some (.int 0)) : Met l yX2_hasPerson (px_w yX2_hasPerson cX2_hasPerson 2 (some .boolean)) ({ frames := 0, cells := 0, slots := 0, locals := 0 }) (va_Pc [.ref g, .int p0] (px_P D y sz [(g, .inr (2, fg))])) (vp_Si (fun r : Int32 => r = 0)) 0 0 (fun _ => False) := by
  refine Met.ofW (cc := cX2_hasPerson) (maxL := 2) (ret := (some .boolean)) (by decide) rfl ?_
  intro p e s m args below meth c s₁ B hml hv
  obtain ⟨rfl, hsz, hP, hK, hD0⟩ := hv
  have hx := B.exec
  have hb := B.bytes
  have hr := B.returns
  have hts := atoms_spec (ws := px_w yX2_hasPerson cX2_hasPerson 2 (some .boolean)) B.pre
  have hg : ∀ w ∈ gw, w.before [.ref g, .int p0].toArray s = true := fun w h => hts w (List.mem_cons_of_mem _ h)
  have hown : s.vm.findClass RX2 = some m.cls := findClass_of_methodNamed B.named
  have hlocks := B.notSynchronized
  subst hsz
  have hD := hD0
  have hP : va_P D vwCl [(g, .inr (2, fg))] s.heap := hP
  have hl := lv_entry ([.ref g, .int p0]) (n := 2) (Nat.le_of_ble_eq_true rfl)
  rw [lg_entry_eq]
  generalize (lg_sl ([.ref g, .int p0]) ++ List.replicate (2 - (lg_sl ([.ref g, .int p0])).length) Slot.unset).toArray = ls at hl ⊢
  have hl : lv_has ls 2 [(0, .ref g), (1, .int p0)] := hl
  refine lv_iload_n hx hb dX2_hasPerson_0 rfl (lv_at hl 1 rfl) ?_
  refine lv_if_lt (tgt := 16) hx hb dX2_hasPerson_1 (by decide) (fun c_1 => ?_) (fun c_1 => ?_)
  · refine lv_iconst (v := 0) hx hb dX2_hasPerson_16 (by decide) ?_
    exact W.zret (v := 0) hx hb hr (by decide) (fun t ht hW => ⟨_, rfl, rfl, ht⟩) (fun q h => by cases h) dX2_hasPerson_17
  · refine lv_iload_n hx hb dX2_hasPerson_4 rfl (lv_at hl 1 rfl) ?_
    refine lv_aload_n hx hb dX2_hasPerson_5 rfl (lv_at hl 0 rfl) ?_
    refine va_get (D := D) (ci := 2) (v := .int 0) (C := RX2) (T := TX2) (N := 18) hx hb hg inGX2 hown hK hP 0 rfl rfl 1 (by decide) (hg _ q_1_70) (fun _ h9 => h9) hg_1 dX2_hasPerson_6 ?_
    refine lv_icmp_ge (tgt := 16) hx hb dX2_hasPerson_9 (by decide) (fun c_2 => ?_) (fun c_2 => (by exfalso; simp only [Int32.lt_iff_toInt_lt, Int32.le_iff_toInt_le, ← Int32.toInt_inj] at c_1 c_2; have e0 : (0 : Int32).toInt = 0 := rfl; omega))
    refine lv_iconst (v := 0) hx hb dX2_hasPerson_16 (by decide) ?_
    exact W.zret (v := 0) hx hb hr (by decide) (fun t ht hW => ⟨_, rfl, rfl, ht⟩) (fun q h => by cases h) dX2_hasPerson_17

set_option maxHeartbeats 4000000 in
set_option maxRecDepth 100000 in
theorem c_X2_hasKind (l : Launch) (D : va_G) (y : Nat → ClassId) (sz : Nat) (g : Nat) (fg : List Value) (p0 : Int32) (hg_0 : fg[0]? = some (.int 0)) : Met l yX2_hasKind (px_w yX2_hasKind cX2_hasKind 2 (some .boolean)) ({ frames := 0, cells := 0, slots := 0, locals := 0 }) (va_Pc [.ref g, .int p0] (px_P D y sz [(g, .inr (2, fg))])) (vp_Si (fun r : Int32 => r = 0)) 0 0 (fun _ => False) := by
  refine Met.ofW (cc := cX2_hasKind) (maxL := 2) (ret := (some .boolean)) (by decide) rfl ?_
  intro p e s m args below meth c s₁ B hml hv
  obtain ⟨rfl, hsz, hP, hK, hD0⟩ := hv
  have hx := B.exec
  have hb := B.bytes
  have hr := B.returns
  have hts := atoms_spec (ws := px_w yX2_hasKind cX2_hasKind 2 (some .boolean)) B.pre
  have hg : ∀ w ∈ gw, w.before [.ref g, .int p0].toArray s = true := fun w h => hts w (List.mem_cons_of_mem _ h)
  have hown : s.vm.findClass RX2 = some m.cls := findClass_of_methodNamed B.named
  have hlocks := B.notSynchronized
  subst hsz
  have hD := hD0
  have hP : va_P D vwCl [(g, .inr (2, fg))] s.heap := hP
  have hl := lv_entry ([.ref g, .int p0]) (n := 2) (Nat.le_of_ble_eq_true rfl)
  rw [lg_entry_eq]
  generalize (lg_sl ([.ref g, .int p0]) ++ List.replicate (2 - (lg_sl ([.ref g, .int p0])).length) Slot.unset).toArray = ls at hl ⊢
  have hl : lv_has ls 2 [(0, .ref g), (1, .int p0)] := hl
  refine lv_iload_n hx hb dX2_hasKind_0 rfl (lv_at hl 1 rfl) ?_
  refine lv_if_lt (tgt := 16) hx hb dX2_hasKind_1 (by decide) (fun c_1 => ?_) (fun c_1 => ?_)
  · refine lv_iconst (v := 0) hx hb dX2_hasKind_16 (by decide) ?_
    exact W.zret (v := 0) hx hb hr (by decide) (fun t ht hW => ⟨_, rfl, rfl, ht⟩) (fun q h => by cases h) dX2_hasKind_17
  · refine lv_iload_n hx hb dX2_hasKind_4 rfl (lv_at hl 1 rfl) ?_
    refine lv_aload_n hx hb dX2_hasKind_5 rfl (lv_at hl 0 rfl) ?_
    refine va_get (D := D) (ci := 2) (v := .int 0) (C := RX2) (T := TX2) (N := 18) hx hb hg inGX2 hown hK hP 0 rfl rfl 0 (by decide) (hg _ q_1_64) (fun _ h9 => h9) hg_0 dX2_hasKind_6 ?_
    refine lv_icmp_ge (tgt := 16) hx hb dX2_hasKind_9 (by decide) (fun c_2 => ?_) (fun c_2 => (by exfalso; simp only [Int32.lt_iff_toInt_lt, Int32.le_iff_toInt_le, ← Int32.toInt_inj] at c_1 c_2; have e0 : (0 : Int32).toInt = 0 := rfl; omega))
    refine lv_iconst (v := 0) hx hb dX2_hasKind_16 (by decide) ?_
    exact W.zret (v := 0) hx hb hr (by decide) (fun t ht hW => ⟨_, rfl, rfl, ht⟩) (fun q h => by cases h) dX2_hasKind_17

set_option maxHeartbeats 4000000 in
set_option maxRecDepth 100000 in
theorem c_X10_areSuch (l : Launch) (D : va_G) (y : Nat → ClassId) (sz : Nat) (x : Nat) (fx : List Value) (g : Nat) (fg : List Value) (p0 : Int32) (p1 : Int32) (p2 : Int32) (hx_3 : fx[3]? = some (.ref g)) (hg_1 : fg[1]? = some (.int 0)) : Met l yX10_areSuch (px_w yX10_areSuch cX10_areSuch 4 (some .boolean)) ({ frames := 1, cells := 0, slots := 0, locals := 21 }) (va_Pc [.ref x, .int p0, .int p1, .int p2] (px_P D y sz [(x, .inr (10, fx)), (g, .inr (2, fg))])) (vp_Si (fun r : Int32 => r = 0)) 0 0 (fun _ => False) := by
  refine Met.ofW (cc := cX10_areSuch) (maxL := 4) (ret := (some .boolean)) (by decide) rfl ?_
  intro p e s m args below meth c s₁ B hml hv
  obtain ⟨rfl, hsz, hP, hK, hD0⟩ := hv
  have hx := B.exec
  have hb := B.bytes
  have hr := B.returns
  have hts := atoms_spec (ws := px_w yX10_areSuch cX10_areSuch 4 (some .boolean)) B.pre
  have hg : ∀ w ∈ gw, w.before [.ref x, .int p0, .int p1, .int p2].toArray s = true := fun w h => hts w (List.mem_cons_of_mem _ h)
  have hown : s.vm.findClass RX10 = some m.cls := findClass_of_methodNamed B.named
  have hlocks := B.notSynchronized
  subst hsz
  have hD := hD0
  have hP : va_P D vwCl [(x, .inr (10, fx)), (g, .inr (2, fg))] s.heap := hP
  have hl := lv_entry ([.ref x, .int p0, .int p1, .int p2]) (n := 4) (Nat.le_of_ble_eq_true rfl)
  rw [lg_entry_eq]
  generalize (lg_sl ([.ref x, .int p0, .int p1, .int p2]) ++ List.replicate (4 - (lg_sl ([.ref x, .int p0, .int p1, .int p2])).length) Slot.unset).toArray = ls at hl ⊢
  have hl : lv_has ls 4 [(0, .ref x), (1, .int p0), (2, .int p1), (3, .int p2)] := hl
  refine lv_aload_n hx hb dX10_areSuch_0 rfl (lv_at hl 0 rfl) ?_
  refine va_get (D := D) (ci := 10) (v := .ref g) (C := RX10) (T := TX10) (N := 20) hx hb hg inGX10 hown hK hP 0 rfl rfl 3 (by decide) (hg _ q_2_106) (fun _ h9 => h9) hx_3 dX10_areSuch_1 ?_
  refine lv_iload_n hx hb dX10_areSuch_4 rfl (lv_at hl 1 rfl) ?_
  have hPc_1 := hP.sub (ws' := [(g, .inr (2, fg))]) [1] rfl
  have hDc_1 := hD.sub (ws' := [(g, .inr (2, fg))]) [1] (by decide +kernel) rfl
  refine vp_callSi (va_Run.run (va_runV (As := [.int p0]) (rest := []) ⟨hx, hb, hml, hown, hg⟩ (c_X2_hasPerson l D y s.heap.size g fg p0 hg_1) (cwV 1 hg (px_gV q_3_115 q_3_116 q_3_117 q_1_2 q_3_118) rfl rfl rfl (by decide +kernel) ⟨Nat.le_of_ble_eq_true rfl, Nat.le_of_ble_eq_true rfl⟩) (px_preV hK hPc_1 hDc_1 (ci := 2) (q0 := 0) rfl rfl) rfl rfl hl.1 rfl (lv_room (Nat.le_of_ble_eq_true rfl)) dX10_areSuch_5 ⟨Nat.le_of_ble_eq_true rfl, Nat.le_of_ble_eq_true rfl⟩)) (fun r_1 hw_1 => ?_)
  obtain rfl : r_1 = 0 := hw_1
  refine lv_if_eq (tgt := 37) hx hb dX10_areSuch_8 (by decide) (fun _ => ?_) (fun c_2 => absurd c_2 (by decide))
  refine lv_iconst (v := 0) hx hb dX10_areSuch_37 (by decide) ?_
  exact W.zret (v := 0) hx hb hr (by decide) (fun t ht hW => ⟨_, rfl, rfl, ht⟩) (fun q h => by cases h) dX10_areSuch_38

set_option maxHeartbeats 4000000 in
set_option maxRecDepth 100000 in
theorem c_X10_why (l : Launch) (D : va_G) (y : Nat → ClassId) (sz : Nat) (x : Nat) (fx : List Value) (g : Nat) (fg : List Value) (p0 : Int32) (p1 : Int32) (p2 : Int32) (hx_3 : fx[3]? = some (.ref g)) (hg_1 : fg[1]? = some (.int 0)) : Met l yX10_why (px_w yX10_why cX10_why 4 (some .int)) ({ frames := 2, cells := 0, slots := 0, locals := 44 }) (va_Pc [.ref x, .int p0, .int p1, .int p2] (px_P D y sz [(x, .inr (10, fx)), (g, .inr (2, fg))])) (vp_Si (fun r : Int32 => r = (-1))) 0 0 (fun _ => False) := by
  refine Met.ofW (cc := cX10_why) (maxL := 4) (ret := (some .int)) (by decide) rfl ?_
  intro p e s m args below meth c s₁ B hml hv
  obtain ⟨rfl, hsz, hP, hK, hD0⟩ := hv
  have hx := B.exec
  have hb := B.bytes
  have hr := B.returns
  have hts := atoms_spec (ws := px_w yX10_why cX10_why 4 (some .int)) B.pre
  have hg : ∀ w ∈ gw, w.before [.ref x, .int p0, .int p1, .int p2].toArray s = true := fun w h => hts w (List.mem_cons_of_mem _ h)
  have hown : s.vm.findClass RX10 = some m.cls := findClass_of_methodNamed B.named
  have hlocks := B.notSynchronized
  subst hsz
  have hD := hD0
  have hP : va_P D vwCl [(x, .inr (10, fx)), (g, .inr (2, fg))] s.heap := hP
  have hl := lv_entry ([.ref x, .int p0, .int p1, .int p2]) (n := 4) (Nat.le_of_ble_eq_true rfl)
  rw [lg_entry_eq]
  generalize (lg_sl ([.ref x, .int p0, .int p1, .int p2]) ++ List.replicate (4 - (lg_sl ([.ref x, .int p0, .int p1, .int p2])).length) Slot.unset).toArray = ls at hl ⊢
  have hl : lv_has ls 4 [(0, .ref x), (1, .int p0), (2, .int p1), (3, .int p2)] := hl
  refine lv_aload_n hx hb dX10_why_0 rfl (lv_at hl 0 rfl) ?_
  refine lv_iload_n hx hb dX10_why_1 rfl (lv_at hl 1 rfl) ?_
  refine lv_iload_n hx hb dX10_why_2 rfl (lv_at hl 2 rfl) ?_
  refine lv_iload_n hx hb dX10_why_3 rfl (lv_at hl 3 rfl) ?_
  have hPc_1 := hP.sub (ws' := [(x, .inr (10, fx)), (g, .inr (2, fg))]) [0, 1] rfl
  have hDc_1 := hD.sub (ws' := [(x, .inr (10, fx)), (g, .inr (2, fg))]) [0, 1] (by decide +kernel) rfl
  refine vp_callSi (va_Run.run (va_runV (As := [.int p0, .int p1, .int p2]) (rest := []) ⟨hx, hb, hml, hown, hg⟩ (c_X10_areSuch l D y s.heap.size x fx g fg p0 p1 p2 hx_3 hg_1) (cwV 3 hg (px_gV q_3_165 q_3_167 q_p_15 q_1_1 q_3_168) rfl rfl rfl (by decide +kernel) ⟨Nat.le_of_ble_eq_true rfl, Nat.le_of_ble_eq_true rfl⟩) (px_preV hK hPc_1 hDc_1 (ci := 10) (q0 := 0) rfl rfl) rfl rfl hl.1 rfl (lv_room (Nat.le_of_ble_eq_true rfl)) dX10_why_4 ⟨Nat.le_of_ble_eq_true rfl, Nat.le_of_ble_eq_true rfl⟩)) (fun r_1 hw_1 => ?_)
  obtain rfl : r_1 = 0 := hw_1
  refine lv_if_eq (tgt := 23) hx hb dX10_why_7 (by decide) (fun _ => ?_) (fun c_2 => absurd c_2 (by decide))
  refine lv_iconst (v := (-1)) hx hb dX10_why_23 (by decide) ?_
  exact W.iret (v := (-1)) hx hb hr (fun t ht hW => ⟨_, rfl, rfl, ht⟩) (fun q h => by cases h) dX10_why_24

set_option maxHeartbeats 4000000 in
set_option maxRecDepth 100000 in
theorem c_X10_fault (l : Launch) (D : va_G) (y : Nat → ClassId) (sz : Nat) (x : Nat) (fx : List Value) (hx_2 : fx[2]? = some (.int 0)) : Met l yX10_fault (px_w yX10_fault cX10_fault 1 (some .int)) ({ frames := 0, cells := 0, slots := 0, locals := 0 }) (va_Pc [.ref x] (px_P D y sz [(x, .inr (10, fx))])) (vp_Si (fun r : Int32 => r = 0)) 0 0 (fun _ => False) := by
  refine Met.ofW (cc := cX10_fault) (maxL := 1) (ret := (some .int)) (by decide) rfl ?_
  intro p e s m args below meth c s₁ B hml hv
  obtain ⟨rfl, hsz, hP, hK, hD0⟩ := hv
  have hx := B.exec
  have hb := B.bytes
  have hr := B.returns
  have hts := atoms_spec (ws := px_w yX10_fault cX10_fault 1 (some .int)) B.pre
  have hg : ∀ w ∈ gw, w.before [.ref x].toArray s = true := fun w h => hts w (List.mem_cons_of_mem _ h)
  have hown : s.vm.findClass RX10 = some m.cls := findClass_of_methodNamed B.named
  have hlocks := B.notSynchronized
  subst hsz
  have hD := hD0
  have hP : va_P D vwCl [(x, .inr (10, fx))] s.heap := hP
  have hl := lv_entry ([.ref x]) (n := 1) (Nat.le_of_ble_eq_true rfl)
  rw [lg_entry_eq]
  generalize (lg_sl ([.ref x]) ++ List.replicate (1 - (lg_sl ([.ref x])).length) Slot.unset).toArray = ls at hl ⊢
  have hl : lv_has ls 1 [(0, .ref x)] := hl
  refine lv_aload_n hx hb dX10_fault_0 rfl (lv_at hl 0 rfl) ?_
  refine va_get (D := D) (ci := 10) (v := .int 0) (C := RX10) (T := TX10) (N := 20) hx hb hg inGX10 hown hK hP 0 rfl rfl 2 (by decide) (hg _ q_2_105) (fun _ h9 => h9) hx_2 dX10_fault_1 ?_
  exact W.iret (v := 0) hx hb hr (fun t ht hW => ⟨_, rfl, rfl, ht⟩) (fun q h => by cases h) dX10_fault_4

set_option maxHeartbeats 4000000 in
set_option maxRecDepth 100000 in
theorem c_X10_book (l : Launch) (D : va_G) (y : Nat → ClassId) (sz : Nat) (x : Nat) (fx : List Value) (g : Nat) (fg : List Value) (p0 : Int32) (hx_3 : fx[3]? = some (.ref g)) (hg_0 : fg[0]? = some (.int 0)) : Met l yX10_book (px_w yX10_book cX10_book 2 (some .int)) ({ frames := 1, cells := 0, slots := 0, locals := 21 }) (va_Pc [.ref x, .int p0] (px_P D y sz [(x, .inr (10, fx)), (g, .inr (2, fg))])) (vp_Si (fun r : Int32 => r = (-1))) 0 0 (fun _ => False) := by
  refine Met.ofW (cc := cX10_book) (maxL := 2) (ret := (some .int)) (by decide) rfl ?_
  intro p e s m args below meth c s₁ B hml hv
  obtain ⟨rfl, hsz, hP, hK, hD0⟩ := hv
  have hx := B.exec
  have hb := B.bytes
  have hr := B.returns
  have hts := atoms_spec (ws := px_w yX10_book cX10_book 2 (some .int)) B.pre
  have hg : ∀ w ∈ gw, w.before [.ref x, .int p0].toArray s = true := fun w h => hts w (List.mem_cons_of_mem _ h)
  have hown : s.vm.findClass RX10 = some m.cls := findClass_of_methodNamed B.named
  have hlocks := B.notSynchronized
  subst hsz
  have hD := hD0
  have hP : va_P D vwCl [(x, .inr (10, fx)), (g, .inr (2, fg))] s.heap := hP
  have hl := lv_entry ([.ref x, .int p0]) (n := 2) (Nat.le_of_ble_eq_true rfl)
  rw [lg_entry_eq]
  generalize (lg_sl ([.ref x, .int p0]) ++ List.replicate (2 - (lg_sl ([.ref x, .int p0])).length) Slot.unset).toArray = ls at hl ⊢
  have hl : lv_has ls 2 [(0, .ref x), (1, .int p0)] := hl
  refine lv_aload_n hx hb dX10_book_0 rfl (lv_at hl 0 rfl) ?_
  refine va_get (D := D) (ci := 10) (v := .ref g) (C := RX10) (T := TX10) (N := 20) hx hb hg inGX10 hown hK hP 0 rfl rfl 3 (by decide) (hg _ q_2_106) (fun _ h9 => h9) hx_3 dX10_book_1 ?_
  refine lv_iload_n hx hb dX10_book_4 rfl (lv_at hl 1 rfl) ?_
  have hPc_1 := hP.sub (ws' := [(g, .inr (2, fg))]) [1] rfl
  have hDc_1 := hD.sub (ws' := [(g, .inr (2, fg))]) [1] (by decide +kernel) rfl
  refine vp_callSi (va_Run.run (va_runV (As := [.int p0]) (rest := []) ⟨hx, hb, hml, hown, hg⟩ (c_X2_hasKind l D y s.heap.size g fg p0 hg_0) (cwV 1 hg (px_gV q_3_135 q_3_136 q_3_137 q_1_2 q_3_138) rfl rfl rfl (by decide +kernel) ⟨Nat.le_of_ble_eq_true rfl, Nat.le_of_ble_eq_true rfl⟩) (px_preV hK hPc_1 hDc_1 (ci := 2) (q0 := 0) rfl rfl) rfl rfl hl.1 rfl (lv_room (Nat.le_of_ble_eq_true rfl)) dX10_book_5 ⟨Nat.le_of_ble_eq_true rfl, Nat.le_of_ble_eq_true rfl⟩)) (fun r_1 hw_1 => ?_)
  obtain rfl : r_1 = 0 := hw_1
  refine lv_if_eq (tgt := 23) hx hb dX10_book_8 (by decide) (fun _ => ?_) (fun c_2 => absurd c_2 (by decide))
  refine lv_iconst (v := (-1)) hx hb dX10_book_23 (by decide) ?_
  exact W.iret (v := (-1)) hx hb hr (fun t ht hW => ⟨_, rfl, rfl, ht⟩) (fun q h => by cases h) dX10_book_24

set_option maxHeartbeats 4000000 in
set_option maxRecDepth 100000 in
theorem c_X2_heapSize (l : Launch) (D : va_G) (y : Nat → ClassId) (sz : Nat) (g : Nat) (fg : List Value) (hg_8 : fg[8]? = some (.int 0)) (hg_9 : fg[9]? = some (.int 0)) : Met l yX2_heapSize (px_w yX2_heapSize cX2_heapSize 1 (some .int)) ({ frames := 0, cells := 0, slots := 0, locals := 0 }) (va_Pc [.ref g] (px_P D y sz [(g, .inr (2, fg))])) (vp_Si (fun r : Int32 => r = 0)) 0 0 (fun _ => False) := by
  refine Met.ofW (cc := cX2_heapSize) (maxL := 1) (ret := (some .int)) (by decide) rfl ?_
  intro p e s m args below meth c s₁ B hml hv
  obtain ⟨rfl, hsz, hP, hK, hD0⟩ := hv
  have hx := B.exec
  have hb := B.bytes
  have hr := B.returns
  have hts := atoms_spec (ws := px_w yX2_heapSize cX2_heapSize 1 (some .int)) B.pre
  have hg : ∀ w ∈ gw, w.before [.ref g].toArray s = true := fun w h => hts w (List.mem_cons_of_mem _ h)
  have hown : s.vm.findClass RX2 = some m.cls := findClass_of_methodNamed B.named
  have hlocks := B.notSynchronized
  subst hsz
  have hD := hD0
  have hP : va_P D vwCl [(g, .inr (2, fg))] s.heap := hP
  have hl := lv_entry ([.ref g]) (n := 1) (Nat.le_of_ble_eq_true rfl)
  rw [lg_entry_eq]
  generalize (lg_sl ([.ref g]) ++ List.replicate (1 - (lg_sl ([.ref g])).length) Slot.unset).toArray = ls at hl ⊢
  have hl : lv_has ls 1 [(0, .ref g)] := hl
  refine lv_aload_n hx hb dX2_heapSize_0 rfl (lv_at hl 0 rfl) ?_
  refine va_get (D := D) (ci := 2) (v := .int 0) (C := RX2) (T := TX2) (N := 18) hx hb hg inGX2 hown hK hP 0 rfl rfl 9 (by decide) (hg _ q_1_92) (fun _ h9 => h9) hg_9 dX2_heapSize_1 ?_
  refine lv_aload_n hx hb dX2_heapSize_4 rfl (lv_at hl 0 rfl) ?_
  refine va_get (D := D) (ci := 2) (v := .int 0) (C := RX2) (T := TX2) (N := 18) hx hb hg inGX2 hown hK hP 0 rfl rfl 8 (by decide) (hg _ q_1_89) (fun _ h9 => h9) hg_8 dX2_heapSize_5 ?_
  refine lv_isub hx hb dX2_heapSize_8 ?_
  refine px_top (v := 0) (by decide) ?_
  exact W.iret (v := 0) hx hb hr (fun t ht hW => ⟨_, rfl, rfl, ht⟩) (fun q h => by cases h) dX2_heapSize_9

set_option maxHeartbeats 4000000 in
set_option maxRecDepth 100000 in
theorem c_X10_heap (l : Launch) (D : va_G) (y : Nat → ClassId) (sz : Nat) (x : Nat) (fx : List Value) (g : Nat) (fg : List Value) (p0 : Int32) (hx_3 : fx[3]? = some (.ref g)) (hg_8 : fg[8]? = some (.int 0)) (hg_9 : fg[9]? = some (.int 0)) : Met l yX10_heap (px_w yX10_heap cX10_heap 2 (some .int)) ({ frames := 1, cells := 0, slots := 0, locals := 20 }) (va_Pc [.ref x, .int p0] (px_P D y sz [(x, .inr (10, fx)), (g, .inr (2, fg))])) (vp_Si (fun r : Int32 => r = (-1))) 0 0 (fun _ => False) := by
  refine Met.ofW (cc := cX10_heap) (maxL := 2) (ret := (some .int)) (by decide) rfl ?_
  intro p e s m args below meth c s₁ B hml hv
  obtain ⟨rfl, hsz, hP, hK, hD0⟩ := hv
  have hx := B.exec
  have hb := B.bytes
  have hr := B.returns
  have hts := atoms_spec (ws := px_w yX10_heap cX10_heap 2 (some .int)) B.pre
  have hg : ∀ w ∈ gw, w.before [.ref x, .int p0].toArray s = true := fun w h => hts w (List.mem_cons_of_mem _ h)
  have hown : s.vm.findClass RX10 = some m.cls := findClass_of_methodNamed B.named
  have hlocks := B.notSynchronized
  subst hsz
  have hD := hD0
  have hP : va_P D vwCl [(x, .inr (10, fx)), (g, .inr (2, fg))] s.heap := hP
  have hl := lv_entry ([.ref x, .int p0]) (n := 2) (Nat.le_of_ble_eq_true rfl)
  rw [lg_entry_eq]
  generalize (lg_sl ([.ref x, .int p0]) ++ List.replicate (2 - (lg_sl ([.ref x, .int p0])).length) Slot.unset).toArray = ls at hl ⊢
  have hl : lv_has ls 2 [(0, .ref x), (1, .int p0)] := hl
  refine lv_iload_n hx hb dX10_heap_0 rfl (lv_at hl 1 rfl) ?_
  refine lv_if_lt (tgt := 35) hx hb dX10_heap_1 (by decide) (fun c_1 => ?_) (fun c_1 => ?_)
  · refine lv_iconst (v := (-1)) hx hb dX10_heap_35 (by decide) ?_
    exact W.iret (v := (-1)) hx hb hr (fun t ht hW => ⟨_, rfl, rfl, ht⟩) (fun q h => by cases h) dX10_heap_36
  · refine lv_iload_n hx hb dX10_heap_4 rfl (lv_at hl 1 rfl) ?_
    refine lv_aload_n hx hb dX10_heap_5 rfl (lv_at hl 0 rfl) ?_
    refine va_get (D := D) (ci := 10) (v := .ref g) (C := RX10) (T := TX10) (N := 20) hx hb hg inGX10 hown hK hP 0 rfl rfl 3 (by decide) (hg _ q_2_106) (fun _ h9 => h9) hx_3 dX10_heap_6 ?_
    have hPc_2 := hP.sub (ws' := [(g, .inr (2, fg))]) [1] rfl
    have hDc_2 := hD.sub (ws' := [(g, .inr (2, fg))]) [1] (by decide +kernel) rfl
    refine vp_callSi (va_Run.run (va_runV (As := []) (rest := [.int p0]) ⟨hx, hb, hml, hown, hg⟩ (c_X2_heapSize l D y s.heap.size g fg hg_8 hg_9) (cwV 0 hg (px_gV q_3_143 q_3_144 q_3_145 q_1_2 q_3_146) rfl rfl rfl (by decide +kernel) ⟨Nat.le_of_ble_eq_true rfl, Nat.le_of_ble_eq_true rfl⟩) (px_preV hK hPc_2 hDc_2 (ci := 2) (q0 := 0) rfl rfl) rfl rfl hl.1 rfl (lv_room (Nat.le_of_ble_eq_true rfl)) dX10_heap_9 ⟨Nat.le_of_ble_eq_true rfl, Nat.le_of_ble_eq_true rfl⟩)) (fun r_2 hw_2 => ?_)
    obtain rfl : r_2 = 0 := hw_2
    refine lv_icmp_ge (tgt := 35) hx hb dX10_heap_12 (by decide) (fun c_3 => ?_) (fun c_3 => (by exfalso; simp only [Int32.lt_iff_toInt_lt, Int32.le_iff_toInt_le, ← Int32.toInt_inj] at c_1 c_3; have e0 : (0 : Int32).toInt = 0 := rfl; omega))
    refine lv_iconst (v := (-1)) hx hb dX10_heap_35 (by decide) ?_
    exact W.iret (v := (-1)) hx hb hr (fun t ht hW => ⟨_, rfl, rfl, ht⟩) (fun q h => by cases h) dX10_heap_36

set_option maxHeartbeats 4000000 in
set_option maxRecDepth 100000 in
theorem c_X10_person (l : Launch) (D : va_G) (y : Nat → ClassId) (sz : Nat) (x : Nat) (fx : List Value) (g : Nat) (fg : List Value) (p0 : Int32) (p1 : Int32) (hx_3 : fx[3]? = some (.ref g)) (hg_1 : fg[1]? = some (.int 0)) : Met l yX10_person (px_w yX10_person cX10_person 3 (some .int)) ({ frames := 1, cells := 0, slots := 0, locals := 21 }) (va_Pc [.ref x, .int p0, .int p1] (px_P D y sz [(x, .inr (10, fx)), (g, .inr (2, fg))])) (vp_Si (fun r : Int32 => r = (-1))) 0 0 (fun _ => False) := by
  refine Met.ofW (cc := cX10_person) (maxL := 3) (ret := (some .int)) (by decide) rfl ?_
  intro p e s m args below meth c s₁ B hml hv
  obtain ⟨rfl, hsz, hP, hK, hD0⟩ := hv
  have hx := B.exec
  have hb := B.bytes
  have hr := B.returns
  have hts := atoms_spec (ws := px_w yX10_person cX10_person 3 (some .int)) B.pre
  have hg : ∀ w ∈ gw, w.before [.ref x, .int p0, .int p1].toArray s = true := fun w h => hts w (List.mem_cons_of_mem _ h)
  have hown : s.vm.findClass RX10 = some m.cls := findClass_of_methodNamed B.named
  have hlocks := B.notSynchronized
  subst hsz
  have hD := hD0
  have hP : va_P D vwCl [(x, .inr (10, fx)), (g, .inr (2, fg))] s.heap := hP
  have hl := lv_entry ([.ref x, .int p0, .int p1]) (n := 3) (Nat.le_of_ble_eq_true rfl)
  rw [lg_entry_eq]
  generalize (lg_sl ([.ref x, .int p0, .int p1]) ++ List.replicate (3 - (lg_sl ([.ref x, .int p0, .int p1])).length) Slot.unset).toArray = ls at hl ⊢
  have hl : lv_has ls 3 [(0, .ref x), (1, .int p0), (2, .int p1)] := hl
  refine lv_aload_n hx hb dX10_person_0 rfl (lv_at hl 0 rfl) ?_
  refine va_get (D := D) (ci := 10) (v := .ref g) (C := RX10) (T := TX10) (N := 20) hx hb hg inGX10 hown hK hP 0 rfl rfl 3 (by decide) (hg _ q_2_106) (fun _ h9 => h9) hx_3 dX10_person_1 ?_
  refine lv_iload_n hx hb dX10_person_4 rfl (lv_at hl 1 rfl) ?_
  have hPc_1 := hP.sub (ws' := [(g, .inr (2, fg))]) [1] rfl
  have hDc_1 := hD.sub (ws' := [(g, .inr (2, fg))]) [1] (by decide +kernel) rfl
  refine vp_callSi (va_Run.run (va_runV (As := [.int p0]) (rest := []) ⟨hx, hb, hml, hown, hg⟩ (c_X2_hasPerson l D y s.heap.size g fg p0 hg_1) (cwV 1 hg (px_gV q_3_115 q_3_116 q_3_117 q_1_2 q_3_118) rfl rfl rfl (by decide +kernel) ⟨Nat.le_of_ble_eq_true rfl, Nat.le_of_ble_eq_true rfl⟩) (px_preV hK hPc_1 hDc_1 (ci := 2) (q0 := 0) rfl rfl) rfl rfl hl.1 rfl (lv_room (Nat.le_of_ble_eq_true rfl)) dX10_person_5 ⟨Nat.le_of_ble_eq_true rfl, Nat.le_of_ble_eq_true rfl⟩)) (fun r_1 hw_1 => ?_)
  obtain rfl : r_1 = 0 := hw_1
  refine lv_if_ne (tgt := 13) hx hb dX10_person_8 (by decide) (fun c_2 => absurd c_2 (by decide)) (fun _ => ?_)
  refine lv_iconst (v := (-1)) hx hb dX10_person_11 (by decide) ?_
  exact W.iret (v := (-1)) hx hb hr (fun t ht hW => ⟨_, rfl, rfl, ht⟩) (fun q h => by cases h) dX10_person_12

set_option maxHeartbeats 4000000 in
set_option maxRecDepth 100000 in
theorem c_X10_ask (l : Launch) (D : va_G) (y : Nat → ClassId) (sz : Nat) (x : Nat) (fx : List Value) (g : Nat) (fg : List Value) (p0 : Int32) (p1 : Int32) (p2 : Int32) (p3 : Int32) (hx_3 : fx[3]? = some (.ref g)) (hg_1 : fg[1]? = some (.int 0)) : Met l yX10_ask (px_w yX10_ask cX10_ask 6 (some .int)) ({ frames := 2, cells := 0, slots := 0, locals := 44 }) (va_Pc [.ref x, .int p0, .int p1, .int p2, .int p3] (px_P D y sz [(x, .inr (10, fx)), (g, .inr (2, fg))])) (vp_Si (fun r : Int32 => r = (-1))) 0 0 (fun _ => False) := by
  refine Met.ofW (cc := cX10_ask) (maxL := 6) (ret := (some .int)) (by decide) rfl ?_
  intro p e s m args below meth c s₁ B hml hv
  obtain ⟨rfl, hsz, hP, hK, hD0⟩ := hv
  have hx := B.exec
  have hb := B.bytes
  have hr := B.returns
  have hts := atoms_spec (ws := px_w yX10_ask cX10_ask 6 (some .int)) B.pre
  have hg : ∀ w ∈ gw, w.before [.ref x, .int p0, .int p1, .int p2, .int p3].toArray s = true := fun w h => hts w (List.mem_cons_of_mem _ h)
  have hown : s.vm.findClass RX10 = some m.cls := findClass_of_methodNamed B.named
  have hlocks := B.notSynchronized
  subst hsz
  have hD := hD0
  have hP : va_P D vwCl [(x, .inr (10, fx)), (g, .inr (2, fg))] s.heap := hP
  have hl := lv_entry ([.ref x, .int p0, .int p1, .int p2, .int p3]) (n := 6) (Nat.le_of_ble_eq_true rfl)
  rw [lg_entry_eq]
  generalize (lg_sl ([.ref x, .int p0, .int p1, .int p2, .int p3]) ++ List.replicate (6 - (lg_sl ([.ref x, .int p0, .int p1, .int p2, .int p3])).length) Slot.unset).toArray = ls at hl ⊢
  have hl : lv_has ls 6 [(0, .ref x), (1, .int p0), (2, .int p1), (3, .int p2), (4, .int p3)] := hl
  refine lv_aload_n hx hb dX10_ask_0 rfl (lv_at hl 0 rfl) ?_
  refine lv_iload_n hx hb dX10_ask_1 rfl (lv_at hl 1 rfl) ?_
  refine lv_iload_n hx hb dX10_ask_2 rfl (lv_at hl 2 rfl) ?_
  refine lv_iload_n hx hb dX10_ask_3 rfl (lv_at hl 3 rfl) ?_
  have hPc_1 := hP.sub (ws' := [(x, .inr (10, fx)), (g, .inr (2, fg))]) [0, 1] rfl
  have hDc_1 := hD.sub (ws' := [(x, .inr (10, fx)), (g, .inr (2, fg))]) [0, 1] (by decide +kernel) rfl
  refine vp_callSi (va_Run.run (va_runV (As := [.int p0, .int p1, .int p2]) (rest := []) ⟨hx, hb, hml, hown, hg⟩ (c_X10_areSuch l D y s.heap.size x fx g fg p0 p1 p2 hx_3 hg_1) (cwV 3 hg (px_gV q_3_165 q_3_167 q_p_15 q_1_1 q_3_168) rfl rfl rfl (by decide +kernel) ⟨Nat.le_of_ble_eq_true rfl, Nat.le_of_ble_eq_true rfl⟩) (px_preV hK hPc_1 hDc_1 (ci := 10) (q0 := 0) rfl rfl) rfl rfl hl.1 rfl (lv_room (Nat.le_of_ble_eq_true rfl)) dX10_ask_4 ⟨Nat.le_of_ble_eq_true rfl, Nat.le_of_ble_eq_true rfl⟩)) (fun r_1 hw_1 => ?_)
  obtain rfl : r_1 = 0 := hw_1
  refine lv_if_eq (tgt := 21) hx hb dX10_ask_7 (by decide) (fun _ => ?_) (fun c_2 => absurd c_2 (by decide))
  refine lv_iconst (v := (-1)) hx hb dX10_ask_21 (by decide) ?_
  exact W.iret (v := (-1)) hx hb hr (fun t ht hW => ⟨_, rfl, rfl, ht⟩) (fun q h => by cases h) dX10_ask_22

set_option maxHeartbeats 4000000 in
set_option maxRecDepth 100000 in
theorem c_X10_known (l : Launch) (D : va_G) (y : Nat → ClassId) (sz : Nat) (x : Nat) (fx : List Value) (g : Nat) (fg : List Value) (p0 : Int32) (p1 : Int32) (hx_3 : fx[3]? = some (.ref g)) (hg_1 : fg[1]? = some (.int 0)) : Met l yX10_known (px_w yX10_known cX10_known 3 (some .int)) ({ frames := 1, cells := 0, slots := 0, locals := 21 }) (va_Pc [.ref x, .int p0, .int p1] (px_P D y sz [(x, .inr (10, fx)), (g, .inr (2, fg))])) (vp_Si (fun r : Int32 => r = (-1))) 0 0 (fun _ => False) := by
  refine Met.ofW (cc := cX10_known) (maxL := 3) (ret := (some .int)) (by decide) rfl ?_
  intro p e s m args below meth c s₁ B hml hv
  obtain ⟨rfl, hsz, hP, hK, hD0⟩ := hv
  have hx := B.exec
  have hb := B.bytes
  have hr := B.returns
  have hts := atoms_spec (ws := px_w yX10_known cX10_known 3 (some .int)) B.pre
  have hg : ∀ w ∈ gw, w.before [.ref x, .int p0, .int p1].toArray s = true := fun w h => hts w (List.mem_cons_of_mem _ h)
  have hown : s.vm.findClass RX10 = some m.cls := findClass_of_methodNamed B.named
  have hlocks := B.notSynchronized
  subst hsz
  have hD := hD0
  have hP : va_P D vwCl [(x, .inr (10, fx)), (g, .inr (2, fg))] s.heap := hP
  have hl := lv_entry ([.ref x, .int p0, .int p1]) (n := 3) (Nat.le_of_ble_eq_true rfl)
  rw [lg_entry_eq]
  generalize (lg_sl ([.ref x, .int p0, .int p1]) ++ List.replicate (3 - (lg_sl ([.ref x, .int p0, .int p1])).length) Slot.unset).toArray = ls at hl ⊢
  have hl : lv_has ls 3 [(0, .ref x), (1, .int p0), (2, .int p1)] := hl
  refine lv_aload_n hx hb dX10_known_0 rfl (lv_at hl 0 rfl) ?_
  refine va_get (D := D) (ci := 10) (v := .ref g) (C := RX10) (T := TX10) (N := 20) hx hb hg inGX10 hown hK hP 0 rfl rfl 3 (by decide) (hg _ q_2_106) (fun _ h9 => h9) hx_3 dX10_known_1 ?_
  refine lv_iload_n hx hb dX10_known_4 rfl (lv_at hl 1 rfl) ?_
  have hPc_1 := hP.sub (ws' := [(g, .inr (2, fg))]) [1] rfl
  have hDc_1 := hD.sub (ws' := [(g, .inr (2, fg))]) [1] (by decide +kernel) rfl
  refine vp_callSi (va_Run.run (va_runV (As := [.int p0]) (rest := []) ⟨hx, hb, hml, hown, hg⟩ (c_X2_hasPerson l D y s.heap.size g fg p0 hg_1) (cwV 1 hg (px_gV q_3_115 q_3_116 q_3_117 q_1_2 q_3_118) rfl rfl rfl (by decide +kernel) ⟨Nat.le_of_ble_eq_true rfl, Nat.le_of_ble_eq_true rfl⟩) (px_preV hK hPc_1 hDc_1 (ci := 2) (q0 := 0) rfl rfl) rfl rfl hl.1 rfl (lv_room (Nat.le_of_ble_eq_true rfl)) dX10_known_5 ⟨Nat.le_of_ble_eq_true rfl, Nat.le_of_ble_eq_true rfl⟩)) (fun r_1 hw_1 => ?_)
  obtain rfl : r_1 = 0 := hw_1
  refine lv_if_eq (tgt := 37) hx hb dX10_known_8 (by decide) (fun _ => ?_) (fun c_2 => absurd c_2 (by decide))
  refine lv_iconst (v := (-1)) hx hb dX10_known_37 (by decide) ?_
  exact W.iret (v := (-1)) hx hb hr (fun t ht hW => ⟨_, rfl, rfl, ht⟩) (fun q h => by cases h) dX10_known_38

set_option maxHeartbeats 4000000 in
set_option maxRecDepth 100000 in
theorem c_X10_can (l : Launch) (D : va_G) (y : Nat → ClassId) (sz : Nat) (x : Nat) (fx : List Value) (g : Nat) (fg : List Value) (p0 : Int32) (p1 : Int32) (hx_3 : fx[3]? = some (.ref g)) (hg_1 : fg[1]? = some (.int 0)) : Met l yX10_can (px_w yX10_can cX10_can 3 (some .int)) ({ frames := 1, cells := 0, slots := 0, locals := 21 }) (va_Pc [.ref x, .int p0, .int p1] (px_P D y sz [(x, .inr (10, fx)), (g, .inr (2, fg))])) (vp_Si (fun r : Int32 => r = (-1))) 0 0 (fun _ => False) := by
  refine Met.ofW (cc := cX10_can) (maxL := 3) (ret := (some .int)) (by decide) rfl ?_
  intro p e s m args below meth c s₁ B hml hv
  obtain ⟨rfl, hsz, hP, hK, hD0⟩ := hv
  have hx := B.exec
  have hb := B.bytes
  have hr := B.returns
  have hts := atoms_spec (ws := px_w yX10_can cX10_can 3 (some .int)) B.pre
  have hg : ∀ w ∈ gw, w.before [.ref x, .int p0, .int p1].toArray s = true := fun w h => hts w (List.mem_cons_of_mem _ h)
  have hown : s.vm.findClass RX10 = some m.cls := findClass_of_methodNamed B.named
  have hlocks := B.notSynchronized
  subst hsz
  have hD := hD0
  have hP : va_P D vwCl [(x, .inr (10, fx)), (g, .inr (2, fg))] s.heap := hP
  have hl := lv_entry ([.ref x, .int p0, .int p1]) (n := 3) (Nat.le_of_ble_eq_true rfl)
  rw [lg_entry_eq]
  generalize (lg_sl ([.ref x, .int p0, .int p1]) ++ List.replicate (3 - (lg_sl ([.ref x, .int p0, .int p1])).length) Slot.unset).toArray = ls at hl ⊢
  have hl : lv_has ls 3 [(0, .ref x), (1, .int p0), (2, .int p1)] := hl
  refine lv_aload_n hx hb dX10_can_0 rfl (lv_at hl 0 rfl) ?_
  refine va_get (D := D) (ci := 10) (v := .ref g) (C := RX10) (T := TX10) (N := 20) hx hb hg inGX10 hown hK hP 0 rfl rfl 3 (by decide) (hg _ q_2_106) (fun _ h9 => h9) hx_3 dX10_can_1 ?_
  refine lv_iload_n hx hb dX10_can_4 rfl (lv_at hl 1 rfl) ?_
  have hPc_1 := hP.sub (ws' := [(g, .inr (2, fg))]) [1] rfl
  have hDc_1 := hD.sub (ws' := [(g, .inr (2, fg))]) [1] (by decide +kernel) rfl
  refine vp_callSi (va_Run.run (va_runV (As := [.int p0]) (rest := []) ⟨hx, hb, hml, hown, hg⟩ (c_X2_hasPerson l D y s.heap.size g fg p0 hg_1) (cwV 1 hg (px_gV q_3_115 q_3_116 q_3_117 q_1_2 q_3_118) rfl rfl rfl (by decide +kernel) ⟨Nat.le_of_ble_eq_true rfl, Nat.le_of_ble_eq_true rfl⟩) (px_preV hK hPc_1 hDc_1 (ci := 2) (q0 := 0) rfl rfl) rfl rfl hl.1 rfl (lv_room (Nat.le_of_ble_eq_true rfl)) dX10_can_5 ⟨Nat.le_of_ble_eq_true rfl, Nat.le_of_ble_eq_true rfl⟩)) (fun r_1 hw_1 => ?_)
  obtain rfl : r_1 = 0 := hw_1
  refine lv_if_eq (tgt := 37) hx hb dX10_can_8 (by decide) (fun _ => ?_) (fun c_2 => absurd c_2 (by decide))
  refine lv_iconst (v := (-1)) hx hb dX10_can_37 (by decide) ?_
  exact W.iret (v := (-1)) hx hb hr (fun t ht hW => ⟨_, rfl, rfl, ht⟩) (fun q h => by cases h) dX10_can_38

set_option maxHeartbeats 4000000 in
set_option maxRecDepth 100000 in
theorem c_X10_whom (l : Launch) (D : va_G) (y : Nat → ClassId) (sz : Nat) (x : Nat) (fx : List Value) (g : Nat) (fg : List Value) (p0 : Int32) (hx_3 : fx[3]? = some (.ref g)) (hg_1 : fg[1]? = some (.int 0)) : Met l yX10_whom (px_w yX10_whom cX10_whom 3 (some .int)) ({ frames := 1, cells := 0, slots := 0, locals := 21 }) (va_Pc [.ref x, .int p0] (px_P D y sz [(x, .inr (10, fx)), (g, .inr (2, fg))])) (vp_Si (fun r : Int32 => r = (-1))) 0 0 (fun _ => False) := by
  refine Met.ofW (cc := cX10_whom) (maxL := 3) (ret := (some .int)) (by decide) rfl ?_
  intro p e s m args below meth c s₁ B hml hv
  obtain ⟨rfl, hsz, hP, hK, hD0⟩ := hv
  have hx := B.exec
  have hb := B.bytes
  have hr := B.returns
  have hts := atoms_spec (ws := px_w yX10_whom cX10_whom 3 (some .int)) B.pre
  have hg : ∀ w ∈ gw, w.before [.ref x, .int p0].toArray s = true := fun w h => hts w (List.mem_cons_of_mem _ h)
  have hown : s.vm.findClass RX10 = some m.cls := findClass_of_methodNamed B.named
  have hlocks := B.notSynchronized
  subst hsz
  have hD := hD0
  have hP : va_P D vwCl [(x, .inr (10, fx)), (g, .inr (2, fg))] s.heap := hP
  have hl := lv_entry ([.ref x, .int p0]) (n := 3) (Nat.le_of_ble_eq_true rfl)
  rw [lg_entry_eq]
  generalize (lg_sl ([.ref x, .int p0]) ++ List.replicate (3 - (lg_sl ([.ref x, .int p0])).length) Slot.unset).toArray = ls at hl ⊢
  have hl : lv_has ls 3 [(0, .ref x), (1, .int p0)] := hl
  refine lv_aload_n hx hb dX10_whom_0 rfl (lv_at hl 0 rfl) ?_
  refine va_get (D := D) (ci := 10) (v := .ref g) (C := RX10) (T := TX10) (N := 20) hx hb hg inGX10 hown hK hP 0 rfl rfl 3 (by decide) (hg _ q_2_106) (fun _ h9 => h9) hx_3 dX10_whom_1 ?_
  refine lv_iload_n hx hb dX10_whom_4 rfl (lv_at hl 1 rfl) ?_
  have hPc_1 := hP.sub (ws' := [(g, .inr (2, fg))]) [1] rfl
  have hDc_1 := hD.sub (ws' := [(g, .inr (2, fg))]) [1] (by decide +kernel) rfl
  refine vp_callSi (va_Run.run (va_runV (As := [.int p0]) (rest := []) ⟨hx, hb, hml, hown, hg⟩ (c_X2_hasPerson l D y s.heap.size g fg p0 hg_1) (cwV 1 hg (px_gV q_3_115 q_3_116 q_3_117 q_1_2 q_3_118) rfl rfl rfl (by decide +kernel) ⟨Nat.le_of_ble_eq_true rfl, Nat.le_of_ble_eq_true rfl⟩) (px_preV hK hPc_1 hDc_1 (ci := 2) (q0 := 0) rfl rfl) rfl rfl hl.1 rfl (lv_room (Nat.le_of_ble_eq_true rfl)) dX10_whom_5 ⟨Nat.le_of_ble_eq_true rfl, Nat.le_of_ble_eq_true rfl⟩)) (fun r_1 hw_1 => ?_)
  obtain rfl : r_1 = 0 := hw_1
  refine lv_if_eq (tgt := 34) hx hb dX10_whom_8 (by decide) (fun _ => ?_) (fun c_2 => absurd c_2 (by decide))
  refine lv_iconst (v := (-1)) hx hb dX10_whom_34 (by decide) ?_
  exact W.iret (v := (-1)) hx hb hr (fun t ht hW => ⟨_, rfl, rfl, ht⟩) (fun q h => by cases h) dX10_whom_35

set_option maxHeartbeats 4000000 in
set_option maxRecDepth 100000 in
theorem c_X10_sweep (l : Launch) (D : va_G) (y : Nat → ClassId) (sz : Nat) (x : Nat) (fx : List Value) (g : Nat) (fg : List Value) (p0 : Int32) (hx_3 : fx[3]? = some (.ref g)) (hg_1 : fg[1]? = some (.int 0)) : Met l yX10_sweep (px_w yX10_sweep cX10_sweep 3 (some .int)) ({ frames := 1, cells := 0, slots := 0, locals := 21 }) (va_Pc [.ref x, .int p0] (px_P D y sz [(x, .inr (10, fx)), (g, .inr (2, fg))])) (vp_Si (fun r : Int32 => r = (-1))) 0 0 (fun _ => False) := by
  refine Met.ofW (cc := cX10_sweep) (maxL := 3) (ret := (some .int)) (by decide) rfl ?_
  intro p e s m args below meth c s₁ B hml hv
  obtain ⟨rfl, hsz, hP, hK, hD0⟩ := hv
  have hx := B.exec
  have hb := B.bytes
  have hr := B.returns
  have hts := atoms_spec (ws := px_w yX10_sweep cX10_sweep 3 (some .int)) B.pre
  have hg : ∀ w ∈ gw, w.before [.ref x, .int p0].toArray s = true := fun w h => hts w (List.mem_cons_of_mem _ h)
  have hown : s.vm.findClass RX10 = some m.cls := findClass_of_methodNamed B.named
  have hlocks := B.notSynchronized
  subst hsz
  have hD := hD0
  have hP : va_P D vwCl [(x, .inr (10, fx)), (g, .inr (2, fg))] s.heap := hP
  have hl := lv_entry ([.ref x, .int p0]) (n := 3) (Nat.le_of_ble_eq_true rfl)
  rw [lg_entry_eq]
  generalize (lg_sl ([.ref x, .int p0]) ++ List.replicate (3 - (lg_sl ([.ref x, .int p0])).length) Slot.unset).toArray = ls at hl ⊢
  have hl : lv_has ls 3 [(0, .ref x), (1, .int p0)] := hl
  refine lv_aload_n hx hb dX10_sweep_0 rfl (lv_at hl 0 rfl) ?_
  refine va_get (D := D) (ci := 10) (v := .ref g) (C := RX10) (T := TX10) (N := 20) hx hb hg inGX10 hown hK hP 0 rfl rfl 3 (by decide) (hg _ q_2_106) (fun _ h9 => h9) hx_3 dX10_sweep_1 ?_
  refine lv_iload_n hx hb dX10_sweep_4 rfl (lv_at hl 1 rfl) ?_
  have hPc_1 := hP.sub (ws' := [(g, .inr (2, fg))]) [1] rfl
  have hDc_1 := hD.sub (ws' := [(g, .inr (2, fg))]) [1] (by decide +kernel) rfl
  refine vp_callSi (va_Run.run (va_runV (As := [.int p0]) (rest := []) ⟨hx, hb, hml, hown, hg⟩ (c_X2_hasPerson l D y s.heap.size g fg p0 hg_1) (cwV 1 hg (px_gV q_3_115 q_3_116 q_3_117 q_1_2 q_3_118) rfl rfl rfl (by decide +kernel) ⟨Nat.le_of_ble_eq_true rfl, Nat.le_of_ble_eq_true rfl⟩) (px_preV hK hPc_1 hDc_1 (ci := 2) (q0 := 0) rfl rfl) rfl rfl hl.1 rfl (lv_room (Nat.le_of_ble_eq_true rfl)) dX10_sweep_5 ⟨Nat.le_of_ble_eq_true rfl, Nat.le_of_ble_eq_true rfl⟩)) (fun r_1 hw_1 => ?_)
  obtain rfl : r_1 = 0 := hw_1
  refine lv_if_ne (tgt := 13) hx hb dX10_sweep_8 (by decide) (fun c_2 => absurd c_2 (by decide)) (fun _ => ?_)
  refine lv_iconst (v := (-1)) hx hb dX10_sweep_11 (by decide) ?_
  exact W.iret (v := (-1)) hx hb hr (fun t ht hW => ⟨_, rfl, rfl, ht⟩) (fun q h => by cases h) dX10_sweep_12

set_option maxHeartbeats 4000000 in
set_option maxRecDepth 100000 in
theorem c_X10_swept (l : Launch) (D : va_G) (y : Nat → ClassId) (sz : Nat) (x : Nat) (fx : List Value) (p0 : Int32) (hx_17 : fx[17]? = some (.int 0)) : Met l yX10_swept (px_w yX10_swept cX10_swept 2 (some .int)) ({ frames := 0, cells := 0, slots := 0, locals := 0 }) (va_Pc [.ref x, .int p0] (px_P D y sz [(x, .inr (10, fx))])) (vp_Si (fun r : Int32 => r = (-1))) 0 0 (fun _ => False) := by
  refine Met.ofW (cc := cX10_swept) (maxL := 2) (ret := (some .int)) (by decide) rfl ?_
  intro p e s m args below meth c s₁ B hml hv
  obtain ⟨rfl, hsz, hP, hK, hD0⟩ := hv
  have hx := B.exec
  have hb := B.bytes
  have hr := B.returns
  have hts := atoms_spec (ws := px_w yX10_swept cX10_swept 2 (some .int)) B.pre
  have hg : ∀ w ∈ gw, w.before [.ref x, .int p0].toArray s = true := fun w h => hts w (List.mem_cons_of_mem _ h)
  have hown : s.vm.findClass RX10 = some m.cls := findClass_of_methodNamed B.named
  have hlocks := B.notSynchronized
  subst hsz
  have hD := hD0
  have hP : va_P D vwCl [(x, .inr (10, fx))] s.heap := hP
  have hl := lv_entry ([.ref x, .int p0]) (n := 2) (Nat.le_of_ble_eq_true rfl)
  rw [lg_entry_eq]
  generalize (lg_sl ([.ref x, .int p0]) ++ List.replicate (2 - (lg_sl ([.ref x, .int p0])).length) Slot.unset).toArray = ls at hl ⊢
  have hl : lv_has ls 2 [(0, .ref x), (1, .int p0)] := hl
  refine lv_iload_n hx hb dX10_swept_0 rfl (lv_at hl 1 rfl) ?_
  refine lv_if_lt (tgt := 21) hx hb dX10_swept_1 (by decide) (fun c_1 => ?_) (fun c_1 => ?_)
  · refine lv_iconst (v := (-1)) hx hb dX10_swept_21 (by decide) ?_
    exact W.iret (v := (-1)) hx hb hr (fun t ht hW => ⟨_, rfl, rfl, ht⟩) (fun q h => by cases h) dX10_swept_22
  · refine lv_iload_n hx hb dX10_swept_4 rfl (lv_at hl 1 rfl) ?_
    refine lv_aload_n hx hb dX10_swept_5 rfl (lv_at hl 0 rfl) ?_
    refine va_get (D := D) (ci := 10) (v := .int 0) (C := RX10) (T := TX10) (N := 20) hx hb hg inGX10 hown hK hP 0 rfl rfl 17 (by decide) (hg _ q_2_120) (fun _ h9 => h9) hx_17 dX10_swept_6 ?_
    refine lv_icmp_ge (tgt := 21) hx hb dX10_swept_9 (by decide) (fun c_2 => ?_) (fun c_2 => (by exfalso; simp only [Int32.lt_iff_toInt_lt, Int32.le_iff_toInt_le, ← Int32.toInt_inj] at c_1 c_2; have e0 : (0 : Int32).toInt = 0 := rfl; omega))
    refine lv_iconst (v := (-1)) hx hb dX10_swept_21 (by decide) ?_
    exact W.iret (v := (-1)) hx hb hr (fun t ht hW => ⟨_, rfl, rfl, ht⟩) (fun q h => by cases h) dX10_swept_22

set_option maxHeartbeats 4000000 in
set_option maxRecDepth 100000 in
theorem c_X10_gains (l : Launch) (D : va_G) (y : Nat → ClassId) (sz : Nat) (x : Nat) (fx : List Value) (g : Nat) (fg : List Value) (p0 : Int32) (hx_3 : fx[3]? = some (.ref g)) (hg_1 : fg[1]? = some (.int 0)) : Met l yX10_gains (px_w yX10_gains cX10_gains 4 (some .int)) ({ frames := 1, cells := 0, slots := 0, locals := 21 }) (va_Pc [.ref x, .int p0] (px_P D y sz [(x, .inr (10, fx)), (g, .inr (2, fg))])) (vp_Si (fun r : Int32 => r = (-1))) 0 0 (fun _ => False) := by
  refine Met.ofW (cc := cX10_gains) (maxL := 4) (ret := (some .int)) (by decide) rfl ?_
  intro p e s m args below meth c s₁ B hml hv
  obtain ⟨rfl, hsz, hP, hK, hD0⟩ := hv
  have hx := B.exec
  have hb := B.bytes
  have hr := B.returns
  have hts := atoms_spec (ws := px_w yX10_gains cX10_gains 4 (some .int)) B.pre
  have hg : ∀ w ∈ gw, w.before [.ref x, .int p0].toArray s = true := fun w h => hts w (List.mem_cons_of_mem _ h)
  have hown : s.vm.findClass RX10 = some m.cls := findClass_of_methodNamed B.named
  have hlocks := B.notSynchronized
  subst hsz
  have hD := hD0
  have hP : va_P D vwCl [(x, .inr (10, fx)), (g, .inr (2, fg))] s.heap := hP
  have hl := lv_entry ([.ref x, .int p0]) (n := 4) (Nat.le_of_ble_eq_true rfl)
  rw [lg_entry_eq]
  generalize (lg_sl ([.ref x, .int p0]) ++ List.replicate (4 - (lg_sl ([.ref x, .int p0])).length) Slot.unset).toArray = ls at hl ⊢
  have hl : lv_has ls 4 [(0, .ref x), (1, .int p0)] := hl
  refine lv_aload_n hx hb dX10_gains_0 rfl (lv_at hl 0 rfl) ?_
  refine va_get (D := D) (ci := 10) (v := .ref g) (C := RX10) (T := TX10) (N := 20) hx hb hg inGX10 hown hK hP 0 rfl rfl 3 (by decide) (hg _ q_2_106) (fun _ h9 => h9) hx_3 dX10_gains_1 ?_
  refine lv_iload_n hx hb dX10_gains_4 rfl (lv_at hl 1 rfl) ?_
  have hPc_1 := hP.sub (ws' := [(g, .inr (2, fg))]) [1] rfl
  have hDc_1 := hD.sub (ws' := [(g, .inr (2, fg))]) [1] (by decide +kernel) rfl
  refine vp_callSi (va_Run.run (va_runV (As := [.int p0]) (rest := []) ⟨hx, hb, hml, hown, hg⟩ (c_X2_hasPerson l D y s.heap.size g fg p0 hg_1) (cwV 1 hg (px_gV q_3_115 q_3_116 q_3_117 q_1_2 q_3_118) rfl rfl rfl (by decide +kernel) ⟨Nat.le_of_ble_eq_true rfl, Nat.le_of_ble_eq_true rfl⟩) (px_preV hK hPc_1 hDc_1 (ci := 2) (q0 := 0) rfl rfl) rfl rfl hl.1 rfl (lv_room (Nat.le_of_ble_eq_true rfl)) dX10_gains_5 ⟨Nat.le_of_ble_eq_true rfl, Nat.le_of_ble_eq_true rfl⟩)) (fun r_1 hw_1 => ?_)
  obtain rfl : r_1 = 0 := hw_1
  refine lv_if_ne (tgt := 13) hx hb dX10_gains_8 (by decide) (fun c_2 => absurd c_2 (by decide)) (fun _ => ?_)
  refine lv_iconst (v := (-1)) hx hb dX10_gains_11 (by decide) ?_
  exact W.iret (v := (-1)) hx hb hr (fun t ht hW => ⟨_, rfl, rfl, ht⟩) (fun q h => by cases h) dX10_gains_12

set_option maxHeartbeats 4000000 in
set_option maxRecDepth 100000 in
theorem c_X10_isOpen (l : Launch) (D : va_G) (y : Nat → ClassId) (sz : Nat) (x : Nat) (fx : List Value) (g : Nat) (fg : List Value) (hx_3 : fx[3]? = some (.ref g)) (hg_1 : fg[1]? = some (.int 0)) : Met l yX10_isOpen (px_w yX10_isOpen cX10_isOpen 1 (some .boolean)) ({ frames := 0, cells := 0, slots := 0, locals := 0 }) (va_Pc [.ref x] (px_P D y sz [(x, .inr (10, fx)), (g, .inr (2, fg))])) (vp_Si (fun r : Int32 => r = 0)) 0 0 (fun _ => False) := by
  refine Met.ofW (cc := cX10_isOpen) (maxL := 1) (ret := (some .boolean)) (by decide) rfl ?_
  intro p e s m args below meth c s₁ B hml hv
  obtain ⟨rfl, hsz, hP, hK, hD0⟩ := hv
  have hx := B.exec
  have hb := B.bytes
  have hr := B.returns
  have hts := atoms_spec (ws := px_w yX10_isOpen cX10_isOpen 1 (some .boolean)) B.pre
  have hg : ∀ w ∈ gw, w.before [.ref x].toArray s = true := fun w h => hts w (List.mem_cons_of_mem _ h)
  have hown : s.vm.findClass RX10 = some m.cls := findClass_of_methodNamed B.named
  have hlocks := B.notSynchronized
  subst hsz
  have hD := hD0
  have hP : va_P D vwCl [(x, .inr (10, fx)), (g, .inr (2, fg))] s.heap := hP
  have hl := lv_entry ([.ref x]) (n := 1) (Nat.le_of_ble_eq_true rfl)
  rw [lg_entry_eq]
  generalize (lg_sl ([.ref x]) ++ List.replicate (1 - (lg_sl ([.ref x])).length) Slot.unset).toArray = ls at hl ⊢
  have hl : lv_has ls 1 [(0, .ref x)] := hl
  refine lv_aload_n hx hb dX10_isOpen_0 rfl (lv_at hl 0 rfl) ?_
  refine va_get (D := D) (ci := 10) (v := .ref g) (C := RX10) (T := TX10) (N := 20) hx hb hg inGX10 hown hK hP 0 rfl rfl 3 (by decide) (hg _ q_2_106) (fun _ h9 => h9) hx_3 dX10_isOpen_1 ?_
  refine va_get (D := D) (ci := 2) (v := .int 0) (C := RX2) (T := TX2) (N := 18) hx hb hg inGX2 hown hK hP 1 rfl rfl 1 (by decide) (hg _ q_1_73) (fun _ h9 => h9) hg_1 dX10_isOpen_4 ?_
  refine lv_iconst (v := 2) hx hb dX10_isOpen_7 (by decide) ?_
  refine lv_icmp_ne (tgt := 54) hx hb dX10_isOpen_8 (by decide) (fun _ => ?_) (fun c_1 => absurd c_1 (by decide))
  refine lv_iconst (v := 0) hx hb dX10_isOpen_54 (by decide) ?_
  exact W.zret (v := 0) hx hb hr (by decide) (fun t ht hW => ⟨_, rfl, rfl, ht⟩) (fun q h => by cases h) dX10_isOpen_55

set_option maxHeartbeats 4000000 in
set_option maxRecDepth 100000 in
theorem c_X10_open (l : Launch) (D : va_G) (y : Nat → ClassId) (sz : Nat) (x : Nat) (fx : List Value) (g : Nat) (fg : List Value) (hx_3 : fx[3]? = some (.ref g)) (hg_1 : fg[1]? = some (.int 0)) : Met l yX10_open (px_w yX10_open cX10_open 1 (some .int)) ({ frames := 1, cells := 0, slots := 0, locals := 20 }) (va_Pc [.ref x] (px_P D y sz [(x, .inr (10, fx)), (g, .inr (2, fg))])) (vp_Si (fun r : Int32 => r = (-101))) 0 0 (fun _ => False) := by
  refine Met.ofW (cc := cX10_open) (maxL := 1) (ret := (some .int)) (by decide) rfl ?_
  intro p e s m args below meth c s₁ B hml hv
  obtain ⟨rfl, hsz, hP, hK, hD0⟩ := hv
  have hx := B.exec
  have hb := B.bytes
  have hr := B.returns
  have hts := atoms_spec (ws := px_w yX10_open cX10_open 1 (some .int)) B.pre
  have hg : ∀ w ∈ gw, w.before [.ref x].toArray s = true := fun w h => hts w (List.mem_cons_of_mem _ h)
  have hown : s.vm.findClass RX10 = some m.cls := findClass_of_methodNamed B.named
  have hlocks := B.notSynchronized
  subst hsz
  have hD := hD0
  have hP : va_P D vwCl [(x, .inr (10, fx)), (g, .inr (2, fg))] s.heap := hP
  have hl := lv_entry ([.ref x]) (n := 1) (Nat.le_of_ble_eq_true rfl)
  rw [lg_entry_eq]
  generalize (lg_sl ([.ref x]) ++ List.replicate (1 - (lg_sl ([.ref x])).length) Slot.unset).toArray = ls at hl ⊢
  have hl : lv_has ls 1 [(0, .ref x)] := hl
  refine lv_aload_n hx hb dX10_open_0 rfl (lv_at hl 0 rfl) ?_
  have hPc_1 := hP.sub (ws' := [(x, .inr (10, fx)), (g, .inr (2, fg))]) [0, 1] rfl
  have hDc_1 := hD.sub (ws' := [(x, .inr (10, fx)), (g, .inr (2, fg))]) [0, 1] (by decide +kernel) rfl
  refine vp_callSi (va_Run.run (va_runV (As := []) (rest := []) ⟨hx, hb, hml, hown, hg⟩ (c_X10_isOpen l D y s.heap.size x fx g fg hx_3 hg_1) (cwV 0 hg (px_gV q_4_133 q_4_135 q_p_27 q_1_1 q_4_136) rfl rfl rfl (by decide +kernel) ⟨Nat.le_of_ble_eq_true rfl, Nat.le_of_ble_eq_true rfl⟩) (px_preV hK hPc_1 hDc_1 (ci := 10) (q0 := 0) rfl rfl) rfl rfl hl.1 rfl (lv_room (Nat.le_of_ble_eq_true rfl)) dX10_open_1 ⟨Nat.le_of_ble_eq_true rfl, Nat.le_of_ble_eq_true rfl⟩)) (fun r_1 hw_1 => ?_)
  obtain rfl : r_1 = 0 := hw_1
  refine lv_if_eq (tgt := 21) hx hb dX10_open_4 (by decide) (fun _ => ?_) (fun c_2 => absurd c_2 (by decide))
  refine lv_bipush (v := (-101)) hx hb dX10_open_21 (by decide) ?_
  exact W.iret (v := (-101)) hx hb hr (fun t ht hW => ⟨_, rfl, rfl, ht⟩) (fun q h => by cases h) dX10_open_23

set_option maxHeartbeats 4000000 in
set_option maxRecDepth 100000 in
theorem c_X10_first (l : Launch) (D : va_G) (y : Nat → ClassId) (sz : Nat) (x : Nat) (fx : List Value) (g : Nat) (fg : List Value) (hx_3 : fx[3]? = some (.ref g)) (hg_1 : fg[1]? = some (.int 0)) : Met l yX10_first (px_w yX10_first cX10_first 1 (some .int)) ({ frames := 1, cells := 0, slots := 0, locals := 20 }) (va_Pc [.ref x] (px_P D y sz [(x, .inr (10, fx)), (g, .inr (2, fg))])) (vp_Si (fun r : Int32 => r = (-1))) 0 0 (fun _ => False) := by
  refine Met.ofW (cc := cX10_first) (maxL := 1) (ret := (some .int)) (by decide) rfl ?_
  intro p e s m args below meth c s₁ B hml hv
  obtain ⟨rfl, hsz, hP, hK, hD0⟩ := hv
  have hx := B.exec
  have hb := B.bytes
  have hr := B.returns
  have hts := atoms_spec (ws := px_w yX10_first cX10_first 1 (some .int)) B.pre
  have hg : ∀ w ∈ gw, w.before [.ref x].toArray s = true := fun w h => hts w (List.mem_cons_of_mem _ h)
  have hown : s.vm.findClass RX10 = some m.cls := findClass_of_methodNamed B.named
  have hlocks := B.notSynchronized
  subst hsz
  have hD := hD0
  have hP : va_P D vwCl [(x, .inr (10, fx)), (g, .inr (2, fg))] s.heap := hP
  have hl := lv_entry ([.ref x]) (n := 1) (Nat.le_of_ble_eq_true rfl)
  rw [lg_entry_eq]
  generalize (lg_sl ([.ref x]) ++ List.replicate (1 - (lg_sl ([.ref x])).length) Slot.unset).toArray = ls at hl ⊢
  have hl : lv_has ls 1 [(0, .ref x)] := hl
  refine lv_aload_n hx hb dX10_first_0 rfl (lv_at hl 0 rfl) ?_
  have hPc_1 := hP.sub (ws' := [(x, .inr (10, fx)), (g, .inr (2, fg))]) [0, 1] rfl
  have hDc_1 := hD.sub (ws' := [(x, .inr (10, fx)), (g, .inr (2, fg))]) [0, 1] (by decide +kernel) rfl
  refine vp_callSi (va_Run.run (va_runV (As := []) (rest := []) ⟨hx, hb, hml, hown, hg⟩ (c_X10_isOpen l D y s.heap.size x fx g fg hx_3 hg_1) (cwV 0 hg (px_gV q_4_133 q_4_135 q_p_27 q_1_1 q_4_136) rfl rfl rfl (by decide +kernel) ⟨Nat.le_of_ble_eq_true rfl, Nat.le_of_ble_eq_true rfl⟩) (px_preV hK hPc_1 hDc_1 (ci := 10) (q0 := 0) rfl rfl) rfl rfl hl.1 rfl (lv_room (Nat.le_of_ble_eq_true rfl)) dX10_first_1 ⟨Nat.le_of_ble_eq_true rfl, Nat.le_of_ble_eq_true rfl⟩)) (fun r_1 hw_1 => ?_)
  obtain rfl : r_1 = 0 := hw_1
  refine lv_if_eq (tgt := 21) hx hb dX10_first_4 (by decide) (fun _ => ?_) (fun c_2 => absurd c_2 (by decide))
  refine lv_iconst (v := (-1)) hx hb dX10_first_21 (by decide) ?_
  exact W.iret (v := (-1)) hx hb hr (fun t ht hW => ⟨_, rfl, rfl, ht⟩) (fun q h => by cases h) dX10_first_22

set_option maxHeartbeats 4000000 in
set_option maxRecDepth 100000 in
theorem c_X10_isRule (l : Launch) (D : va_G) (y : Nat → ClassId) (sz : Nat) (x : Nat) (fx : List Value) (p0 : Int32)  : Met l yX10_isRule (px_w yX10_isRule cX10_isRule 2 (some .boolean)) ({ frames := 0, cells := 0, slots := 0, locals := 0 }) (va_Pc [.ref x, .int p0] (px_P D y sz [(x, .inr (10, fx))])) (vp_Si (fun r : Int32 => True)) 0 0 (fun _ => False) := by
  refine Met.ofW (cc := cX10_isRule) (maxL := 2) (ret := (some .boolean)) (by decide) rfl ?_
  intro p e s m args below meth c s₁ B hml hv
  obtain ⟨rfl, hsz, hP, hK, hD0⟩ := hv
  have hx := B.exec
  have hb := B.bytes
  have hr := B.returns
  have hts := atoms_spec (ws := px_w yX10_isRule cX10_isRule 2 (some .boolean)) B.pre
  have hg : ∀ w ∈ gw, w.before [.ref x, .int p0].toArray s = true := fun w h => hts w (List.mem_cons_of_mem _ h)
  have hown : s.vm.findClass RX10 = some m.cls := findClass_of_methodNamed B.named
  have hlocks := B.notSynchronized
  subst hsz
  have hD := hD0
  have hP : va_P D vwCl [(x, .inr (10, fx))] s.heap := hP
  have hl := lv_entry ([.ref x, .int p0]) (n := 2) (Nat.le_of_ble_eq_true rfl)
  rw [lg_entry_eq]
  generalize (lg_sl ([.ref x, .int p0]) ++ List.replicate (2 - (lg_sl ([.ref x, .int p0])).length) Slot.unset).toArray = ls at hl ⊢
  have hl : lv_has ls 2 [(0, .ref x), (1, .int p0)] := hl
  refine lv_iload_n hx hb dX10_isRule_0 rfl (lv_at hl 1 rfl) ?_
  refine lv_if_lt (tgt := 13) hx hb dX10_isRule_1 (by decide) (fun c_1 => ?_) (fun c_1 => ?_)
  · refine lv_iconst (v := 0) hx hb dX10_isRule_13 (by decide) ?_
    exact W.zret (v := 0) hx hb hr (by decide) (fun t ht hW => ⟨_, rfl, trivial, ht⟩) (fun q h => by cases h) dX10_isRule_14
  · refine lv_iload_n hx hb dX10_isRule_4 rfl (lv_at hl 1 rfl) ?_
    refine lv_iconst (v := 4) hx hb dX10_isRule_5 (by decide) ?_
    refine lv_icmp_ge (tgt := 13) hx hb dX10_isRule_6 (by decide) (fun c_2 => ?_) (fun c_2 => ?_)
    · refine lv_iconst (v := 0) hx hb dX10_isRule_13 (by decide) ?_
      exact W.zret (v := 0) hx hb hr (by decide) (fun t ht hW => ⟨_, rfl, trivial, ht⟩) (fun q h => by cases h) dX10_isRule_14
    · refine lv_iconst (v := 1) hx hb dX10_isRule_9 (by decide) ?_
      refine lv_goto (tgt := 14) hx hb dX10_isRule_10 (by decide) ?_
      exact W.zret (v := 1) hx hb hr (by decide) (fun t ht hW => ⟨_, rfl, trivial, ht⟩) (fun q h => by cases h) dX10_isRule_14

set_option maxHeartbeats 4000000 in
set_option maxRecDepth 100000 in
theorem c_X10_bent (l : Launch) (D : va_G) (y : Nat → ClassId) (sz : Nat) (x : Nat) (fx : List Value) (g : Nat) (fg : List Value) (p0 : Int32) (p1 : Int32) (hx_3 : fx[3]? = some (.ref g)) (hg_1 : fg[1]? = some (.int 0)) : Met l yX10_bent (px_w yX10_bent cX10_bent 3 (some .int)) ({ frames := 1, cells := 0, slots := 0, locals := 21 }) (va_Pc [.ref x, .int p0, .int p1] (px_P D y sz [(x, .inr (10, fx)), (g, .inr (2, fg))])) (vp_Si (fun r : Int32 => r = (-1))) 0 0 (fun _ => False) := by
  refine Met.ofW (cc := cX10_bent) (maxL := 3) (ret := (some .int)) (by decide) rfl ?_
  intro p e s m args below meth c s₁ B hml hv
  obtain ⟨rfl, hsz, hP, hK, hD0⟩ := hv
  have hx := B.exec
  have hb := B.bytes
  have hr := B.returns
  have hts := atoms_spec (ws := px_w yX10_bent cX10_bent 3 (some .int)) B.pre
  have hg : ∀ w ∈ gw, w.before [.ref x, .int p0, .int p1].toArray s = true := fun w h => hts w (List.mem_cons_of_mem _ h)
  have hown : s.vm.findClass RX10 = some m.cls := findClass_of_methodNamed B.named
  have hlocks := B.notSynchronized
  subst hsz
  have hD := hD0
  have hP : va_P D vwCl [(x, .inr (10, fx)), (g, .inr (2, fg))] s.heap := hP
  have hl := lv_entry ([.ref x, .int p0, .int p1]) (n := 3) (Nat.le_of_ble_eq_true rfl)
  rw [lg_entry_eq]
  generalize (lg_sl ([.ref x, .int p0, .int p1]) ++ List.replicate (3 - (lg_sl ([.ref x, .int p0, .int p1])).length) Slot.unset).toArray = ls at hl ⊢
  have hl : lv_has ls 3 [(0, .ref x), (1, .int p0), (2, .int p1)] := hl
  refine lv_aload_n hx hb dX10_bent_0 rfl (lv_at hl 0 rfl) ?_
  refine va_get (D := D) (ci := 10) (v := .ref g) (C := RX10) (T := TX10) (N := 20) hx hb hg inGX10 hown hK hP 0 rfl rfl 3 (by decide) (hg _ q_2_106) (fun _ h9 => h9) hx_3 dX10_bent_1 ?_
  refine lv_iload_n hx hb dX10_bent_4 rfl (lv_at hl 1 rfl) ?_
  have hPc_1 := hP.sub (ws' := [(g, .inr (2, fg))]) [1] rfl
  have hDc_1 := hD.sub (ws' := [(g, .inr (2, fg))]) [1] (by decide +kernel) rfl
  refine vp_callSi (va_Run.run (va_runV (As := [.int p0]) (rest := []) ⟨hx, hb, hml, hown, hg⟩ (c_X2_hasPerson l D y s.heap.size g fg p0 hg_1) (cwV 1 hg (px_gV q_3_115 q_3_116 q_3_117 q_1_2 q_3_118) rfl rfl rfl (by decide +kernel) ⟨Nat.le_of_ble_eq_true rfl, Nat.le_of_ble_eq_true rfl⟩) (px_preV hK hPc_1 hDc_1 (ci := 2) (q0 := 0) rfl rfl) rfl rfl hl.1 rfl (lv_room (Nat.le_of_ble_eq_true rfl)) dX10_bent_5 ⟨Nat.le_of_ble_eq_true rfl, Nat.le_of_ble_eq_true rfl⟩)) (fun r_1 hw_1 => ?_)
  obtain rfl : r_1 = 0 := hw_1
  refine lv_if_eq (tgt := 31) hx hb dX10_bent_8 (by decide) (fun _ => ?_) (fun c_2 => absurd c_2 (by decide))
  refine lv_iconst (v := (-1)) hx hb dX10_bent_31 (by decide) ?_
  exact W.iret (v := (-1)) hx hb hr (fun t ht hW => ⟨_, rfl, rfl, ht⟩) (fun q h => by cases h) dX10_bent_32

set_option maxHeartbeats 4000000 in
set_option maxRecDepth 100000 in
theorem c_X5_takeBack (l : Launch) (D : va_G) (y : Nat → ClassId) (sz : Nat) (pa : Nat) (g : Nat) (fg : List Value) (fpa : List Value) (hpa_1 : fpa[1]? = some (.int 0)) (hpa_2 : fpa[2]? = some (.int 0)) : Met l yX5_takeBack (px_w yX5_takeBack cX5_takeBack 3 (some .boolean)) ({ frames := 0, cells := 0, slots := 0, locals := 0 }) (va_Pc [.ref pa, .ref g] (px_P D y sz [(g, .inr (2, fg)), (pa, .inr (5, fpa))])) (vp_Si (fun r : Int32 => r = 0)) 0 0 (fun _ => False) := by
  refine Met.ofW (cc := cX5_takeBack) (maxL := 3) (ret := (some .boolean)) (by decide) rfl ?_
  intro p e s m args below meth c s₁ B hml hv
  obtain ⟨rfl, hsz, hP, hK, hD0⟩ := hv
  have hx := B.exec
  have hb := B.bytes
  have hr := B.returns
  have hts := atoms_spec (ws := px_w yX5_takeBack cX5_takeBack 3 (some .boolean)) B.pre
  have hg : ∀ w ∈ gw, w.before [.ref pa, .ref g].toArray s = true := fun w h => hts w (List.mem_cons_of_mem _ h)
  have hown : s.vm.findClass RX5 = some m.cls := findClass_of_methodNamed B.named
  have hlocks := B.notSynchronized
  subst hsz
  have hD := hD0
  have hP : va_P D vwCl [(g, .inr (2, fg)), (pa, .inr (5, fpa))] s.heap := hP
  have hl := lv_entry ([.ref pa, .ref g]) (n := 3) (Nat.le_of_ble_eq_true rfl)
  rw [lg_entry_eq]
  generalize (lg_sl ([.ref pa, .ref g]) ++ List.replicate (3 - (lg_sl ([.ref pa, .ref g])).length) Slot.unset).toArray = ls at hl ⊢
  have hl : lv_has ls 3 [(0, .ref pa), (1, .ref g)] := hl
  refine lv_aload_n hx hb dX5_takeBack_0 rfl (lv_at hl 0 rfl) ?_
  refine va_get (D := D) (ci := 5) (v := .int 0) (C := RX5) (T := TX5) (N := 3) hx hb hg inGX5 hown hK hP 1 rfl rfl 1 (by decide) (hg _ q_2_91) (fun _ h9 => h9) hpa_1 dX5_takeBack_1 ?_
  refine lv_if_le (tgt := 16) hx hb dX5_takeBack_4 (by decide) (fun _ => ?_) (fun c_1 => absurd c_1 (by decide))
  refine lv_bipush (v := 7) hx hb dX5_takeBack_16 (by decide) ?_
  refine lv_istore_n (lv' := [(2, .int 7), (0, .ref pa), (1, .ref g)]) hx hb dX5_takeBack_18 rfl hl (by decide) rfl (fun ls hl => ?_)
  refine lv_aload_n hx hb dX5_takeBack_19 rfl (lv_at hl 1 rfl) ?_
  refine va_get (D := D) (ci := 5) (v := .int 0) (C := RX5) (T := TX5) (N := 3) hx hb hg inGX5 hown hK hP 1 rfl rfl 2 (by decide) (hg _ q_2_92) (fun _ h9 => h9) hpa_2 dX5_takeBack_20 ?_
  refine lv_if_eq (tgt := 35) hx hb dX5_takeBack_23 (by decide) (fun _ => ?_) (fun c_2 => absurd c_2 (by decide))
  refine lv_iconst (v := 0) hx hb dX5_takeBack_35 (by decide) ?_
  exact W.zret (v := 0) hx hb hr (by decide) (fun t ht hW => ⟨_, rfl, rfl, ht⟩) (fun q h => by cases h) dX5_takeBack_36

set_option maxHeartbeats 4000000 in
set_option maxRecDepth 100000 in
theorem c_X10_undo (l : Launch) (D : va_G) (y : Nat → ClassId) (sz : Nat) (x : Nat) (fx : List Value) (g : Nat) (pa : Nat) (fg : List Value) (fpa : List Value) (hx_3 : fx[3]? = some (.ref g)) (hx_10 : fx[10]? = some (.ref pa)) (hpa_1 : fpa[1]? = some (.int 0)) (hpa_2 : fpa[2]? = some (.int 0)) : Met l yX10_undo (px_w yX10_undo cX10_undo 1 (some .int)) ({ frames := 1, cells := 0, slots := 0, locals := 22 }) (va_Pc [.ref x] (px_P D y sz [(x, .inr (10, fx)), (g, .inr (2, fg)), (pa, .inr (5, fpa))])) (vp_Si (fun r : Int32 => r = (-1))) 0 0 (fun _ => False) := by
  refine Met.ofW (cc := cX10_undo) (maxL := 1) (ret := (some .int)) (by decide) rfl ?_
  intro p e s m args below meth c s₁ B hml hv
  obtain ⟨rfl, hsz, hP, hK, hD0⟩ := hv
  have hx := B.exec
  have hb := B.bytes
  have hr := B.returns
  have hts := atoms_spec (ws := px_w yX10_undo cX10_undo 1 (some .int)) B.pre
  have hg : ∀ w ∈ gw, w.before [.ref x].toArray s = true := fun w h => hts w (List.mem_cons_of_mem _ h)
  have hown : s.vm.findClass RX10 = some m.cls := findClass_of_methodNamed B.named
  have hlocks := B.notSynchronized
  subst hsz
  have hD := hD0
  have hP : va_P D vwCl [(x, .inr (10, fx)), (g, .inr (2, fg)), (pa, .inr (5, fpa))] s.heap := hP
  have hl := lv_entry ([.ref x]) (n := 1) (Nat.le_of_ble_eq_true rfl)
  rw [lg_entry_eq]
  generalize (lg_sl ([.ref x]) ++ List.replicate (1 - (lg_sl ([.ref x])).length) Slot.unset).toArray = ls at hl ⊢
  have hl : lv_has ls 1 [(0, .ref x)] := hl
  refine lv_aload_n hx hb dX10_undo_0 rfl (lv_at hl 0 rfl) ?_
  refine va_get (D := D) (ci := 10) (v := .ref pa) (C := RX10) (T := TX10) (N := 20) hx hb hg inGX10 hown hK hP 0 rfl rfl 10 (by decide) (hg _ q_2_113) (fun _ h9 => h9) hx_10 dX10_undo_1 ?_
  refine lv_aload_n hx hb dX10_undo_4 rfl (lv_at hl 0 rfl) ?_
  refine va_get (D := D) (ci := 10) (v := .ref g) (C := RX10) (T := TX10) (N := 20) hx hb hg inGX10 hown hK hP 0 rfl rfl 3 (by decide) (hg _ q_2_106) (fun _ h9 => h9) hx_3 dX10_undo_5 ?_
  have hPc_1 := hP.sub (ws' := [(g, .inr (2, fg)), (pa, .inr (5, fpa))]) [1, 2] rfl
  have hDc_1 := hD.sub (ws' := [(g, .inr (2, fg)), (pa, .inr (5, fpa))]) [1, 2] (by decide +kernel) rfl
  refine vp_callSi (va_Run.run (va_runV (As := [.ref g]) (rest := []) ⟨hx, hb, hml, hown, hg⟩ (c_X5_takeBack l D y s.heap.size pa g fg fpa hpa_1 hpa_2) (cwV 1 hg (px_gV q_3_220 q_3_221 q_3_222 q_1_14 q_3_223) rfl rfl rfl (by decide +kernel) ⟨Nat.le_of_ble_eq_true rfl, Nat.le_of_ble_eq_true rfl⟩) (px_preV hK hPc_1 hDc_1 (ci := 5) (q0 := 1) rfl rfl) rfl rfl hl.1 rfl (lv_room (Nat.le_of_ble_eq_true rfl)) dX10_undo_8 ⟨Nat.le_of_ble_eq_true rfl, Nat.le_of_ble_eq_true rfl⟩)) (fun r_1 hw_1 => ?_)
  obtain rfl : r_1 = 0 := hw_1
  refine lv_if_eq (tgt := 24) hx hb dX10_undo_11 (by decide) (fun _ => ?_) (fun c_2 => absurd c_2 (by decide))
  refine lv_iconst (v := (-1)) hx hb dX10_undo_24 (by decide) ?_
  exact W.iret (v := (-1)) hx hb hr (fun t ht hW => ⟨_, rfl, rfl, ht⟩) (fun q h => by cases h) dX10_undo_25

set_option maxHeartbeats 4000000 in
set_option maxRecDepth 100000 in
theorem c_X2_canDeal (l : Launch) (D : va_G) (y : Nat → ClassId) (sz : Nat) (g : Nat) (fg : List Value) (p0 : Int32) (hg_1 : fg[1]? = some (.int 0)) : Met l yX2_canDeal (px_w yX2_canDeal cX2_canDeal 2 (some .boolean)) ({ frames := 0, cells := 0, slots := 0, locals := 0 }) (va_Pc [.ref g, .int p0] (px_P D y sz [(g, .inr (2, fg))])) (vp_Si (fun r : Int32 => r = 0)) 0 0 (fun _ => False) := by
  refine Met.ofW (cc := cX2_canDeal) (maxL := 2) (ret := (some .boolean)) (by decide) rfl ?_
  intro p e s m args below meth c s₁ B hml hv
  obtain ⟨rfl, hsz, hP, hK, hD0⟩ := hv
  have hx := B.exec
  have hb := B.bytes
  have hr := B.returns
  have hts := atoms_spec (ws := px_w yX2_canDeal cX2_canDeal 2 (some .boolean)) B.pre
  have hg : ∀ w ∈ gw, w.before [.ref g, .int p0].toArray s = true := fun w h => hts w (List.mem_cons_of_mem _ h)
  have hown : s.vm.findClass RX2 = some m.cls := findClass_of_methodNamed B.named
  have hlocks := B.notSynchronized
  subst hsz
  have hD := hD0
  have hP : va_P D vwCl [(g, .inr (2, fg))] s.heap := hP
  have hl := lv_entry ([.ref g, .int p0]) (n := 2) (Nat.le_of_ble_eq_true rfl)
  rw [lg_entry_eq]
  generalize (lg_sl ([.ref g, .int p0]) ++ List.replicate (2 - (lg_sl ([.ref g, .int p0])).length) Slot.unset).toArray = ls at hl ⊢
  have hl : lv_has ls 2 [(0, .ref g), (1, .int p0)] := hl
  refine lv_aload_n hx hb dX2_canDeal_0 rfl (lv_at hl 0 rfl) ?_
  refine va_get (D := D) (ci := 2) (v := .int 0) (C := RX2) (T := TX2) (N := 18) hx hb hg inGX2 hown hK hP 0 rfl rfl 1 (by decide) (hg _ q_1_70) (fun _ h9 => h9) hg_1 dX2_canDeal_1 ?_
  refine lv_if_le (tgt := 33) hx hb dX2_canDeal_4 (by decide) (fun _ => ?_) (fun c_1 => absurd c_1 (by decide))
  refine lv_iconst (v := 0) hx hb dX2_canDeal_33 (by decide) ?_
  exact W.zret (v := 0) hx hb hr (by decide) (fun t ht hW => ⟨_, rfl, rfl, ht⟩) (fun q h => by cases h) dX2_canDeal_34

set_option maxHeartbeats 4000000 in
set_option maxRecDepth 100000 in
theorem c_X10_deal (l : Launch) (D : va_G) (y : Nat → ClassId) (sz : Nat) (x : Nat) (fx : List Value) (g : Nat) (fg : List Value) (p0 : Int32) (p1 : Int32) (hx_3 : fx[3]? = some (.ref g)) (hg_1 : fg[1]? = some (.int 0)) : Met l yX10_deal (px_w yX10_deal cX10_deal 3 (some .boolean)) ({ frames := 1, cells := 0, slots := 0, locals := 21 }) (va_Pc [.ref x, .int p0, .int p1] (px_P D y sz [(x, .inr (10, fx)), (g, .inr (2, fg))])) (vp_Si (fun r : Int32 => r = 0)) 0 0 (fun _ => False) := by
  refine Met.ofW (cc := cX10_deal) (maxL := 3) (ret := (some .boolean)) (by decide) rfl ?_
  intro p e s m args below meth c s₁ B hml hv
  obtain ⟨rfl, hsz, hP, hK, hD0⟩ := hv
  have hx := B.exec
  have hb := B.bytes
  have hr := B.returns
  have hts := atoms_spec (ws := px_w yX10_deal cX10_deal 3 (some .boolean)) B.pre
  have hg : ∀ w ∈ gw, w.before [.ref x, .int p0, .int p1].toArray s = true := fun w h => hts w (List.mem_cons_of_mem _ h)
  have hown : s.vm.findClass RX10 = some m.cls := findClass_of_methodNamed B.named
  have hlocks := B.notSynchronized
  subst hsz
  have hD := hD0
  have hP : va_P D vwCl [(x, .inr (10, fx)), (g, .inr (2, fg))] s.heap := hP
  have hl := lv_entry ([.ref x, .int p0, .int p1]) (n := 3) (Nat.le_of_ble_eq_true rfl)
  rw [lg_entry_eq]
  generalize (lg_sl ([.ref x, .int p0, .int p1]) ++ List.replicate (3 - (lg_sl ([.ref x, .int p0, .int p1])).length) Slot.unset).toArray = ls at hl ⊢
  have hl : lv_has ls 3 [(0, .ref x), (1, .int p0), (2, .int p1)] := hl
  refine lv_iload_n hx hb dX10_deal_0 rfl (lv_at hl 1 rfl) ?_
  refine lv_iconst (v := 1) hx hb dX10_deal_1 (by decide) ?_
  refine lv_icmp_lt (tgt := 22) hx hb dX10_deal_2 (by decide) (fun c_1 => ?_) (fun c_1 => ?_)
  · refine lv_iconst (v := 0) hx hb dX10_deal_22 (by decide) ?_
    exact W.zret (v := 0) hx hb hr (by decide) (fun t ht hW => ⟨_, rfl, rfl, ht⟩) (fun q h => by cases h) dX10_deal_23
  · refine lv_iload_n hx hb dX10_deal_5 rfl (lv_at hl 1 rfl) ?_
    refine lv_bipush (v := 9) hx hb dX10_deal_6 (by decide) ?_
    refine lv_icmp_gt (tgt := 22) hx hb dX10_deal_8 (by decide) (fun c_2 => ?_) (fun c_2 => ?_)
    · refine lv_iconst (v := 0) hx hb dX10_deal_22 (by decide) ?_
      exact W.zret (v := 0) hx hb hr (by decide) (fun t ht hW => ⟨_, rfl, rfl, ht⟩) (fun q h => by cases h) dX10_deal_23
    · refine lv_aload_n hx hb dX10_deal_11 rfl (lv_at hl 0 rfl) ?_
      refine va_get (D := D) (ci := 10) (v := .ref g) (C := RX10) (T := TX10) (N := 20) hx hb hg inGX10 hown hK hP 0 rfl rfl 3 (by decide) (hg _ q_2_106) (fun _ h9 => h9) hx_3 dX10_deal_12 ?_
      refine lv_iload_n hx hb dX10_deal_15 rfl (lv_at hl 1 rfl) ?_
      have hPc_3 := hP.sub (ws' := [(g, .inr (2, fg))]) [1] rfl
      have hDc_3 := hD.sub (ws' := [(g, .inr (2, fg))]) [1] (by decide +kernel) rfl
      refine vp_callSi (va_Run.run (va_runV (As := [.int p0]) (rest := []) ⟨hx, hb, hml, hown, hg⟩ (c_X2_canDeal l D y s.heap.size g fg p0 hg_1) (cwV 1 hg (px_gV q_5_51 q_5_52 q_5_53 q_1_2 q_5_54) rfl rfl rfl (by decide +kernel) ⟨Nat.le_of_ble_eq_true rfl, Nat.le_of_ble_eq_true rfl⟩) (px_preV hK hPc_3 hDc_3 (ci := 2) (q0 := 0) rfl rfl) rfl rfl hl.1 rfl (lv_room (Nat.le_of_ble_eq_true rfl)) dX10_deal_16 ⟨Nat.le_of_ble_eq_true rfl, Nat.le_of_ble_eq_true rfl⟩)) (fun r_3 hw_3 => ?_)
      obtain rfl : r_3 = 0 := hw_3
      refine lv_if_ne (tgt := 24) hx hb dX10_deal_19 (by decide) (fun c_4 => absurd c_4 (by decide)) (fun _ => ?_)
      refine lv_iconst (v := 0) hx hb dX10_deal_22 (by decide) ?_
      exact W.zret (v := 0) hx hb hr (by decide) (fun t ht hW => ⟨_, rfl, rfl, ht⟩) (fun q h => by cases h) dX10_deal_23

set_option maxHeartbeats 4000000 in
set_option maxRecDepth 100000 in
theorem c_X10_areGames (l : Launch) (D : va_G) (y : Nat → ClassId) (sz : Nat) (x : Nat) (fx : List Value) (g : Nat) (fg : List Value) (p0 : Int32) (p1 : Int32) (p2 : Int32) (hx_3 : fx[3]? = some (.ref g)) (hg_1 : fg[1]? = some (.int 0)) : Met l yX10_areGames (px_w yX10_areGames cX10_areGames 4 (some .boolean)) ({ frames := 1, cells := 0, slots := 0, locals := 21 }) (va_Pc [.ref x, .int p0, .int p1, .int p2] (px_P D y sz [(x, .inr (10, fx)), (g, .inr (2, fg))])) (vp_Si (fun r : Int32 => r = 0)) 0 0 (fun _ => False) := by
  refine Met.ofW (cc := cX10_areGames) (maxL := 4) (ret := (some .boolean)) (by decide) rfl ?_
  intro p e s m args below meth c s₁ B hml hv
  obtain ⟨rfl, hsz, hP, hK, hD0⟩ := hv
  have hx := B.exec
  have hb := B.bytes
  have hr := B.returns
  have hts := atoms_spec (ws := px_w yX10_areGames cX10_areGames 4 (some .boolean)) B.pre
  have hg : ∀ w ∈ gw, w.before [.ref x, .int p0, .int p1, .int p2].toArray s = true := fun w h => hts w (List.mem_cons_of_mem _ h)
  have hown : s.vm.findClass RX10 = some m.cls := findClass_of_methodNamed B.named
  have hlocks := B.notSynchronized
  subst hsz
  have hD := hD0
  have hP : va_P D vwCl [(x, .inr (10, fx)), (g, .inr (2, fg))] s.heap := hP
  have hl := lv_entry ([.ref x, .int p0, .int p1, .int p2]) (n := 4) (Nat.le_of_ble_eq_true rfl)
  rw [lg_entry_eq]
  generalize (lg_sl ([.ref x, .int p0, .int p1, .int p2]) ++ List.replicate (4 - (lg_sl ([.ref x, .int p0, .int p1, .int p2])).length) Slot.unset).toArray = ls at hl ⊢
  have hl : lv_has ls 4 [(0, .ref x), (1, .int p0), (2, .int p1), (3, .int p2)] := hl
  refine lv_aload_n hx hb dX10_areGames_0 rfl (lv_at hl 0 rfl) ?_
  refine lv_iload_n hx hb dX10_areGames_1 rfl (lv_at hl 1 rfl) ?_
  have hPc_1 := hP.sub (ws' := [(x, .inr (10, fx))]) [0] rfl
  have hDc_1 := hD.sub (ws' := [(x, .inr (10, fx))]) [0] (by decide +kernel) rfl
  refine vp_callSi (va_Run.run (va_runV (As := [.int p0]) (rest := []) ⟨hx, hb, hml, hown, hg⟩ (c_X10_isRule l D y s.heap.size x fx p0 ) (cwV 1 hg (px_gV q_5_10 q_5_12 q_p_39 q_1_1 q_5_13) rfl rfl rfl (by decide +kernel) ⟨Nat.le_of_ble_eq_true rfl, Nat.le_of_ble_eq_true rfl⟩) (px_preV hK hPc_1 hDc_1 (ci := 10) (q0 := 0) rfl rfl) rfl rfl hl.1 rfl (lv_room (Nat.le_of_ble_eq_true rfl)) dX10_areGames_2 ⟨Nat.le_of_ble_eq_true rfl, Nat.le_of_ble_eq_true rfl⟩)) (fun r_1 hw_1 => ?_)
  refine lv_if_eq (tgt := 53) hx hb dX10_areGames_5 (by decide) (fun c_2 => ?_) (fun c_2 => ?_)
  · refine lv_iconst (v := 0) hx hb dX10_areGames_53 (by decide) ?_
    exact W.zret (v := 0) hx hb hr (by decide) (fun t ht hW => ⟨_, rfl, rfl, ht⟩) (fun q h => by cases h) dX10_areGames_54
  · refine lv_aload_n hx hb dX10_areGames_8 rfl (lv_at hl 0 rfl) ?_
    refine lv_iload_n hx hb dX10_areGames_9 rfl (lv_at hl 2 rfl) ?_
    have hPc_3 := hP.sub (ws' := [(x, .inr (10, fx))]) [0] rfl
    have hDc_3 := hD.sub (ws' := [(x, .inr (10, fx))]) [0] (by decide +kernel) rfl
    refine vp_callSi (va_Run.run (va_runV (As := [.int p1]) (rest := []) ⟨hx, hb, hml, hown, hg⟩ (c_X10_isRule l D y s.heap.size x fx p1 ) (cwV 1 hg (px_gV q_5_10 q_5_12 q_p_39 q_1_1 q_5_13) rfl rfl rfl (by decide +kernel) ⟨Nat.le_of_ble_eq_true rfl, Nat.le_of_ble_eq_true rfl⟩) (px_preV hK hPc_3 hDc_3 (ci := 10) (q0 := 0) rfl rfl) rfl rfl hl.1 rfl (lv_room (Nat.le_of_ble_eq_true rfl)) dX10_areGames_10 ⟨Nat.le_of_ble_eq_true rfl, Nat.le_of_ble_eq_true rfl⟩)) (fun r_3 hw_3 => ?_)
    refine lv_if_eq (tgt := 53) hx hb dX10_areGames_13 (by decide) (fun c_4 => ?_) (fun c_4 => ?_)
    · refine lv_iconst (v := 0) hx hb dX10_areGames_53 (by decide) ?_
      exact W.zret (v := 0) hx hb hr (by decide) (fun t ht hW => ⟨_, rfl, rfl, ht⟩) (fun q h => by cases h) dX10_areGames_54
    · refine lv_iload_n hx hb dX10_areGames_16 rfl (lv_at hl 3 rfl) ?_
      refine lv_iconst (v := 1) hx hb dX10_areGames_17 (by decide) ?_
      refine lv_icmp_lt (tgt := 53) hx hb dX10_areGames_18 (by decide) (fun c_5 => ?_) (fun c_5 => ?_)
      · refine lv_iconst (v := 0) hx hb dX10_areGames_53 (by decide) ?_
        exact W.zret (v := 0) hx hb hr (by decide) (fun t ht hW => ⟨_, rfl, rfl, ht⟩) (fun q h => by cases h) dX10_areGames_54
      · refine lv_iload_n hx hb dX10_areGames_21 rfl (lv_at hl 3 rfl) ?_
        refine lv_bipush (v := 30) hx hb dX10_areGames_22 (by decide) ?_
        refine lv_icmp_gt (tgt := 53) hx hb dX10_areGames_24 (by decide) (fun c_6 => ?_) (fun c_6 => ?_)
        · refine lv_iconst (v := 0) hx hb dX10_areGames_53 (by decide) ?_
          exact W.zret (v := 0) hx hb hr (by decide) (fun t ht hW => ⟨_, rfl, rfl, ht⟩) (fun q h => by cases h) dX10_areGames_54
        · refine lv_aload_n hx hb dX10_areGames_27 rfl (lv_at hl 0 rfl) ?_
          refine va_get (D := D) (ci := 10) (v := .ref g) (C := RX10) (T := TX10) (N := 20) hx hb hg inGX10 hown hK hP 0 rfl rfl 3 (by decide) (hg _ q_2_106) (fun _ h9 => h9) hx_3 dX10_areGames_28 ?_
          refine va_get (D := D) (ci := 2) (v := .int 0) (C := RX2) (T := TX2) (N := 18) hx hb hg inGX2 hown hK hP 1 rfl rfl 1 (by decide) (hg _ q_1_73) (fun _ h9 => h9) hg_1 dX10_areGames_31 ?_
          refine lv_iconst (v := 2) hx hb dX10_areGames_34 (by decide) ?_
          refine lv_icmp_lt (tgt := 53) hx hb dX10_areGames_35 (by decide) (fun _ => ?_) (fun c_7 => absurd c_7 (by decide))
          refine lv_iconst (v := 0) hx hb dX10_areGames_53 (by decide) ?_
          exact W.zret (v := 0) hx hb hr (by decide) (fun t ht hW => ⟨_, rfl, rfl, ht⟩) (fun q h => by cases h) dX10_areGames_54

set_option maxHeartbeats 4000000 in
set_option maxRecDepth 100000 in
theorem c_X10_games (l : Launch) (D : va_G) (y : Nat → ClassId) (sz : Nat) (x : Nat) (fx : List Value) (g : Nat) (fg : List Value) (p0 : Int32) (p1 : Int32) (p2 : Int32) (p3 : Int32) (hx_3 : fx[3]? = some (.ref g)) (hg_1 : fg[1]? = some (.int 0)) : Met l yX10_games (px_w yX10_games cX10_games 5 (some .int)) ({ frames := 2, cells := 0, slots := 0, locals := 44 }) (va_Pc [.ref x, .int p0, .int p1, .int p2, .int p3] (px_P D y sz [(x, .inr (10, fx)), (g, .inr (2, fg))])) (vp_Si (fun r : Int32 => r = (-1))) 0 0 (fun _ => False) := by
  refine Met.ofW (cc := cX10_games) (maxL := 5) (ret := (some .int)) (by decide) rfl ?_
  intro p e s m args below meth c s₁ B hml hv
  obtain ⟨rfl, hsz, hP, hK, hD0⟩ := hv
  have hx := B.exec
  have hb := B.bytes
  have hr := B.returns
  have hts := atoms_spec (ws := px_w yX10_games cX10_games 5 (some .int)) B.pre
  have hg : ∀ w ∈ gw, w.before [.ref x, .int p0, .int p1, .int p2, .int p3].toArray s = true := fun w h => hts w (List.mem_cons_of_mem _ h)
  have hown : s.vm.findClass RX10 = some m.cls := findClass_of_methodNamed B.named
  have hlocks := B.notSynchronized
  subst hsz
  have hD := hD0
  have hP : va_P D vwCl [(x, .inr (10, fx)), (g, .inr (2, fg))] s.heap := hP
  have hl := lv_entry ([.ref x, .int p0, .int p1, .int p2, .int p3]) (n := 5) (Nat.le_of_ble_eq_true rfl)
  rw [lg_entry_eq]
  generalize (lg_sl ([.ref x, .int p0, .int p1, .int p2, .int p3]) ++ List.replicate (5 - (lg_sl ([.ref x, .int p0, .int p1, .int p2, .int p3])).length) Slot.unset).toArray = ls at hl ⊢
  have hl : lv_has ls 5 [(0, .ref x), (1, .int p0), (2, .int p1), (3, .int p2), (4, .int p3)] := hl
  refine lv_aload_n hx hb dX10_games_0 rfl (lv_at hl 0 rfl) ?_
  refine lv_iload_n hx hb dX10_games_1 rfl (lv_at hl 1 rfl) ?_
  refine lv_iload_n hx hb dX10_games_2 rfl (lv_at hl 2 rfl) ?_
  refine lv_iload_n hx hb dX10_games_3 rfl (lv_at hl 3 rfl) ?_
  have hPc_1 := hP.sub (ws' := [(x, .inr (10, fx)), (g, .inr (2, fg))]) [0, 1] rfl
  have hDc_1 := hD.sub (ws' := [(x, .inr (10, fx)), (g, .inr (2, fg))]) [0, 1] (by decide +kernel) rfl
  refine vp_callSi (va_Run.run (va_runV (As := [.int p0, .int p1, .int p2]) (rest := []) ⟨hx, hb, hml, hown, hg⟩ (c_X10_areGames l D y s.heap.size x fx g fg p0 p1 p2 hx_3 hg_1) (cwV 3 hg (px_gV q_5_65 q_5_67 q_p_46 q_1_1 q_5_68) rfl rfl rfl (by decide +kernel) ⟨Nat.le_of_ble_eq_true rfl, Nat.le_of_ble_eq_true rfl⟩) (px_preV hK hPc_1 hDc_1 (ci := 10) (q0 := 0) rfl rfl) rfl rfl hl.1 rfl (lv_room (Nat.le_of_ble_eq_true rfl)) dX10_games_4 ⟨Nat.le_of_ble_eq_true rfl, Nat.le_of_ble_eq_true rfl⟩)) (fun r_1 hw_1 => ?_)
  obtain rfl : r_1 = 0 := hw_1
  refine lv_if_eq (tgt := 23) hx hb dX10_games_7 (by decide) (fun _ => ?_) (fun c_2 => absurd c_2 (by decide))
  refine lv_iconst (v := (-1)) hx hb dX10_games_23 (by decide) ?_
  exact W.iret (v := (-1)) hx hb hr (fun t ht hW => ⟨_, rfl, rfl, ht⟩) (fun q h => by cases h) dX10_games_24

set_option maxHeartbeats 4000000 in
set_option maxRecDepth 100000 in
theorem c_X10_length (l : Launch) (D : va_G) (y : Nat → ClassId) (sz : Nat) (x : Nat) (fx : List Value) (g : Nat) (fg : List Value) (p0 : Int32) (p1 : Int32) (p2 : Int32) (p3 : Int32) (hx_3 : fx[3]? = some (.ref g)) (hg_1 : fg[1]? = some (.int 0)) : Met l yX10_length (px_w yX10_length cX10_length 5 (some .int)) ({ frames := 2, cells := 0, slots := 0, locals := 44 }) (va_Pc [.ref x, .int p0, .int p1, .int p2, .int p3] (px_P D y sz [(x, .inr (10, fx)), (g, .inr (2, fg))])) (vp_Si (fun r : Int32 => r = (-1))) 0 0 (fun _ => False) := by
  refine Met.ofW (cc := cX10_length) (maxL := 5) (ret := (some .int)) (by decide) rfl ?_
  intro p e s m args below meth c s₁ B hml hv
  obtain ⟨rfl, hsz, hP, hK, hD0⟩ := hv
  have hx := B.exec
  have hb := B.bytes
  have hr := B.returns
  have hts := atoms_spec (ws := px_w yX10_length cX10_length 5 (some .int)) B.pre
  have hg : ∀ w ∈ gw, w.before [.ref x, .int p0, .int p1, .int p2, .int p3].toArray s = true := fun w h => hts w (List.mem_cons_of_mem _ h)
  have hown : s.vm.findClass RX10 = some m.cls := findClass_of_methodNamed B.named
  have hlocks := B.notSynchronized
  subst hsz
  have hD := hD0
  have hP : va_P D vwCl [(x, .inr (10, fx)), (g, .inr (2, fg))] s.heap := hP
  have hl := lv_entry ([.ref x, .int p0, .int p1, .int p2, .int p3]) (n := 5) (Nat.le_of_ble_eq_true rfl)
  rw [lg_entry_eq]
  generalize (lg_sl ([.ref x, .int p0, .int p1, .int p2, .int p3]) ++ List.replicate (5 - (lg_sl ([.ref x, .int p0, .int p1, .int p2, .int p3])).length) Slot.unset).toArray = ls at hl ⊢
  have hl : lv_has ls 5 [(0, .ref x), (1, .int p0), (2, .int p1), (3, .int p2), (4, .int p3)] := hl
  refine lv_aload_n hx hb dX10_length_0 rfl (lv_at hl 0 rfl) ?_
  refine lv_iload_n hx hb dX10_length_1 rfl (lv_at hl 1 rfl) ?_
  refine lv_iload_n hx hb dX10_length_2 rfl (lv_at hl 2 rfl) ?_
  refine lv_iload_n hx hb dX10_length_3 rfl (lv_at hl 3 rfl) ?_
  have hPc_1 := hP.sub (ws' := [(x, .inr (10, fx)), (g, .inr (2, fg))]) [0, 1] rfl
  have hDc_1 := hD.sub (ws' := [(x, .inr (10, fx)), (g, .inr (2, fg))]) [0, 1] (by decide +kernel) rfl
  refine vp_callSi (va_Run.run (va_runV (As := [.int p0, .int p1, .int p2]) (rest := []) ⟨hx, hb, hml, hown, hg⟩ (c_X10_areGames l D y s.heap.size x fx g fg p0 p1 p2 hx_3 hg_1) (cwV 3 hg (px_gV q_5_65 q_5_67 q_p_46 q_1_1 q_5_68) rfl rfl rfl (by decide +kernel) ⟨Nat.le_of_ble_eq_true rfl, Nat.le_of_ble_eq_true rfl⟩) (px_preV hK hPc_1 hDc_1 (ci := 10) (q0 := 0) rfl rfl) rfl rfl hl.1 rfl (lv_room (Nat.le_of_ble_eq_true rfl)) dX10_length_4 ⟨Nat.le_of_ble_eq_true rfl, Nat.le_of_ble_eq_true rfl⟩)) (fun r_1 hw_1 => ?_)
  obtain rfl : r_1 = 0 := hw_1
  refine lv_if_eq (tgt := 23) hx hb dX10_length_7 (by decide) (fun _ => ?_) (fun c_2 => absurd c_2 (by decide))
  refine lv_iconst (v := (-1)) hx hb dX10_length_23 (by decide) ?_
  exact W.iret (v := (-1)) hx hb hr (fun t ht hW => ⟨_, rfl, rfl, ht⟩) (fun q h => by cases h) dX10_length_24

set_option maxHeartbeats 4000000 in
set_option maxRecDepth 100000 in
theorem c_X10_reply (l : Launch) (D : va_G) (y : Nat → ClassId) (sz : Nat) (x : Nat) (fx : List Value) (g : Nat) (fg : List Value) (p0 : Int32) (p1 : Int32) (p2 : Int32) (hx_3 : fx[3]? = some (.ref g)) (hg_1 : fg[1]? = some (.int 0)) : Met l yX10_reply (px_w yX10_reply cX10_reply 8 (some .int)) ({ frames := 2, cells := 0, slots := 0, locals := 44 }) (va_Pc [.ref x, .int p0, .int p1, .int p2] (px_P D y sz [(x, .inr (10, fx)), (g, .inr (2, fg))])) (vp_Si (fun r : Int32 => r = (-1))) 0 0 (fun _ => False) := by
  refine Met.ofW (cc := cX10_reply) (maxL := 8) (ret := (some .int)) (by decide) rfl ?_
  intro p e s m args below meth c s₁ B hml hv
  obtain ⟨rfl, hsz, hP, hK, hD0⟩ := hv
  have hx := B.exec
  have hb := B.bytes
  have hr := B.returns
  have hts := atoms_spec (ws := px_w yX10_reply cX10_reply 8 (some .int)) B.pre
  have hg : ∀ w ∈ gw, w.before [.ref x, .int p0, .int p1, .int p2].toArray s = true := fun w h => hts w (List.mem_cons_of_mem _ h)
  have hown : s.vm.findClass RX10 = some m.cls := findClass_of_methodNamed B.named
  have hlocks := B.notSynchronized
  subst hsz
  have hD := hD0
  have hP : va_P D vwCl [(x, .inr (10, fx)), (g, .inr (2, fg))] s.heap := hP
  have hl := lv_entry ([.ref x, .int p0, .int p1, .int p2]) (n := 8) (Nat.le_of_ble_eq_true rfl)
  rw [lg_entry_eq]
  generalize (lg_sl ([.ref x, .int p0, .int p1, .int p2]) ++ List.replicate (8 - (lg_sl ([.ref x, .int p0, .int p1, .int p2])).length) Slot.unset).toArray = ls at hl ⊢
  have hl : lv_has ls 8 [(0, .ref x), (1, .int p0), (2, .int p1), (3, .int p2)] := hl
  refine lv_aload_n hx hb dX10_reply_0 rfl (lv_at hl 0 rfl) ?_
  refine lv_iconst (v := 0) hx hb dX10_reply_1 (by decide) ?_
  refine lv_iload_n hx hb dX10_reply_2 rfl (lv_at hl 1 rfl) ?_
  refine lv_iload_n hx hb dX10_reply_3 rfl (lv_at hl 2 rfl) ?_
  have hPc_1 := hP.sub (ws' := [(x, .inr (10, fx)), (g, .inr (2, fg))]) [0, 1] rfl
  have hDc_1 := hD.sub (ws' := [(x, .inr (10, fx)), (g, .inr (2, fg))]) [0, 1] (by decide +kernel) rfl
  refine vp_callSi (va_Run.run (va_runV (As := [.int 0, .int p0, .int p1]) (rest := []) ⟨hx, hb, hml, hown, hg⟩ (c_X10_areGames l D y s.heap.size x fx g fg 0 p0 p1 hx_3 hg_1) (cwV 3 hg (px_gV q_5_65 q_5_67 q_p_46 q_1_1 q_5_68) rfl rfl rfl (by decide +kernel) ⟨Nat.le_of_ble_eq_true rfl, Nat.le_of_ble_eq_true rfl⟩) (px_preV hK hPc_1 hDc_1 (ci := 10) (q0 := 0) rfl rfl) rfl rfl hl.1 rfl (lv_room (Nat.le_of_ble_eq_true rfl)) dX10_reply_4 ⟨Nat.le_of_ble_eq_true rfl, Nat.le_of_ble_eq_true rfl⟩)) (fun r_1 hw_1 => ?_)
  obtain rfl : r_1 = 0 := hw_1
  refine lv_if_ne (tgt := 12) hx hb dX10_reply_7 (by decide) (fun c_2 => absurd c_2 (by decide)) (fun _ => ?_)
  refine lv_iconst (v := (-1)) hx hb dX10_reply_10 (by decide) ?_
  exact W.iret (v := (-1)) hx hb hr (fun t ht hW => ⟨_, rfl, rfl, ht⟩) (fun q h => by cases h) dX10_reply_11

set_option maxHeartbeats 4000000 in
set_option maxRecDepth 100000 in
theorem c_X10_leader (l : Launch) (D : va_G) (y : Nat → ClassId) (sz : Nat) (x : Nat) (fx : List Value) (g : Nat) (fg : List Value) (hx_3 : fx[3]? = some (.ref g)) (hg_1 : fg[1]? = some (.int 0)) : Met l yX10_leader (px_w yX10_leader cX10_leader 5 (some .int)) ({ frames := 0, cells := 0, slots := 0, locals := 0 }) (va_Pc [.ref x] (px_P D y sz [(x, .inr (10, fx)), (g, .inr (2, fg))])) (vp_Si (fun r : Int32 => r = (-1))) 0 0 (fun _ => False) := by
  refine Met.ofW (cc := cX10_leader) (maxL := 5) (ret := (some .int)) (by decide) rfl ?_
  intro p e s m args below meth c s₁ B hml hv
  obtain ⟨rfl, hsz, hP, hK, hD0⟩ := hv
  have hx := B.exec
  have hb := B.bytes
  have hr := B.returns
  have hts := atoms_spec (ws := px_w yX10_leader cX10_leader 5 (some .int)) B.pre
  have hg : ∀ w ∈ gw, w.before [.ref x].toArray s = true := fun w h => hts w (List.mem_cons_of_mem _ h)
  have hown : s.vm.findClass RX10 = some m.cls := findClass_of_methodNamed B.named
  have hlocks := B.notSynchronized
  subst hsz
  have hD := hD0
  have hP : va_P D vwCl [(x, .inr (10, fx)), (g, .inr (2, fg))] s.heap := hP
  have hl := lv_entry ([.ref x]) (n := 5) (Nat.le_of_ble_eq_true rfl)
  rw [lg_entry_eq]
  generalize (lg_sl ([.ref x]) ++ List.replicate (5 - (lg_sl ([.ref x])).length) Slot.unset).toArray = ls at hl ⊢
  have hl : lv_has ls 5 [(0, .ref x)] := hl
  refine lv_iconst (v := (-1)) hx hb dX10_leader_0 (by decide) ?_
  refine lv_istore_n (lv' := [(1, .int (-1)), (0, .ref x)]) hx hb dX10_leader_1 rfl hl (by decide) rfl (fun ls hl => ?_)
  refine lv_iconst (v := (-1)) hx hb dX10_leader_2 (by decide) ?_
  refine lv_istore_n (lv' := [(2, .int (-1)), (1, .int (-1)), (0, .ref x)]) hx hb dX10_leader_3 rfl hl (by decide) rfl (fun ls hl => ?_)
  refine lv_iconst (v := 0) hx hb dX10_leader_4 (by decide) ?_
  refine lv_istore_n (lv' := [(3, .int 0), (2, .int (-1)), (1, .int (-1)), (0, .ref x)]) hx hb dX10_leader_5 rfl hl (by decide) rfl (fun ls hl => ?_)
  refine lv_iload_n hx hb dX10_leader_6 rfl (lv_at hl 0 rfl) ?_
  refine lv_aload_n hx hb dX10_leader_7 rfl (lv_at hl 3 rfl) ?_
  refine va_get (D := D) (ci := 10) (v := .ref g) (C := RX10) (T := TX10) (N := 20) hx hb hg inGX10 hown hK hP 0 rfl rfl 3 (by decide) (hg _ q_2_106) (fun _ h9 => h9) hx_3 dX10_leader_8 ?_
  refine va_get (D := D) (ci := 2) (v := .int 0) (C := RX2) (T := TX2) (N := 18) hx hb hg inGX2 hown hK hP 1 rfl rfl 1 (by decide) (hg _ q_1_73) (fun _ h9 => h9) hg_1 dX10_leader_11 ?_
  refine lv_icmp_ge (tgt := 44) hx hb dX10_leader_14 (by decide) (fun _ => ?_) (fun c_1 => absurd c_1 (by decide))
  refine lv_iload_n hx hb dX10_leader_44 rfl (lv_at hl 2 rfl) ?_
  exact W.iret (v := (-1)) hx hb hr (fun t ht hW => ⟨_, rfl, rfl, ht⟩) (fun q h => by cases h) dX10_leader_45

set_option maxHeartbeats 4000000 in
set_option maxRecDepth 100000 in
theorem c_X10_said (l : Launch) (D : va_G) (y : Nat → ClassId) (sz : Nat) (x : Nat) (fx : List Value) (td : Nat) (ftd : List Value) (p0 : Int32) (hx_5 : fx[5]? = some (.ref td)) (htd_1 : ftd[1]? = some (.int 0)) : Met l yX10_said (px_w yX10_said cX10_said 4 (some .int)) ({ frames := 0, cells := 0, slots := 0, locals := 0 }) (va_Pc [.ref x, .int p0] (px_P D y sz [(x, .inr (10, fx)), (td, .inr (7, ftd))])) (vp_Si (fun r : Int32 => r = (-1))) 0 0 (fun _ => False) := by
  refine Met.ofW (cc := cX10_said) (maxL := 4) (ret := (some .int)) (by decide) rfl ?_
  intro p e s m args below meth c s₁ B hml hv
  obtain ⟨rfl, hsz, hP, hK, hD0⟩ := hv
  have hx := B.exec
  have hb := B.bytes
  have hr := B.returns
  have hts := atoms_spec (ws := px_w yX10_said cX10_said 4 (some .int)) B.pre
  have hg : ∀ w ∈ gw, w.before [.ref x, .int p0].toArray s = true := fun w h => hts w (List.mem_cons_of_mem _ h)
  have hown : s.vm.findClass RX10 = some m.cls := findClass_of_methodNamed B.named
  have hlocks := B.notSynchronized
  subst hsz
  have hD := hD0
  have hP : va_P D vwCl [(x, .inr (10, fx)), (td, .inr (7, ftd))] s.heap := hP
  have hl := lv_entry ([.ref x, .int p0]) (n := 4) (Nat.le_of_ble_eq_true rfl)
  rw [lg_entry_eq]
  generalize (lg_sl ([.ref x, .int p0]) ++ List.replicate (4 - (lg_sl ([.ref x, .int p0])).length) Slot.unset).toArray = ls at hl ⊢
  have hl : lv_has ls 4 [(0, .ref x), (1, .int p0)] := hl
  refine lv_aload_n hx hb dX10_said_0 rfl (lv_at hl 0 rfl) ?_
  refine va_get (D := D) (ci := 10) (v := .ref td) (C := RX10) (T := TX10) (N := 20) hx hb hg inGX10 hown hK hP 0 rfl rfl 5 (by decide) (hg _ q_2_108) (fun _ h9 => h9) hx_5 dX10_said_1 ?_
  refine va_get (D := D) (ci := 7) (v := .int 0) (C := RX7) (T := TX7) (N := 2) hx hb hg inGX7 hown hK hP 1 rfl rfl 1 (by decide) (hg _ q_1_159) (fun _ h9 => h9) htd_1 dX10_said_4 ?_
  refine lv_if_eq (tgt := 15) hx hb dX10_said_7 (by decide) (fun _ => ?_) (fun c_1 => absurd c_1 (by decide))
  refine lv_iconst (v := (-1)) hx hb dX10_said_15 (by decide) ?_
  exact W.iret (v := (-1)) hx hb hr (fun t ht hW => ⟨_, rfl, rfl, ht⟩) (fun q h => by cases h) dX10_said_16

set_option maxHeartbeats 4000000 in
set_option maxRecDepth 100000 in
theorem c_X10_restore (l : Launch) (D : va_G) (y : Nat → ClassId) (sz : Nat) (x : Nat) (fx : List Value) (kg : Nat) (p0 : Int32) (hx_11 : fx[11]? = some (.ref kg)) : Met l yX10_restore (px_w yX10_restore cX10_restore 2 (some .boolean)) ({ frames := 0, cells := 0, slots := 0, locals := 0 }) (va_Pc [.ref x, .int p0] (px_P D y sz [(x, .inr (10, fx)), (kg, .inl (y 4, 2, .inr (.inr (.inr (.inr (fun _ => none))))))])) (vp_Si (fun r : Int32 => r = 0)) 0 0 (fun _ => False) := by
  refine Met.ofW (cc := cX10_restore) (maxL := 2) (ret := (some .boolean)) (by decide) rfl ?_
  intro p e s m args below meth c s₁ B hml hv
  obtain ⟨rfl, hsz, hP, hK, hD0⟩ := hv
  have hx := B.exec
  have hb := B.bytes
  have hr := B.returns
  have hts := atoms_spec (ws := px_w yX10_restore cX10_restore 2 (some .boolean)) B.pre
  have hg : ∀ w ∈ gw, w.before [.ref x, .int p0].toArray s = true := fun w h => hts w (List.mem_cons_of_mem _ h)
  have hown : s.vm.findClass RX10 = some m.cls := findClass_of_methodNamed B.named
  have hlocks := B.notSynchronized
  subst hsz
  have hD := hD0
  have hP : va_P D vwCl [(x, .inr (10, fx)), (kg, .inl (y 4, 2, .inr (.inr (.inr (.inr (fun _ => none))))))] s.heap := hP
  have hl := lv_entry ([.ref x, .int p0]) (n := 2) (Nat.le_of_ble_eq_true rfl)
  rw [lg_entry_eq]
  generalize (lg_sl ([.ref x, .int p0]) ++ List.replicate (2 - (lg_sl ([.ref x, .int p0])).length) Slot.unset).toArray = ls at hl ⊢
  have hl : lv_has ls 2 [(0, .ref x), (1, .int p0)] := hl
  refine lv_iload_n hx hb dX10_restore_0 rfl (lv_at hl 1 rfl) ?_
  refine lv_if_lt (tgt := 27) hx hb dX10_restore_1 (by decide) (fun c_1 => ?_) (fun c_1 => ?_)
  · refine lv_iconst (v := 0) hx hb dX10_restore_27 (by decide) ?_
    exact W.zret (v := 0) hx hb hr (by decide) (fun t ht hW => ⟨_, rfl, rfl, ht⟩) (fun q h => by cases h) dX10_restore_28
  · refine lv_iload_n hx hb dX10_restore_4 rfl (lv_at hl 1 rfl) ?_
    refine lv_iconst (v := 2) hx hb dX10_restore_5 (by decide) ?_
    refine lv_icmp_ge (tgt := 27) hx hb dX10_restore_6 (by decide) (fun c_2 => ?_) (fun c_2 => ?_)
    · refine lv_iconst (v := 0) hx hb dX10_restore_27 (by decide) ?_
      exact W.zret (v := 0) hx hb hr (by decide) (fun t ht hW => ⟨_, rfl, rfl, ht⟩) (fun q h => by cases h) dX10_restore_28
    · refine lv_aload_n hx hb dX10_restore_9 rfl (lv_at hl 0 rfl) ?_
      refine va_get (D := D) (ci := 10) (v := .ref kg) (C := RX10) (T := TX10) (N := 20) hx hb hg inGX10 hown hK hP 0 rfl rfl 11 (by decide) (hg _ q_2_114) (fun _ h9 => h9) hx_11 dX10_restore_10 ?_
      refine lv_iload_n hx hb dX10_restore_13 rfl (lv_at hl 1 rfl) ?_
      obtain ⟨j_3, hj_3, ej_3⟩ := px_split (x := p0) (n := 1) (by decide) (by simp only [Int32.lt_iff_toInt_lt, Int32.le_iff_toInt_le, ← Int32.toInt_inj] at c_1 c_2; have e0 : (0 : Int32).toInt = 0 := rfl; have e1 : (2 : Int32).toInt = 2 := rfl; omega) (by simp only [Int32.lt_iff_toInt_lt, Int32.le_iff_toInt_le, ← Int32.toInt_inj] at c_1 c_2; have e0 : (0 : Int32).toInt = 0 := rfl; have e1 : (2 : Int32).toInt = 2 := rfl; omega)
      rcases (show j_3 = 0 ∨ j_3 = 1 by omega) with rfl | rfl
      · obtain rfl : p0 = 0 := ej_3
        refine va_aldq hx hb hK hP 1 4 rfl rfl (i := 0) (px_in (by decide)) dX10_restore_14 ?_
        refine lv_ifnullN (tgt := 27) hx hb dX10_restore_15 (by decide) ?_
        refine lv_iconst (v := 0) hx hb dX10_restore_27 (by decide) ?_
        exact W.zret (v := 0) hx hb hr (by decide) (fun t ht hW => ⟨_, rfl, rfl, ht⟩) (fun q h => by cases h) dX10_restore_28
      · obtain rfl : p0 = 1 := ej_3
        refine va_aldq hx hb hK hP 1 4 rfl rfl (i := 1) (px_in (by decide)) dX10_restore_14 ?_
        refine lv_ifnullN (tgt := 27) hx hb dX10_restore_15 (by decide) ?_
        refine lv_iconst (v := 0) hx hb dX10_restore_27 (by decide) ?_
        exact W.zret (v := 0) hx hb hr (by decide) (fun t ht hW => ⟨_, rfl, rfl, ht⟩) (fun q h => by cases h) dX10_restore_28

set_option maxHeartbeats 4000000 in
set_option maxRecDepth 100000 in
theorem c_X10_asked (l : Launch) (D : va_G) (y : Nat → ClassId) (sz : Nat) (x : Nat) (fx : List Value) (la : Nat) (fla : Nat → Int32) (p0 : Int32) (hx_13 : fx[13]? = some (.ref la)) (hla_e0 : fla 0 = (-1)) (hla_e1 : fla 1 = (-1)) (hla_e2 : fla 2 = (-1)) (hla_e3 : fla 3 = (-1)) (hla_e4 : fla 4 = (-1)) (hla_e5 : fla 5 = (-1)) (hla_e6 : fla 6 = (-1)) (hla_e7 : fla 7 = (-1)) : Met l yX10_asked (px_w yX10_asked cX10_asked 2 (some .int)) ({ frames := 0, cells := 0, slots := 0, locals := 0 }) (va_Pc [.ref x, .int p0] (px_P D y sz [(x, .inr (10, fx)), (la, .inl (y 1, 8, .inl fla))])) (vp_Si (fun r : Int32 => r = (-1))) 0 0 (fun _ => False) := by
  refine Met.ofW (cc := cX10_asked) (maxL := 2) (ret := (some .int)) (by decide) rfl ?_
  intro p e s m args below meth c s₁ B hml hv
  obtain ⟨rfl, hsz, hP, hK, hD0⟩ := hv
  have hx := B.exec
  have hb := B.bytes
  have hr := B.returns
  have hts := atoms_spec (ws := px_w yX10_asked cX10_asked 2 (some .int)) B.pre
  have hg : ∀ w ∈ gw, w.before [.ref x, .int p0].toArray s = true := fun w h => hts w (List.mem_cons_of_mem _ h)
  have hown : s.vm.findClass RX10 = some m.cls := findClass_of_methodNamed B.named
  have hlocks := B.notSynchronized
  subst hsz
  have hD := hD0
  have hP : va_P D vwCl [(x, .inr (10, fx)), (la, .inl (y 1, 8, .inl fla))] s.heap := hP
  have hl := lv_entry ([.ref x, .int p0]) (n := 2) (Nat.le_of_ble_eq_true rfl)
  rw [lg_entry_eq]
  generalize (lg_sl ([.ref x, .int p0]) ++ List.replicate (2 - (lg_sl ([.ref x, .int p0])).length) Slot.unset).toArray = ls at hl ⊢
  have hl : lv_has ls 2 [(0, .ref x), (1, .int p0)] := hl
  refine lv_iload_n hx hb dX10_asked_0 rfl (lv_at hl 1 rfl) ?_
  refine lv_if_lt (tgt := 19) hx hb dX10_asked_1 (by decide) (fun c_1 => ?_) (fun c_1 => ?_)
  · refine lv_iconst (v := (-1)) hx hb dX10_asked_19 (by decide) ?_
    exact W.iret (v := (-1)) hx hb hr (fun t ht hW => ⟨_, rfl, rfl, ht⟩) (fun q h => by cases h) dX10_asked_20
  · refine lv_iload_n hx hb dX10_asked_4 rfl (lv_at hl 1 rfl) ?_
    refine lv_bipush (v := 8) hx hb dX10_asked_5 (by decide) ?_
    refine lv_icmp_ge (tgt := 19) hx hb dX10_asked_7 (by decide) (fun c_2 => ?_) (fun c_2 => ?_)
    · refine lv_iconst (v := (-1)) hx hb dX10_asked_19 (by decide) ?_
      exact W.iret (v := (-1)) hx hb hr (fun t ht hW => ⟨_, rfl, rfl, ht⟩) (fun q h => by cases h) dX10_asked_20
    · refine lv_aload_n hx hb dX10_asked_10 rfl (lv_at hl 0 rfl) ?_
      refine va_get (D := D) (ci := 10) (v := .ref la) (C := RX10) (T := TX10) (N := 20) hx hb hg inGX10 hown hK hP 0 rfl rfl 13 (by decide) (hg _ q_2_116) (fun _ h9 => h9) hx_13 dX10_asked_11 ?_
      refine lv_iload_n hx hb dX10_asked_14 rfl (lv_at hl 1 rfl) ?_
      obtain ⟨j_3, hj_3, ej_3⟩ := px_split (x := p0) (n := 7) (by decide) (by simp only [Int32.lt_iff_toInt_lt, Int32.le_iff_toInt_le, ← Int32.toInt_inj] at c_1 c_2; have e0 : (0 : Int32).toInt = 0 := rfl; have e1 : (8 : Int32).toInt = 8 := rfl; omega) (by simp only [Int32.lt_iff_toInt_lt, Int32.le_iff_toInt_le, ← Int32.toInt_inj] at c_1 c_2; have e0 : (0 : Int32).toInt = 0 := rfl; have e1 : (8 : Int32).toInt = 8 := rfl; omega)
      rcases (show j_3 = 0 ∨ j_3 = 1 ∨ j_3 = 2 ∨ j_3 = 3 ∨ j_3 = 4 ∨ j_3 = 5 ∨ j_3 = 6 ∨ j_3 = 7 by omega) with rfl | rfl | rfl | rfl | rfl | rfl | rfl | rfl
      · obtain rfl : p0 = 0 := ej_3
        refine va_iald hx hb hK hP 1 1 rfl rfl (i := 0) (px_in (by decide)) dX10_asked_15 ?_
        refine px_top (v := (-1)) hla_e0 ?_
        refine lv_goto (tgt := 20) hx hb dX10_asked_16 (by decide) ?_
        exact W.iret (v := (-1)) hx hb hr (fun t ht hW => ⟨_, rfl, rfl, ht⟩) (fun q h => by cases h) dX10_asked_20
      · obtain rfl : p0 = 1 := ej_3
        refine va_iald hx hb hK hP 1 1 rfl rfl (i := 1) (px_in (by decide)) dX10_asked_15 ?_
        refine px_top (v := (-1)) hla_e1 ?_
        refine lv_goto (tgt := 20) hx hb dX10_asked_16 (by decide) ?_
        exact W.iret (v := (-1)) hx hb hr (fun t ht hW => ⟨_, rfl, rfl, ht⟩) (fun q h => by cases h) dX10_asked_20
      · obtain rfl : p0 = 2 := ej_3
        refine va_iald hx hb hK hP 1 1 rfl rfl (i := 2) (px_in (by decide)) dX10_asked_15 ?_
        refine px_top (v := (-1)) hla_e2 ?_
        refine lv_goto (tgt := 20) hx hb dX10_asked_16 (by decide) ?_
        exact W.iret (v := (-1)) hx hb hr (fun t ht hW => ⟨_, rfl, rfl, ht⟩) (fun q h => by cases h) dX10_asked_20
      · obtain rfl : p0 = 3 := ej_3
        refine va_iald hx hb hK hP 1 1 rfl rfl (i := 3) (px_in (by decide)) dX10_asked_15 ?_
        refine px_top (v := (-1)) hla_e3 ?_
        refine lv_goto (tgt := 20) hx hb dX10_asked_16 (by decide) ?_
        exact W.iret (v := (-1)) hx hb hr (fun t ht hW => ⟨_, rfl, rfl, ht⟩) (fun q h => by cases h) dX10_asked_20
      · obtain rfl : p0 = 4 := ej_3
        refine va_iald hx hb hK hP 1 1 rfl rfl (i := 4) (px_in (by decide)) dX10_asked_15 ?_
        refine px_top (v := (-1)) hla_e4 ?_
        refine lv_goto (tgt := 20) hx hb dX10_asked_16 (by decide) ?_
        exact W.iret (v := (-1)) hx hb hr (fun t ht hW => ⟨_, rfl, rfl, ht⟩) (fun q h => by cases h) dX10_asked_20
      · obtain rfl : p0 = 5 := ej_3
        refine va_iald hx hb hK hP 1 1 rfl rfl (i := 5) (px_in (by decide)) dX10_asked_15 ?_
        refine px_top (v := (-1)) hla_e5 ?_
        refine lv_goto (tgt := 20) hx hb dX10_asked_16 (by decide) ?_
        exact W.iret (v := (-1)) hx hb hr (fun t ht hW => ⟨_, rfl, rfl, ht⟩) (fun q h => by cases h) dX10_asked_20
      · obtain rfl : p0 = 6 := ej_3
        refine va_iald hx hb hK hP 1 1 rfl rfl (i := 6) (px_in (by decide)) dX10_asked_15 ?_
        refine px_top (v := (-1)) hla_e6 ?_
        refine lv_goto (tgt := 20) hx hb dX10_asked_16 (by decide) ?_
        exact W.iret (v := (-1)) hx hb hr (fun t ht hW => ⟨_, rfl, rfl, ht⟩) (fun q h => by cases h) dX10_asked_20
      · obtain rfl : p0 = 7 := ej_3
        refine va_iald hx hb hK hP 1 1 rfl rfl (i := 7) (px_in (by decide)) dX10_asked_15 ?_
        refine px_top (v := (-1)) hla_e7 ?_
        refine lv_goto (tgt := 20) hx hb dX10_asked_16 (by decide) ?_
        exact W.iret (v := (-1)) hx hb hr (fun t ht hW => ⟨_, rfl, rfl, ht⟩) (fun q h => by cases h) dX10_asked_20

set_option maxHeartbeats 4000000 in
set_option maxRecDepth 100000 in
theorem c_X10_heard (l : Launch) (D : va_G) (y : Nat → ClassId) (sz : Nat) (x : Nat) (fx : List Value) (ve : Nat) (fve : Nat → Int32) (p0 : Int32) (hx_15 : fx[15]? = some (.ref ve)) (hve_e0 : fve 0 = (-1)) (hve_e1 : fve 1 = (-1)) (hve_e2 : fve 2 = (-1)) (hve_e3 : fve 3 = (-1)) : Met l yX10_heard (px_w yX10_heard cX10_heard 2 (some .int)) ({ frames := 0, cells := 0, slots := 0, locals := 0 }) (va_Pc [.ref x, .int p0] (px_P D y sz [(x, .inr (10, fx)), (ve, .inl (y 1, 4, .inl fve))])) (vp_Si (fun r : Int32 => r = (-1))) 0 0 (fun _ => False) := by
  refine Met.ofW (cc := cX10_heard) (maxL := 2) (ret := (some .int)) (by decide) rfl ?_
  intro p e s m args below meth c s₁ B hml hv
  obtain ⟨rfl, hsz, hP, hK, hD0⟩ := hv
  have hx := B.exec
  have hb := B.bytes
  have hr := B.returns
  have hts := atoms_spec (ws := px_w yX10_heard cX10_heard 2 (some .int)) B.pre
  have hg : ∀ w ∈ gw, w.before [.ref x, .int p0].toArray s = true := fun w h => hts w (List.mem_cons_of_mem _ h)
  have hown : s.vm.findClass RX10 = some m.cls := findClass_of_methodNamed B.named
  have hlocks := B.notSynchronized
  subst hsz
  have hD := hD0
  have hP : va_P D vwCl [(x, .inr (10, fx)), (ve, .inl (y 1, 4, .inl fve))] s.heap := hP
  have hl := lv_entry ([.ref x, .int p0]) (n := 2) (Nat.le_of_ble_eq_true rfl)
  rw [lg_entry_eq]
  generalize (lg_sl ([.ref x, .int p0]) ++ List.replicate (2 - (lg_sl ([.ref x, .int p0])).length) Slot.unset).toArray = ls at hl ⊢
  have hl : lv_has ls 2 [(0, .ref x), (1, .int p0)] := hl
  refine lv_iload_n hx hb dX10_heard_0 rfl (lv_at hl 1 rfl) ?_
  refine lv_if_lt (tgt := 22) hx hb dX10_heard_1 (by decide) (fun c_1 => ?_) (fun c_1 => ?_)
  · refine lv_iconst (v := (-1)) hx hb dX10_heard_22 (by decide) ?_
    exact W.iret (v := (-1)) hx hb hr (fun t ht hW => ⟨_, rfl, rfl, ht⟩) (fun q h => by cases h) dX10_heard_23
  · refine lv_iload_n hx hb dX10_heard_4 rfl (lv_at hl 1 rfl) ?_
    refine lv_aload_n hx hb dX10_heard_5 rfl (lv_at hl 0 rfl) ?_
    refine va_get (D := D) (ci := 10) (v := .ref ve) (C := RX10) (T := TX10) (N := 20) hx hb hg inGX10 hown hK hP 0 rfl rfl 15 (by decide) (hg _ q_2_118) (fun _ h9 => h9) hx_15 dX10_heard_6 ?_
    refine va_alen (v := 4) hx hb hK hP 1 1 rfl rfl rfl dX10_heard_9 ?_
    refine lv_icmp_ge (tgt := 22) hx hb dX10_heard_10 (by decide) (fun c_2 => ?_) (fun c_2 => ?_)
    · refine lv_iconst (v := (-1)) hx hb dX10_heard_22 (by decide) ?_
      exact W.iret (v := (-1)) hx hb hr (fun t ht hW => ⟨_, rfl, rfl, ht⟩) (fun q h => by cases h) dX10_heard_23
    · refine lv_aload_n hx hb dX10_heard_13 rfl (lv_at hl 0 rfl) ?_
      refine va_get (D := D) (ci := 10) (v := .ref ve) (C := RX10) (T := TX10) (N := 20) hx hb hg inGX10 hown hK hP 0 rfl rfl 15 (by decide) (hg _ q_2_118) (fun _ h9 => h9) hx_15 dX10_heard_14 ?_
      refine lv_iload_n hx hb dX10_heard_17 rfl (lv_at hl 1 rfl) ?_
      obtain ⟨j_3, hj_3, ej_3⟩ := px_split (x := p0) (n := 3) (by decide) (by simp only [Int32.lt_iff_toInt_lt, Int32.le_iff_toInt_le, ← Int32.toInt_inj] at c_1 c_2; have e0 : (0 : Int32).toInt = 0 := rfl; have e1 : (4 : Int32).toInt = 4 := rfl; omega) (by simp only [Int32.lt_iff_toInt_lt, Int32.le_iff_toInt_le, ← Int32.toInt_inj] at c_1 c_2; have e0 : (0 : Int32).toInt = 0 := rfl; have e1 : (4 : Int32).toInt = 4 := rfl; omega)
      rcases (show j_3 = 0 ∨ j_3 = 1 ∨ j_3 = 2 ∨ j_3 = 3 by omega) with rfl | rfl | rfl | rfl
      · obtain rfl : p0 = 0 := ej_3
        refine va_iald hx hb hK hP 1 1 rfl rfl (i := 0) (px_in (by decide)) dX10_heard_18 ?_
        refine px_top (v := (-1)) hve_e0 ?_
        refine lv_goto (tgt := 23) hx hb dX10_heard_19 (by decide) ?_
        exact W.iret (v := (-1)) hx hb hr (fun t ht hW => ⟨_, rfl, rfl, ht⟩) (fun q h => by cases h) dX10_heard_23
      · obtain rfl : p0 = 1 := ej_3
        refine va_iald hx hb hK hP 1 1 rfl rfl (i := 1) (px_in (by decide)) dX10_heard_18 ?_
        refine px_top (v := (-1)) hve_e1 ?_
        refine lv_goto (tgt := 23) hx hb dX10_heard_19 (by decide) ?_
        exact W.iret (v := (-1)) hx hb hr (fun t ht hW => ⟨_, rfl, rfl, ht⟩) (fun q h => by cases h) dX10_heard_23
      · obtain rfl : p0 = 2 := ej_3
        refine va_iald hx hb hK hP 1 1 rfl rfl (i := 2) (px_in (by decide)) dX10_heard_18 ?_
        refine px_top (v := (-1)) hve_e2 ?_
        refine lv_goto (tgt := 23) hx hb dX10_heard_19 (by decide) ?_
        exact W.iret (v := (-1)) hx hb hr (fun t ht hW => ⟨_, rfl, rfl, ht⟩) (fun q h => by cases h) dX10_heard_23
      · obtain rfl : p0 = 3 := ej_3
        refine va_iald hx hb hK hP 1 1 rfl rfl (i := 3) (px_in (by decide)) dX10_heard_18 ?_
        refine px_top (v := (-1)) hve_e3 ?_
        refine lv_goto (tgt := 23) hx hb dX10_heard_19 (by decide) ?_
        exact W.iret (v := (-1)) hx hb hr (fun t ht hW => ⟨_, rfl, rfl, ht⟩) (fun q h => by cases h) dX10_heard_23

set_option maxHeartbeats 4000000 in
set_option maxRecDepth 100000 in
theorem c_X2_booksOf (l : Launch) (D : va_G) (y : Nat → ClassId) (sz : Nat) (g : Nat) (fg : List Value) (p0 : Int32) (hg_0 : fg[0]? = some (.int 0)) : Met l yX2_booksOf (px_w yX2_booksOf cX2_booksOf 4 (some .int)) ({ frames := 0, cells := 0, slots := 0, locals := 0 }) (va_Pc [.ref g, .int p0] (px_P D y sz [(g, .inr (2, fg))])) (vp_Si (fun r : Int32 => r = 0)) 0 0 (fun _ => False) := by
  refine Met.ofW (cc := cX2_booksOf) (maxL := 4) (ret := (some .int)) (by decide) rfl ?_
  intro p e s m args below meth c s₁ B hml hv
  obtain ⟨rfl, hsz, hP, hK, hD0⟩ := hv
  have hx := B.exec
  have hb := B.bytes
  have hr := B.returns
  have hts := atoms_spec (ws := px_w yX2_booksOf cX2_booksOf 4 (some .int)) B.pre
  have hg : ∀ w ∈ gw, w.before [.ref g, .int p0].toArray s = true := fun w h => hts w (List.mem_cons_of_mem _ h)
  have hown : s.vm.findClass RX2 = some m.cls := findClass_of_methodNamed B.named
  have hlocks := B.notSynchronized
  subst hsz
  have hD := hD0
  have hP : va_P D vwCl [(g, .inr (2, fg))] s.heap := hP
  have hl := lv_entry ([.ref g, .int p0]) (n := 4) (Nat.le_of_ble_eq_true rfl)
  rw [lg_entry_eq]
  generalize (lg_sl ([.ref g, .int p0]) ++ List.replicate (4 - (lg_sl ([.ref g, .int p0])).length) Slot.unset).toArray = ls at hl ⊢
  have hl : lv_has ls 4 [(0, .ref g), (1, .int p0)] := hl
  refine lv_iconst (v := 0) hx hb dX2_booksOf_0 (by decide) ?_
  refine lv_istore_n (lv' := [(2, .int 0), (0, .ref g), (1, .int p0)]) hx hb dX2_booksOf_1 rfl hl (by decide) rfl (fun ls hl => ?_)
  refine lv_iconst (v := 0) hx hb dX2_booksOf_2 (by decide) ?_
  refine lv_istore_n (lv' := [(3, .int 0), (2, .int 0), (0, .ref g), (1, .int p0)]) hx hb dX2_booksOf_3 rfl hl (by decide) rfl (fun ls hl => ?_)
  refine lv_iload_n hx hb dX2_booksOf_4 rfl (lv_at hl 0 rfl) ?_
  refine lv_aload_n hx hb dX2_booksOf_5 rfl (lv_at hl 2 rfl) ?_
  refine va_get (D := D) (ci := 2) (v := .int 0) (C := RX2) (T := TX2) (N := 18) hx hb hg inGX2 hown hK hP 0 rfl rfl 0 (by decide) (hg _ q_1_64) (fun _ h9 => h9) hg_0 dX2_booksOf_6 ?_
  refine lv_icmp_ge (tgt := 31) hx hb dX2_booksOf_9 (by decide) (fun _ => ?_) (fun c_1 => absurd c_1 (by decide))
  refine lv_iload_n hx hb dX2_booksOf_31 rfl (lv_at hl 1 rfl) ?_
  exact W.iret (v := 0) hx hb hr (fun t ht hW => ⟨_, rfl, rfl, ht⟩) (fun q h => by cases h) dX2_booksOf_32

set_option maxHeartbeats 4000000 in
set_option maxRecDepth 100000 in
theorem c_X2_allBooks (l : Launch) (D : va_G) (y : Nat → ClassId) (sz : Nat) (g : Nat) (fg : List Value) (hg_0 : fg[0]? = some (.int 0)) : Met l yX2_allBooks (px_w yX2_allBooks cX2_allBooks 1 (some .int)) ({ frames := 1, cells := 0, slots := 0, locals := 23 }) (va_Pc [.ref g] (px_P D y sz [(g, .inr (2, fg))])) (vp_Si (fun r : Int32 => r = 0)) 0 0 (fun _ => False) := by
  refine Met.ofW (cc := cX2_allBooks) (maxL := 1) (ret := (some .int)) (by decide) rfl ?_
  intro p e s m args below meth c s₁ B hml hv
  obtain ⟨rfl, hsz, hP, hK, hD0⟩ := hv
  have hx := B.exec
  have hb := B.bytes
  have hr := B.returns
  have hts := atoms_spec (ws := px_w yX2_allBooks cX2_allBooks 1 (some .int)) B.pre
  have hg : ∀ w ∈ gw, w.before [.ref g].toArray s = true := fun w h => hts w (List.mem_cons_of_mem _ h)
  have hown : s.vm.findClass RX2 = some m.cls := findClass_of_methodNamed B.named
  have hlocks := B.notSynchronized
  subst hsz
  have hD := hD0
  have hP : va_P D vwCl [(g, .inr (2, fg))] s.heap := hP
  have hl := lv_entry ([.ref g]) (n := 1) (Nat.le_of_ble_eq_true rfl)
  rw [lg_entry_eq]
  generalize (lg_sl ([.ref g]) ++ List.replicate (1 - (lg_sl ([.ref g])).length) Slot.unset).toArray = ls at hl ⊢
  have hl : lv_has ls 1 [(0, .ref g)] := hl
  refine lv_aload_n hx hb dX2_allBooks_0 rfl (lv_at hl 0 rfl) ?_
  refine va_get (D := D) (ci := 2) (v := .int 0) (C := RX2) (T := TX2) (N := 18) hx hb hg inGX2 hown hK hP 0 rfl rfl 0 (by decide) (hg _ q_1_64) (fun _ h9 => h9) hg_0 dX2_allBooks_1 ?_
  refine lv_aload_n hx hb dX2_allBooks_4 rfl (lv_at hl 0 rfl) ?_
  refine lv_iconst (v := (-1)) hx hb dX2_allBooks_5 (by decide) ?_
  have hPc_1 := hP.sub (ws' := [(g, .inr (2, fg))]) [0] rfl
  have hDc_1 := hD.sub (ws' := [(g, .inr (2, fg))]) [0] (by decide +kernel) rfl
  refine vp_callSi (va_Run.run (va_runV (As := [.int (-1)]) (rest := [.int 0]) ⟨hx, hb, hml, hown, hg⟩ (c_X2_booksOf l D y s.heap.size g fg (-1) hg_0) (cwV 1 hg (px_gV q_3_155 q_3_120 q_3_121 q_1_2 q_3_122) rfl rfl rfl (by decide +kernel) ⟨Nat.le_of_ble_eq_true rfl, Nat.le_of_ble_eq_true rfl⟩) (px_preV hK hPc_1 hDc_1 (ci := 2) (q0 := 0) rfl rfl) rfl rfl hl.1 rfl (lv_room (Nat.le_of_ble_eq_true rfl)) dX2_allBooks_6 ⟨Nat.le_of_ble_eq_true rfl, Nat.le_of_ble_eq_true rfl⟩)) (fun r_1 hw_1 => ?_)
  obtain rfl : r_1 = 0 := hw_1
  refine lv_isub hx hb dX2_allBooks_9 ?_
  refine px_top (v := 0) (by decide) ?_
  exact W.iret (v := 0) hx hb hr (fun t ht hW => ⟨_, rfl, rfl, ht⟩) (fun q h => by cases h) dX2_allBooks_10

set_option maxHeartbeats 4000000 in
set_option maxRecDepth 100000 in
theorem c_X2_loose (l : Launch) (D : va_G) (y : Nat → ClassId) (sz : Nat) (g : Nat) (fg : List Value) (hg_1 : fg[1]? = some (.int 0)) (hg_8 : fg[8]? = some (.int 0)) (hg_9 : fg[9]? = some (.int 0)) : Met l yX2_loose (px_w yX2_loose cX2_loose 3 (some .int)) ({ frames := 1, cells := 0, slots := 0, locals := 20 }) (va_Pc [.ref g] (px_P D y sz [(g, .inr (2, fg))])) (vp_Si (fun r : Int32 => r = 0)) 0 0 (fun _ => False) := by
  refine Met.ofW (cc := cX2_loose) (maxL := 3) (ret := (some .int)) (by decide) rfl ?_
  intro p e s m args below meth c s₁ B hml hv
  obtain ⟨rfl, hsz, hP, hK, hD0⟩ := hv
  have hx := B.exec
  have hb := B.bytes
  have hr := B.returns
  have hts := atoms_spec (ws := px_w yX2_loose cX2_loose 3 (some .int)) B.pre
  have hg : ∀ w ∈ gw, w.before [.ref g].toArray s = true := fun w h => hts w (List.mem_cons_of_mem _ h)
  have hown : s.vm.findClass RX2 = some m.cls := findClass_of_methodNamed B.named
  have hlocks := B.notSynchronized
  subst hsz
  have hD := hD0
  have hP : va_P D vwCl [(g, .inr (2, fg))] s.heap := hP
  have hl := lv_entry ([.ref g]) (n := 3) (Nat.le_of_ble_eq_true rfl)
  rw [lg_entry_eq]
  generalize (lg_sl ([.ref g]) ++ List.replicate (3 - (lg_sl ([.ref g])).length) Slot.unset).toArray = ls at hl ⊢
  have hl : lv_has ls 3 [(0, .ref g)] := hl
  refine lv_aload_n hx hb dX2_loose_0 rfl (lv_at hl 0 rfl) ?_
  have hPc_1 := hP.sub (ws' := [(g, .inr (2, fg))]) [0] rfl
  have hDc_1 := hD.sub (ws' := [(g, .inr (2, fg))]) [0] (by decide +kernel) rfl
  refine vp_callSi (va_Run.run (va_runV (As := []) (rest := []) ⟨hx, hb, hml, hown, hg⟩ (c_X2_heapSize l D y s.heap.size g fg hg_8 hg_9) (cwV 0 hg (px_gV q_3_160 q_3_144 q_3_145 q_1_2 q_3_146) rfl rfl rfl (by decide +kernel) ⟨Nat.le_of_ble_eq_true rfl, Nat.le_of_ble_eq_true rfl⟩) (px_preV hK hPc_1 hDc_1 (ci := 2) (q0 := 0) rfl rfl) rfl rfl hl.1 rfl (lv_room (Nat.le_of_ble_eq_true rfl)) dX2_loose_1 ⟨Nat.le_of_ble_eq_true rfl, Nat.le_of_ble_eq_true rfl⟩)) (fun r_1 hw_1 => ?_)
  obtain rfl : r_1 = 0 := hw_1
  refine lv_istore_n (lv' := [(1, .int 0), (0, .ref g)]) hx hb dX2_loose_4 rfl hl (by decide) rfl (fun ls hl => ?_)
  refine lv_iconst (v := 0) hx hb dX2_loose_5 (by decide) ?_
  refine lv_istore_n (lv' := [(2, .int 0), (1, .int 0), (0, .ref g)]) hx hb dX2_loose_6 rfl hl (by decide) rfl (fun ls hl => ?_)
  refine lv_iload_n hx hb dX2_loose_7 rfl (lv_at hl 0 rfl) ?_
  refine lv_aload_n hx hb dX2_loose_8 rfl (lv_at hl 2 rfl) ?_
  refine va_get (D := D) (ci := 2) (v := .int 0) (C := RX2) (T := TX2) (N := 18) hx hb hg inGX2 hown hK hP 0 rfl rfl 1 (by decide) (hg _ q_1_70) (fun _ h9 => h9) hg_1 dX2_loose_9 ?_
  refine lv_icmp_ge (tgt := 30) hx hb dX2_loose_12 (by decide) (fun _ => ?_) (fun c_2 => absurd c_2 (by decide))
  refine lv_iload_n hx hb dX2_loose_30 rfl (lv_at hl 1 rfl) ?_
  exact W.iret (v := 0) hx hb hr (fun t ht hW => ⟨_, rfl, rfl, ht⟩) (fun q h => by cases h) dX2_loose_31

set_option maxHeartbeats 4000000 in
set_option maxRecDepth 100000 in
theorem c_X10_now (l : Launch) (D : va_G) (y : Nat → ClassId) (sz : Nat) (x : Nat) (fx : List Value) (g : Nat) (fg : List Value) (p0 : Int32) (hx_3 : fx[3]? = some (.ref g)) (hg_0 : fg[0]? = some (.int 0)) (hg_1 : fg[1]? = some (.int 0)) (hg_8 : fg[8]? = some (.int 0)) (hg_9 : fg[9]? = some (.int 0)) (hg_14 : fg[14]? = some (.int (-1))) (hg_15 : fg[15]? = some (.int 0)) (hg_16 : fg[16]? = some (.int 0)) : Met l yX10_now (px_w yX10_now cX10_now 2 (some .int)) ({ frames := 2, cells := 0, slots := 0, locals := 43 }) (va_Pc [.ref x, .int p0] (px_P D y sz [(x, .inr (10, fx)), (g, .inr (2, fg))])) (vp_Si (fun r : Int32 => r = px_now p0)) 0 0 (fun _ => False) := by
  refine Met.ofW (cc := cX10_now) (maxL := 2) (ret := (some .int)) (by decide) rfl ?_
  intro p e s m args below meth c s₁ B hml hv
  obtain ⟨rfl, hsz, hP, hK, hD0⟩ := hv
  have hx := B.exec
  have hb := B.bytes
  have hr := B.returns
  have hts := atoms_spec (ws := px_w yX10_now cX10_now 2 (some .int)) B.pre
  have hg : ∀ w ∈ gw, w.before [.ref x, .int p0].toArray s = true := fun w h => hts w (List.mem_cons_of_mem _ h)
  have hown : s.vm.findClass RX10 = some m.cls := findClass_of_methodNamed B.named
  have hlocks := B.notSynchronized
  subst hsz
  have hD := hD0
  have hP : va_P D vwCl [(x, .inr (10, fx)), (g, .inr (2, fg))] s.heap := hP
  have hl := lv_entry ([.ref x, .int p0]) (n := 2) (Nat.le_of_ble_eq_true rfl)
  rw [lg_entry_eq]
  generalize (lg_sl ([.ref x, .int p0]) ++ List.replicate (2 - (lg_sl ([.ref x, .int p0])).length) Slot.unset).toArray = ls at hl ⊢
  have hl : lv_has ls 2 [(0, .ref x), (1, .int p0)] := hl
  refine lv_iload_n hx hb dX10_now_0 rfl (lv_at hl 1 rfl) ?_
  rcases pk_ix p0 (n := 6) (by decide) with h_1 | h_1 | ⟨j_h_1, hh_1, h_1⟩
  · refine lv_tableOut (tgt := 88) hx hb dX10_now_1 (Or.inl (Int32.lt_iff_toInt_lt.mp h_1)) (by decide) ?_
    refine lv_iconst (v := (-1)) hx hb dX10_now_88 (by decide) ?_
    exact W.iret (v := (-1)) hx hb hr (fun t ht hW => ⟨_, rfl, (by show _ = px_now p0; unfold px_now; simp only [Int32.lt_iff_toInt_lt, Int32.le_iff_toInt_le, ← Int32.toInt_inj] at h_1; have e0 : (0 : Int32).toInt = 0 := rfl; first | (rw [if_pos (by omega)]; done) | (rw [if_neg (by omega)]; done)), ht⟩) (fun q h => by cases h) dX10_now_89
  · refine lv_tableOut (tgt := 88) hx hb dX10_now_1 (Or.inr (Int.lt_of_lt_of_le (by decide : (5 : Int) < (nI 6).toInt) (Int32.le_iff_toInt_le.mp h_1))) (by decide) ?_
    have h_1 : (6 : Int32) ≤ p0 := h_1
    refine lv_iconst (v := (-1)) hx hb dX10_now_88 (by decide) ?_
    exact W.iret (v := (-1)) hx hb hr (fun t ht hW => ⟨_, rfl, (by show _ = px_now p0; unfold px_now; simp only [Int32.lt_iff_toInt_lt, Int32.le_iff_toInt_le, ← Int32.toInt_inj] at h_1; have e0 : (6 : Int32).toInt = 6 := rfl; first | (rw [if_pos (by omega)]; done) | (rw [if_neg (by omega)]; done)), ht⟩) (fun q h => by cases h) dX10_now_89
  · rcases (show j_h_1 = 0 ∨ j_h_1 = 1 ∨ j_h_1 = 2 ∨ j_h_1 = 3 ∨ j_h_1 = 4 ∨ j_h_1 = 5 by omega) with rfl | rfl | rfl | rfl | rfl | rfl
    · obtain rfl : p0 = 0 := h_1
      refine lv_tableIn (off := 39) (tgt := 40) hx hb dX10_now_1 (by decide) (by decide) (by decide) (by decide) ?_
      refine lv_aload_n hx hb dX10_now_40 rfl (lv_at hl 0 rfl) ?_
      refine va_get (D := D) (ci := 10) (v := .ref g) (C := RX10) (T := TX10) (N := 20) hx hb hg inGX10 hown hK hP 0 rfl rfl 3 (by decide) (hg _ q_2_106) (fun _ h9 => h9) hx_3 dX10_now_41 ?_
      refine va_get (D := D) (ci := 2) (v := .int (-1)) (C := RX2) (T := TX2) (N := 18) hx hb hg inGX2 hown hK hP 1 rfl rfl 14 (by decide) (hg _ q_1_104) (fun _ h9 => h9) hg_14 dX10_now_44 ?_
      exact W.iret (v := (-1)) hx hb hr (fun t ht hW => ⟨_, rfl, (by decide), ht⟩) (fun q h => by cases h) dX10_now_47
    · obtain rfl : p0 = 1 := h_1
      refine lv_tableIn (off := 47) (tgt := 48) hx hb dX10_now_1 (by decide) (by decide) (by decide) (by decide) ?_
      refine lv_aload_n hx hb dX10_now_48 rfl (lv_at hl 0 rfl) ?_
      refine va_get (D := D) (ci := 10) (v := .ref g) (C := RX10) (T := TX10) (N := 20) hx hb hg inGX10 hown hK hP 0 rfl rfl 3 (by decide) (hg _ q_2_106) (fun _ h9 => h9) hx_3 dX10_now_49 ?_
      have hPc_2 := hP.sub (ws' := [(g, .inr (2, fg))]) [1] rfl
      have hDc_2 := hD.sub (ws' := [(g, .inr (2, fg))]) [1] (by decide +kernel) rfl
      refine vp_callSi (va_Run.run (va_runV (As := []) (rest := []) ⟨hx, hb, hml, hown, hg⟩ (c_X2_heapSize l D y s.heap.size g fg hg_8 hg_9) (cwV 0 hg (px_gV q_3_143 q_3_144 q_3_145 q_1_2 q_3_146) rfl rfl rfl (by decide +kernel) ⟨Nat.le_of_ble_eq_true rfl, Nat.le_of_ble_eq_true rfl⟩) (px_preV hK hPc_2 hDc_2 (ci := 2) (q0 := 0) rfl rfl) rfl rfl hl.1 rfl (lv_room (Nat.le_of_ble_eq_true rfl)) dX10_now_52 ⟨Nat.le_of_ble_eq_true rfl, Nat.le_of_ble_eq_true rfl⟩)) (fun r_2 hw_2 => ?_)
      obtain rfl : r_2 = 0 := hw_2
      exact W.iret (v := 0) hx hb hr (fun t ht hW => ⟨_, rfl, (by decide), ht⟩) (fun q h => by cases h) dX10_now_55
    · obtain rfl : p0 = 2 := h_1
      refine lv_tableIn (off := 55) (tgt := 56) hx hb dX10_now_1 (by decide) (by decide) (by decide) (by decide) ?_
      refine lv_aload_n hx hb dX10_now_56 rfl (lv_at hl 0 rfl) ?_
      refine va_get (D := D) (ci := 10) (v := .ref g) (C := RX10) (T := TX10) (N := 20) hx hb hg inGX10 hown hK hP 0 rfl rfl 3 (by decide) (hg _ q_2_106) (fun _ h9 => h9) hx_3 dX10_now_57 ?_
      refine va_get (D := D) (ci := 2) (v := .int 0) (C := RX2) (T := TX2) (N := 18) hx hb hg inGX2 hown hK hP 1 rfl rfl 15 (by decide) (hg _ q_1_106) (fun _ h9 => h9) hg_15 dX10_now_60 ?_
      exact W.iret (v := 0) hx hb hr (fun t ht hW => ⟨_, rfl, (by decide), ht⟩) (fun q h => by cases h) dX10_now_63
    · obtain rfl : p0 = 3 := h_1
      refine lv_tableIn (off := 63) (tgt := 64) hx hb dX10_now_1 (by decide) (by decide) (by decide) (by decide) ?_
      refine lv_aload_n hx hb dX10_now_64 rfl (lv_at hl 0 rfl) ?_
      refine va_get (D := D) (ci := 10) (v := .ref g) (C := RX10) (T := TX10) (N := 20) hx hb hg inGX10 hown hK hP 0 rfl rfl 3 (by decide) (hg _ q_2_106) (fun _ h9 => h9) hx_3 dX10_now_65 ?_
      have hPc_3 := hP.sub (ws' := [(g, .inr (2, fg))]) [1] rfl
      have hDc_3 := hD.sub (ws' := [(g, .inr (2, fg))]) [1] (by decide +kernel) rfl
      refine vp_callSi (va_Run.run (va_runV (As := []) (rest := []) ⟨hx, hb, hml, hown, hg⟩ (c_X2_allBooks l D y s.heap.size g fg hg_0) (cwV 0 hg (px_gV q_3_151 q_3_152 q_3_153 q_1_2 q_3_154) rfl rfl rfl (by decide +kernel) ⟨Nat.le_of_ble_eq_true rfl, Nat.le_of_ble_eq_true rfl⟩) (px_preV hK hPc_3 hDc_3 (ci := 2) (q0 := 0) rfl rfl) rfl rfl hl.1 rfl (lv_room (Nat.le_of_ble_eq_true rfl)) dX10_now_68 ⟨Nat.le_of_ble_eq_true rfl, Nat.le_of_ble_eq_true rfl⟩)) (fun r_3 hw_3 => ?_)
      obtain rfl : r_3 = 0 := hw_3
      exact W.iret (v := 0) hx hb hr (fun t ht hW => ⟨_, rfl, (by decide), ht⟩) (fun q h => by cases h) dX10_now_71
    · obtain rfl : p0 = 4 := h_1
      refine lv_tableIn (off := 71) (tgt := 72) hx hb dX10_now_1 (by decide) (by decide) (by decide) (by decide) ?_
      refine lv_aload_n hx hb dX10_now_72 rfl (lv_at hl 0 rfl) ?_
      refine va_get (D := D) (ci := 10) (v := .ref g) (C := RX10) (T := TX10) (N := 20) hx hb hg inGX10 hown hK hP 0 rfl rfl 3 (by decide) (hg _ q_2_106) (fun _ h9 => h9) hx_3 dX10_now_73 ?_
      refine va_get (D := D) (ci := 2) (v := .int 0) (C := RX2) (T := TX2) (N := 18) hx hb hg inGX2 hown hK hP 1 rfl rfl 16 (by decide) (hg _ q_1_109) (fun _ h9 => h9) hg_16 dX10_now_76 ?_
      exact W.iret (v := 0) hx hb hr (fun t ht hW => ⟨_, rfl, (by decide), ht⟩) (fun q h => by cases h) dX10_now_79
    · obtain rfl : p0 = 5 := h_1
      refine lv_tableIn (off := 79) (tgt := 80) hx hb dX10_now_1 (by decide) (by decide) (by decide) (by decide) ?_
      refine lv_aload_n hx hb dX10_now_80 rfl (lv_at hl 0 rfl) ?_
      refine va_get (D := D) (ci := 10) (v := .ref g) (C := RX10) (T := TX10) (N := 20) hx hb hg inGX10 hown hK hP 0 rfl rfl 3 (by decide) (hg _ q_2_106) (fun _ h9 => h9) hx_3 dX10_now_81 ?_
      have hPc_4 := hP.sub (ws' := [(g, .inr (2, fg))]) [1] rfl
      have hDc_4 := hD.sub (ws' := [(g, .inr (2, fg))]) [1] (by decide +kernel) rfl
      refine vp_callSi (va_Run.run (va_runV (As := []) (rest := []) ⟨hx, hb, hml, hown, hg⟩ (c_X2_loose l D y s.heap.size g fg hg_1 hg_8 hg_9) (cwV 0 hg (px_gV q_3_156 q_3_157 q_3_158 q_1_2 q_3_159) rfl rfl rfl (by decide +kernel) ⟨Nat.le_of_ble_eq_true rfl, Nat.le_of_ble_eq_true rfl⟩) (px_preV hK hPc_4 hDc_4 (ci := 2) (q0 := 0) rfl rfl) rfl rfl hl.1 rfl (lv_room (Nat.le_of_ble_eq_true rfl)) dX10_now_84 ⟨Nat.le_of_ble_eq_true rfl, Nat.le_of_ble_eq_true rfl⟩)) (fun r_4 hw_4 => ?_)
      obtain rfl : r_4 = 0 := hw_4
      exact W.iret (v := 0) hx hb hr (fun t ht hW => ⟨_, rfl, (by decide), ht⟩) (fun q h => by cases h) dX10_now_87

set_option maxHeartbeats 4000000 in
set_option maxRecDepth 100000 in
theorem c_X10_count (l : Launch) (D : va_G) (y : Nat → ClassId) (sz : Nat) (x : Nat) (fx : List Value) (g : Nat) (fg : List Value) (p0 : Int32) (hx_1 : fx[1]? = some (.int 0)) (hx_3 : fx[3]? = some (.ref g)) (hg_0 : fg[0]? = some (.int 0)) (hg_1 : fg[1]? = some (.int 0)) (hg_2 : fg[2]? = some (.int 0)) (hg_3 : fg[3]? = some (.int 0)) : Met l yX10_count (px_w yX10_count cX10_count 2 (some .int)) ({ frames := 0, cells := 0, slots := 0, locals := 0 }) (va_Pc [.ref x, .int p0] (px_P D y sz [(x, .inr (10, fx)), (g, .inr (2, fg))])) (vp_Si (fun r : Int32 => r = px_cnt p0)) 0 0 (fun _ => False) := by
  refine Met.ofW (cc := cX10_count) (maxL := 2) (ret := (some .int)) (by decide) rfl ?_
  intro p e s m args below meth c s₁ B hml hv
  obtain ⟨rfl, hsz, hP, hK, hD0⟩ := hv
  have hx := B.exec
  have hb := B.bytes
  have hr := B.returns
  have hts := atoms_spec (ws := px_w yX10_count cX10_count 2 (some .int)) B.pre
  have hg : ∀ w ∈ gw, w.before [.ref x, .int p0].toArray s = true := fun w h => hts w (List.mem_cons_of_mem _ h)
  have hown : s.vm.findClass RX10 = some m.cls := findClass_of_methodNamed B.named
  have hlocks := B.notSynchronized
  subst hsz
  have hD := hD0
  have hP : va_P D vwCl [(x, .inr (10, fx)), (g, .inr (2, fg))] s.heap := hP
  have hl := lv_entry ([.ref x, .int p0]) (n := 2) (Nat.le_of_ble_eq_true rfl)
  rw [lg_entry_eq]
  generalize (lg_sl ([.ref x, .int p0]) ++ List.replicate (2 - (lg_sl ([.ref x, .int p0])).length) Slot.unset).toArray = ls at hl ⊢
  have hl : lv_has ls 2 [(0, .ref x), (1, .int p0)] := hl
  refine lv_iload_n hx hb dX10_count_0 rfl (lv_at hl 1 rfl) ?_
  rcases pk_ix p0 (n := 5) (by decide) with h_1 | h_1 | ⟨j_h_1, hh_1, h_1⟩
  · refine lv_tableOut (tgt := 81) hx hb dX10_count_1 (Or.inl (Int32.lt_iff_toInt_lt.mp h_1)) (by decide) ?_
    refine lv_iconst (v := (-1)) hx hb dX10_count_81 (by decide) ?_
    exact W.iret (v := (-1)) hx hb hr (fun t ht hW => ⟨_, rfl, (by show _ = px_cnt p0; unfold px_cnt; simp only [Int32.lt_iff_toInt_lt, Int32.le_iff_toInt_le, ← Int32.toInt_inj] at h_1; have e0 : (0 : Int32).toInt = 0 := rfl; first | (rw [if_pos (by omega)]; done) | (rw [if_neg (by omega)]; done)), ht⟩) (fun q h => by cases h) dX10_count_82
  · refine lv_tableOut (tgt := 81) hx hb dX10_count_1 (Or.inr (Int.lt_of_lt_of_le (by decide : (4 : Int) < (nI 5).toInt) (Int32.le_iff_toInt_le.mp h_1))) (by decide) ?_
    have h_1 : (5 : Int32) ≤ p0 := h_1
    refine lv_iconst (v := (-1)) hx hb dX10_count_81 (by decide) ?_
    exact W.iret (v := (-1)) hx hb hr (fun t ht hW => ⟨_, rfl, (by show _ = px_cnt p0; unfold px_cnt; simp only [Int32.lt_iff_toInt_lt, Int32.le_iff_toInt_le, ← Int32.toInt_inj] at h_1; have e0 : (5 : Int32).toInt = 5 := rfl; first | (rw [if_pos (by omega)]; done) | (rw [if_neg (by omega)]; done)), ht⟩) (fun q h => by cases h) dX10_count_82
  · rcases (show j_h_1 = 0 ∨ j_h_1 = 1 ∨ j_h_1 = 2 ∨ j_h_1 = 3 ∨ j_h_1 = 4 by omega) with rfl | rfl | rfl | rfl | rfl
    · obtain rfl : p0 = 0 := h_1
      refine lv_tableIn (off := 35) (tgt := 36) hx hb dX10_count_1 (by decide) (by decide) (by decide) (by decide) ?_
      refine lv_aload_n hx hb dX10_count_36 rfl (lv_at hl 0 rfl) ?_
      refine va_get (D := D) (ci := 10) (v := .ref g) (C := RX10) (T := TX10) (N := 20) hx hb hg inGX10 hown hK hP 0 rfl rfl 3 (by decide) (hg _ q_2_106) (fun _ h9 => h9) hx_3 dX10_count_37 ?_
      refine va_get (D := D) (ci := 2) (v := .int 0) (C := RX2) (T := TX2) (N := 18) hx hb hg inGX2 hown hK hP 1 rfl rfl 0 (by decide) (hg _ q_1_69) (fun _ h9 => h9) hg_0 dX10_count_40 ?_
      exact W.iret (v := 0) hx hb hr (fun t ht hW => ⟨_, rfl, (by decide), ht⟩) (fun q h => by cases h) dX10_count_43
    · obtain rfl : p0 = 1 := h_1
      refine lv_tableIn (off := 43) (tgt := 44) hx hb dX10_count_1 (by decide) (by decide) (by decide) (by decide) ?_
      refine lv_aload_n hx hb dX10_count_44 rfl (lv_at hl 0 rfl) ?_
      refine va_get (D := D) (ci := 10) (v := .ref g) (C := RX10) (T := TX10) (N := 20) hx hb hg inGX10 hown hK hP 0 rfl rfl 3 (by decide) (hg _ q_2_106) (fun _ h9 => h9) hx_3 dX10_count_45 ?_
      refine va_get (D := D) (ci := 2) (v := .int 0) (C := RX2) (T := TX2) (N := 18) hx hb hg inGX2 hown hK hP 1 rfl rfl 1 (by decide) (hg _ q_1_73) (fun _ h9 => h9) hg_1 dX10_count_48 ?_
      exact W.iret (v := 0) hx hb hr (fun t ht hW => ⟨_, rfl, (by decide), ht⟩) (fun q h => by cases h) dX10_count_51
    · obtain rfl : p0 = 2 := h_1
      refine lv_tableIn (off := 51) (tgt := 52) hx hb dX10_count_1 (by decide) (by decide) (by decide) (by decide) ?_
      refine lv_aload_n hx hb dX10_count_52 rfl (lv_at hl 0 rfl) ?_
      refine va_get (D := D) (ci := 10) (v := .ref g) (C := RX10) (T := TX10) (N := 20) hx hb hg inGX10 hown hK hP 0 rfl rfl 3 (by decide) (hg _ q_2_106) (fun _ h9 => h9) hx_3 dX10_count_53 ?_
      refine va_get (D := D) (ci := 2) (v := .int 0) (C := RX2) (T := TX2) (N := 18) hx hb hg inGX2 hown hK hP 1 rfl rfl 2 (by decide) (hg _ q_1_77) (fun _ h9 => h9) hg_2 dX10_count_56 ?_
      refine lv_if_eq (tgt := 66) hx hb dX10_count_59 (by decide) (fun _ => ?_) (fun c_2 => absurd c_2 (by decide))
      refine lv_iconst (v := 0) hx hb dX10_count_66 (by decide) ?_
      exact W.iret (v := 0) hx hb hr (fun t ht hW => ⟨_, rfl, (by decide), ht⟩) (fun q h => by cases h) dX10_count_67
    · obtain rfl : p0 = 3 := h_1
      refine lv_tableIn (off := 67) (tgt := 68) hx hb dX10_count_1 (by decide) (by decide) (by decide) (by decide) ?_
      refine lv_aload_n hx hb dX10_count_68 rfl (lv_at hl 0 rfl) ?_
      refine va_get (D := D) (ci := 10) (v := .ref g) (C := RX10) (T := TX10) (N := 20) hx hb hg inGX10 hown hK hP 0 rfl rfl 3 (by decide) (hg _ q_2_106) (fun _ h9 => h9) hx_3 dX10_count_69 ?_
      refine va_get (D := D) (ci := 2) (v := .int 0) (C := RX2) (T := TX2) (N := 18) hx hb hg inGX2 hown hK hP 1 rfl rfl 3 (by decide) (hg _ q_1_81) (fun _ h9 => h9) hg_3 dX10_count_72 ?_
      exact W.iret (v := 0) hx hb hr (fun t ht hW => ⟨_, rfl, (by decide), ht⟩) (fun q h => by cases h) dX10_count_75
    · obtain rfl : p0 = 4 := h_1
      refine lv_tableIn (off := 75) (tgt := 76) hx hb dX10_count_1 (by decide) (by decide) (by decide) (by decide) ?_
      refine lv_aload_n hx hb dX10_count_76 rfl (lv_at hl 0 rfl) ?_
      refine va_get (D := D) (ci := 10) (v := .int 0) (C := RX10) (T := TX10) (N := 20) hx hb hg inGX10 hown hK hP 0 rfl rfl 1 (by decide) (hg _ q_2_104) (fun _ h9 => h9) hx_1 dX10_count_77 ?_
      exact W.iret (v := 0) hx hb hr (fun t ht hW => ⟨_, rfl, (by decide), ht⟩) (fun q h => by cases h) dX10_count_80

set_option maxHeartbeats 4000000 in
set_option maxRecDepth 100000 in
theorem c_X10_end (l : Launch) (D : va_G) (y : Nat → ClassId) (sz : Nat) (x : Nat) (fx : List Value) (p0 : Int32) (hx_1 : fx[1]? = some (.int 0)) : Met l yX10_end (px_w yX10_end cX10_end 2 (some .boolean)) ({ frames := 0, cells := 0, slots := 0, locals := 0 }) (va_Pc [.ref x, .int p0] (px_P D y sz [(x, .inr (10, fx))])) (va_Qi (fun (r : Int32) (u : Unit) => r = px_is0 p0) (fun (u : Unit) t => True) (va_A [(x, .inr (10, fx))] sz)) 0 0 (va_A [(x, .inr (10, fx))] sz) := by
  refine Met.ofW (cc := cX10_end) (maxL := 2) (ret := (some .boolean)) (by decide) rfl ?_
  intro p e s m args below meth c s₁ B hml hv
  obtain ⟨rfl, hsz, hP, hK, hD0⟩ := hv
  have hx := B.exec
  have hb := B.bytes
  have hr := B.returns
  have hts := atoms_spec (ws := px_w yX10_end cX10_end 2 (some .boolean)) B.pre
  have hg : ∀ w ∈ gw, w.before [.ref x, .int p0].toArray s = true := fun w h => hts w (List.mem_cons_of_mem _ h)
  have hown : s.vm.findClass RX10 = some m.cls := findClass_of_methodNamed B.named
  have hlocks := B.notSynchronized
  subst hsz
  have hD := hD0.self (sz := s.heap.size)
  generalize hAe : va_A [(x, .inr (10, fx))] s.heap.size = A at hD ⊢
  have hA : ∀ q : Nat, s.heap.size ≤ q → A q := fun q h => by rw [← hAe]; exact Or.inr h
  have hS : va_S A s.heap s.heap [] := va_S.rf
  have hP : va_P D vwCl [(x, .inr (10, fx))] s.heap := hP
  have hl := lv_entry ([.ref x, .int p0]) (n := 2) (Nat.le_of_ble_eq_true rfl)
  rw [lg_entry_eq]
  generalize (lg_sl ([.ref x, .int p0]) ++ List.replicate (2 - (lg_sl ([.ref x, .int p0])).length) Slot.unset).toArray = ls at hl ⊢
  have hl : lv_has ls 2 [(0, .ref x), (1, .int p0)] := hl
  refine lv_iload_n hx hb dX10_end_0 rfl (lv_at hl 1 rfl) ?_
  refine lv_if_lt (tgt := 12) hx hb dX10_end_1 (by decide) (fun c_1 => ?_) (fun c_1 => ?_)
  · refine lv_iconst (v := 0) hx hb dX10_end_12 (by decide) ?_
    exact W.zret (v := 0) hx hb hr (by decide) (fun t ht hW => ⟨⟨_, (), rfl, (by show _ = px_is0 p0; unfold px_is0; simp only [Int32.lt_iff_toInt_lt, Int32.le_iff_toInt_le, ← Int32.toInt_inj] at c_1; have e0 : (0 : Int32).toInt = 0 := rfl; first | (rw [if_pos (by omega)]; done) | (rw [if_neg (by omega)]; done)), trivial⟩, hS.F ht⟩) hS.2.2 dX10_end_13
  · refine lv_iload_n hx hb dX10_end_4 rfl (lv_at hl 1 rfl) ?_
    refine lv_aload_n hx hb dX10_end_5 rfl (lv_at hl 0 rfl) ?_
    refine va_get (D := D) (ci := 10) (v := .int 0) (C := RX10) (T := TX10) (N := 20) hx hb hg inGX10 hown hK hP 0 rfl rfl 1 (by decide) (hg _ q_2_104) (fun _ h9 => h9) hx_1 dX10_end_6 ?_
    refine lv_icmp_le (tgt := 14) hx hb dX10_end_9 (by decide) (fun c_2 => ?_) (fun c_2 => ?_)
    · refine lv_aload_n hx hb dX10_end_14 rfl (lv_at hl 0 rfl) ?_
      refine lv_iload_n hx hb dX10_end_15 rfl (lv_at hl 1 rfl) ?_
      refine va_put (D := D) (ci := 10) (v := .int p0) (ty := .int) (C := RX10) (T := TX10) (N := 20) hx hb hg inGX10 tyX10 tyX10_ok nmX10 hown hK hP hD hS 0 rfl rfl 1 (by decide) (hg _ q_2_104) (fun _ h9 => h9) rfl (by decide +kernel) rfl rfl (px_len hx_1) dX10_end_16 (fun H locs hP hD hS => ?_)
      have hP : va_P D vwCl [(x, .inr (10, (fx.set 1 (.int p0))))] H := hP
      have hD : va_D A [(x, .inr (10, (fx.set 1 (.int p0))))] := hD
      refine lv_iconst (v := 1) hx hb dX10_end_19 (by decide) ?_
      exact W.zret (v := 1) hx hb hr (by decide) (fun t ht hW => ⟨⟨_, (), rfl, (by show _ = px_is0 p0; unfold px_is0; simp only [Int32.lt_iff_toInt_lt, Int32.le_iff_toInt_le, ← Int32.toInt_inj] at c_1 c_2; have e0 : (0 : Int32).toInt = 0 := rfl; first | (rw [if_pos (by omega)]; done) | (rw [if_neg (by omega)]; done)), trivial⟩, hS.F ht⟩) hS.2.2 dX10_end_20
    · refine lv_iconst (v := 0) hx hb dX10_end_12 (by decide) ?_
      exact W.zret (v := 0) hx hb hr (by decide) (fun t ht hW => ⟨⟨_, (), rfl, (by show _ = px_is0 p0; unfold px_is0; simp only [Int32.lt_iff_toInt_lt, Int32.le_iff_toInt_le, ← Int32.toInt_inj] at c_1 c_2; have e0 : (0 : Int32).toInt = 0 := rfl; first | (rw [if_pos (by omega)]; done) | (rw [if_neg (by omega)]; done)), trivial⟩, hS.F ht⟩) hS.2.2 dX10_end_13
