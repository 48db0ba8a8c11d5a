set_option maxHeartbeats 4000000 in
set_option maxRecDepth 100000 in
theorem c_X11_isIn (l : Launch) (D : va_G) (y : Nat → ClassId) (sz : Nat) (p0 : Int32) (p1 : Int32) (p2 : Int32)  : Met l yX11_isIn (px_w yX11_isIn cX11_isIn 3 (some .boolean)) ({ frames := 0, cells := 0, slots := 0, locals := 0 }) (va_Pc [.int p0, .int p1, .int p2] (px_P D y sz [])) (vp_Si (fun r : Int32 => (r = 1 ∧ ¬ p0 < p1 ∧ ¬ p2 < p0) ∨ (r = 0 ∧ p0 < p1) ∨ (r = 0 ∧ p2 < p0))) 0 0 (fun _ => False) := by
  refine Met.ofW (cc := cX11_isIn) (maxL := 3) (ret := (some .boolean)) (by decide) rfl ?_
  intro p e s m args below meth c s₁ B hml hv
  obtain ⟨rfl, hsz, hP, hK, hD0⟩ := hv
  have hx := B.exec
  have hb := B.bytes
  have hr := B.returns
  have hts := atoms_spec (ws := px_w yX11_isIn cX11_isIn 3 (some .boolean)) B.pre
  have hg : ∀ w ∈ gw, w.before [.int p0, .int p1, .int p2].toArray s = true := fun w h => hts w (List.mem_cons_of_mem _ h)
  have hown : s.vm.findClass RX11 = some m.cls := findClass_of_methodNamed B.named
  have hlocks := B.notSynchronized
  subst hsz
  have hD := hD0
  have hP : va_P D vwCl [] s.heap := hP
  have hl := lv_entry ([.int p0, .int p1, .int p2]) (n := 3) (Nat.le_of_ble_eq_true rfl)
  rw [lg_entry_eq]
  generalize (lg_sl ([.int p0, .int p1, .int p2]) ++ List.replicate (3 - (lg_sl ([.int p0, .int p1, .int p2])).length) Slot.unset).toArray = ls at hl ⊢
  have hl : lv_has ls 3 [(0, .int p0), (1, .int p1), (2, .int p2)] := hl
  refine lv_iload_n hx hb dX11_isIn_0 rfl (lv_at hl 0 rfl) ?_
  refine lv_iload_n hx hb dX11_isIn_1 rfl (lv_at hl 1 rfl) ?_
  refine lv_icmp_lt (tgt := 14) hx hb dX11_isIn_2 (by decide) (fun c_1 => ?_) (fun c_1 => ?_)
  · refine lv_iconst (v := 0) hx hb dX11_isIn_14 (by decide) ?_
    exact W.zret (v := 0) hx hb hr (by decide) (fun t ht hW => ⟨_, rfl, (Or.inr (Or.inl ⟨rfl, c_1⟩)), ht⟩) (fun q h => by cases h) dX11_isIn_15
  · refine lv_iload_n hx hb dX11_isIn_5 rfl (lv_at hl 0 rfl) ?_
    refine lv_iload_n hx hb dX11_isIn_6 rfl (lv_at hl 2 rfl) ?_
    refine lv_icmp_gt (tgt := 14) hx hb dX11_isIn_7 (by decide) (fun c_2 => ?_) (fun c_2 => ?_)
    · refine lv_iconst (v := 0) hx hb dX11_isIn_14 (by decide) ?_
      exact W.zret (v := 0) hx hb hr (by decide) (fun t ht hW => ⟨_, rfl, (Or.inr (Or.inr ⟨rfl, c_2⟩)), ht⟩) (fun q h => by cases h) dX11_isIn_15
    · refine lv_iconst (v := 1) hx hb dX11_isIn_10 (by decide) ?_
      refine lv_goto (tgt := 15) hx hb dX11_isIn_11 (by decide) ?_
      exact W.zret (v := 1) hx hb hr (by decide) (fun t ht hW => ⟨_, rfl, (Or.inl ⟨rfl, c_1, c_2⟩), ht⟩) (fun q h => by cases h) dX11_isIn_15

set_option maxHeartbeats 4000000 in
set_option maxRecDepth 100000 in
theorem c_X11_isPerson (l : Launch) (D : va_G) (y : Nat → ClassId) (sz : Nat) (mo : Nat) (fmo : List Value) (ms : Nat) (fms : Nat → Int32) (p0 : Int32) (hmo_6 : fmo[6]? = some (.ref ms)) (hms_e1 : fms 1 = 0) : Met l yX11_isPerson (px_w yX11_isPerson cX11_isPerson 2 (some .boolean)) ({ frames := 1, cells := 0, slots := 0, locals := 22 }) (va_Pc [.ref mo, .int p0] (px_P D y sz [(mo, .inr (11, fmo)), (ms, .inl (y 1, 765, .inl fms))])) (vp_Si (fun r : Int32 => r = 0)) 0 0 (fun _ => False) := by
  refine Met.ofW (cc := cX11_isPerson) (maxL := 2) (ret := (some .boolean)) (by decide) rfl ?_
  intro p e s m args below meth c s₁ B hml hv
  obtain ⟨rfl, hsz, hP, hK, hD0⟩ := hv
  have hx := B.exec
  have hb := B.bytes
  have hr := B.returns
  have hts := atoms_spec (ws := px_w yX11_isPerson cX11_isPerson 2 (some .boolean)) B.pre
  have hg : ∀ w ∈ gw, w.before [.ref mo, .int p0].toArray s = true := fun w h => hts w (List.mem_cons_of_mem _ h)
  have hown : s.vm.findClass RX11 = some m.cls := findClass_of_methodNamed B.named
  have hlocks := B.notSynchronized
  subst hsz
  have hD := hD0
  have hP : va_P D vwCl [(mo, .inr (11, fmo)), (ms, .inl (y 1, 765, .inl fms))] s.heap := hP
  have hl := lv_entry ([.ref mo, .int p0]) (n := 2) (Nat.le_of_ble_eq_true rfl)
  rw [lg_entry_eq]
  generalize (lg_sl ([.ref mo, .int p0]) ++ List.replicate (2 - (lg_sl ([.ref mo, .int p0])).length) Slot.unset).toArray = ls at hl ⊢
  have hl : lv_has ls 2 [(0, .ref mo), (1, .int p0)] := hl
  refine lv_iload_n hx hb dX11_isPerson_0 rfl (lv_at hl 1 rfl) ?_
  refine lv_iconst (v := 0) hx hb dX11_isPerson_1 (by decide) ?_
  refine lv_aload_n hx hb dX11_isPerson_2 rfl (lv_at hl 0 rfl) ?_
  refine va_get (D := D) (ci := 11) (v := .ref ms) (C := RX11) (T := TX11) (N := 65) hx hb hg inGX11 hown hK hP 0 rfl rfl 6 (by decide) (hg _ q_6_132) (fun _ h9 => h9) hmo_6 dX11_isPerson_3 ?_
  refine lv_iconst (v := 1) hx hb dX11_isPerson_6 (by decide) ?_
  refine va_iald hx hb hK hP 1 1 rfl rfl (i := 1) (px_in (by decide)) dX11_isPerson_7 ?_
  refine px_top (v := 0) hms_e1 ?_
  refine lv_iconst (v := 1) hx hb dX11_isPerson_8 (by decide) ?_
  refine lv_isub hx hb dX11_isPerson_9 ?_
  refine px_top (v := (-1)) (by decide) ?_
  have hPc_1 := hP.sub (ws' := []) [] rfl
  have hDc_1 := hD.sub (ws' := []) [] (by decide +kernel) rfl
  refine vp_callSi (va_Run.run (va_runS (As := [.int p0, .int 0, .int (-1)]) (rest := []) ⟨hx, hb, hml, hown, hg⟩ (c_X11_isIn l D y s.heap.size p0 0 (-1) ) (va_cwS 3 hg (px_gS q_7_121 q_7_122 q_1_15 q_7_123) rfl rfl rfl (by decide +kernel) ⟨Nat.le_of_ble_eq_true rfl, Nat.le_of_ble_eq_true rfl⟩) (px_preS hK hPc_1 hDc_1) rfl rfl hl.1 rfl (lv_room (Nat.le_of_ble_eq_true rfl)) dX11_isPerson_10 ⟨Nat.le_of_ble_eq_true rfl, Nat.le_of_ble_eq_true rfl⟩)) (fun r_1 hw_1 => ?_)
  rcases hw_1 with ⟨rfl, g_1_0_0, g_1_0_1⟩ | ⟨rfl, g_1_1_0⟩ | ⟨rfl, g_1_2_0⟩
  · exact (by exfalso; simp only [Int32.lt_iff_toInt_lt, Int32.le_iff_toInt_le, ← Int32.toInt_inj] at g_1_0_0 g_1_0_1; have e0 : ((-1) : Int32).toInt = -1 := rfl; have e1 : (0 : Int32).toInt = 0 := rfl; omega)
  · exact W.zret (v := 0) hx hb hr (by decide) (fun t ht hW => ⟨_, rfl, rfl, ht⟩) (fun q h => by cases h) dX11_isPerson_13
  · exact W.zret (v := 0) hx hb hr (by decide) (fun t ht hW => ⟨_, rfl, rfl, ht⟩) (fun q h => by cases h) dX11_isPerson_13

set_option maxHeartbeats 4000000 in
set_option maxRecDepth 100000 in
theorem c_X11_isKind (l : Launch) (D : va_G) (y : Nat → ClassId) (sz : Nat) (mo : Nat) (fmo : List Value) (ms : Nat) (fms : Nat → Int32) (p0 : Int32) (hmo_6 : fmo[6]? = some (.ref ms)) (hms_e0 : fms 0 = 0) : Met l yX11_isKind (px_w yX11_isKind cX11_isKind 2 (some .boolean)) ({ frames := 1, cells := 0, slots := 0, locals := 22 }) (va_Pc [.ref mo, .int p0] (px_P D y sz [(mo, .inr (11, fmo)), (ms, .inl (y 1, 765, .inl fms))])) (vp_Si (fun r : Int32 => r = 0)) 0 0 (fun _ => False) := by
  refine Met.ofW (cc := cX11_isKind) (maxL := 2) (ret := (some .boolean)) (by decide) rfl ?_
  intro p e s m args below meth c s₁ B hml hv
  obtain ⟨rfl, hsz, hP, hK, hD0⟩ := hv
  have hx := B.exec
  have hb := B.bytes
  have hr := B.returns
  have hts := atoms_spec (ws := px_w yX11_isKind cX11_isKind 2 (some .boolean)) B.pre
  have hg : ∀ w ∈ gw, w.before [.ref mo, .int p0].toArray s = true := fun w h => hts w (List.mem_cons_of_mem _ h)
  have hown : s.vm.findClass RX11 = some m.cls := findClass_of_methodNamed B.named
  have hlocks := B.notSynchronized
  subst hsz
  have hD := hD0
  have hP : va_P D vwCl [(mo, .inr (11, fmo)), (ms, .inl (y 1, 765, .inl fms))] s.heap := hP
  have hl := lv_entry ([.ref mo, .int p0]) (n := 2) (Nat.le_of_ble_eq_true rfl)
  rw [lg_entry_eq]
  generalize (lg_sl ([.ref mo, .int p0]) ++ List.replicate (2 - (lg_sl ([.ref mo, .int p0])).length) Slot.unset).toArray = ls at hl ⊢
  have hl : lv_has ls 2 [(0, .ref mo), (1, .int p0)] := hl
  refine lv_iload_n hx hb dX11_isKind_0 rfl (lv_at hl 1 rfl) ?_
  refine lv_iconst (v := 0) hx hb dX11_isKind_1 (by decide) ?_
  refine lv_aload_n hx hb dX11_isKind_2 rfl (lv_at hl 0 rfl) ?_
  refine va_get (D := D) (ci := 11) (v := .ref ms) (C := RX11) (T := TX11) (N := 65) hx hb hg inGX11 hown hK hP 0 rfl rfl 6 (by decide) (hg _ q_6_132) (fun _ h9 => h9) hmo_6 dX11_isKind_3 ?_
  refine lv_iconst (v := 0) hx hb dX11_isKind_6 (by decide) ?_
  refine va_iald hx hb hK hP 1 1 rfl rfl (i := 0) (px_in (by decide)) dX11_isKind_7 ?_
  refine px_top (v := 0) hms_e0 ?_
  refine lv_iconst (v := 1) hx hb dX11_isKind_8 (by decide) ?_
  refine lv_isub hx hb dX11_isKind_9 ?_
  refine px_top (v := (-1)) (by decide) ?_
  have hPc_1 := hP.sub (ws' := []) [] rfl
  have hDc_1 := hD.sub (ws' := []) [] (by decide +kernel) rfl
  refine vp_callSi (va_Run.run (va_runS (As := [.int p0, .int 0, .int (-1)]) (rest := []) ⟨hx, hb, hml, hown, hg⟩ (c_X11_isIn l D y s.heap.size p0 0 (-1) ) (va_cwS 3 hg (px_gS q_7_121 q_7_122 q_1_15 q_7_123) rfl rfl rfl (by decide +kernel) ⟨Nat.le_of_ble_eq_true rfl, Nat.le_of_ble_eq_true rfl⟩) (px_preS hK hPc_1 hDc_1) rfl rfl hl.1 rfl (lv_room (Nat.le_of_ble_eq_true rfl)) dX11_isKind_10 ⟨Nat.le_of_ble_eq_true rfl, Nat.le_of_ble_eq_true rfl⟩)) (fun r_1 hw_1 => ?_)
  rcases hw_1 with ⟨rfl, g_1_0_0, g_1_0_1⟩ | ⟨rfl, g_1_1_0⟩ | ⟨rfl, g_1_2_0⟩
  · exact (by exfalso; simp only [Int32.lt_iff_toInt_lt, Int32.le_iff_toInt_le, ← Int32.toInt_inj] at g_1_0_0 g_1_0_1; have e0 : ((-1) : Int32).toInt = -1 := rfl; have e1 : (0 : Int32).toInt = 0 := rfl; omega)
  · exact W.zret (v := 0) hx hb hr (by decide) (fun t ht hW => ⟨_, rfl, rfl, ht⟩) (fun q h => by cases h) dX11_isKind_13
  · exact W.zret (v := 0) hx hb hr (by decide) (fun t ht hW => ⟨_, rfl, rfl, ht⟩) (fun q h => by cases h) dX11_isKind_13

set_option maxHeartbeats 4000000 in
set_option maxRecDepth 100000 in
theorem c_X11_areAsked (l : Launch) (D : va_G) (y : Nat → ClassId) (sz : Nat) (mo : Nat) (fmo : List Value) (ms : Nat) (fms : Nat → Int32) (p0 : Int32) (p1 : Int32) (p2 : Int32) (hmo_6 : fmo[6]? = some (.ref ms)) (hms_e1 : fms 1 = 0) : Met l yX11_areAsked (px_w yX11_areAsked cX11_areAsked 4 (some .boolean)) ({ frames := 2, cells := 0, slots := 0, locals := 43 }) (va_Pc [.ref mo, .int p0, .int p1, .int p2] (px_P D y sz [(mo, .inr (11, fmo)), (ms, .inl (y 1, 765, .inl fms))])) (vp_Si (fun r : Int32 => r = 0)) 0 0 (fun _ => False) := by
  refine Met.ofW (cc := cX11_areAsked) (maxL := 4) (ret := (some .boolean)) (by decide) rfl ?_
  intro p e s m args below meth c s₁ B hml hv
  obtain ⟨rfl, hsz, hP, hK, hD0⟩ := hv
  have hx := B.exec
  have hb := B.bytes
  have hr := B.returns
  have hts := atoms_spec (ws := px_w yX11_areAsked cX11_areAsked 4 (some .boolean)) B.pre
  have hg : ∀ w ∈ gw, w.before [.ref mo, .int p0, .int p1, .int p2].toArray s = true := fun w h => hts w (List.mem_cons_of_mem _ h)
  have hown : s.vm.findClass RX11 = some m.cls := findClass_of_methodNamed B.named
  have hlocks := B.notSynchronized
  subst hsz
  have hD := hD0
  have hP : va_P D vwCl [(mo, .inr (11, fmo)), (ms, .inl (y 1, 765, .inl fms))] s.heap := hP
  have hl := lv_entry ([.ref mo, .int p0, .int p1, .int p2]) (n := 4) (Nat.le_of_ble_eq_true rfl)
  rw [lg_entry_eq]
  generalize (lg_sl ([.ref mo, .int p0, .int p1, .int p2]) ++ List.replicate (4 - (lg_sl ([.ref mo, .int p0, .int p1, .int p2])).length) Slot.unset).toArray = ls at hl ⊢
  have hl : lv_has ls 4 [(0, .ref mo), (1, .int p0), (2, .int p1), (3, .int p2)] := hl
  refine lv_aload_n hx hb dX11_areAsked_0 rfl (lv_at hl 0 rfl) ?_
  refine lv_iload_n hx hb dX11_areAsked_1 rfl (lv_at hl 1 rfl) ?_
  have hPc_1 := hP.sub (ws' := [(mo, .inr (11, fmo)), (ms, .inl (y 1, 765, .inl fms))]) [0, 1] rfl
  have hDc_1 := hD.sub (ws' := [(mo, .inr (11, fmo)), (ms, .inl (y 1, 765, .inl fms))]) [0, 1] (by decide +kernel) rfl
  refine vp_callSi (va_Run.run (va_runV (As := [.int p0]) (rest := []) ⟨hx, hb, hml, hown, hg⟩ (c_X11_isPerson l D y s.heap.size mo fmo ms fms p0 hmo_6 hms_e1) (cwV 1 hg (px_gV q_7_195 q_7_197 q_p_81 q_1_15 q_7_198) rfl rfl rfl (by decide +kernel) ⟨Nat.le_of_ble_eq_true rfl, Nat.le_of_ble_eq_true rfl⟩) (px_preV hK hPc_1 hDc_1 (ci := 11) (q0 := 0) rfl rfl) rfl rfl hl.1 rfl (lv_room (Nat.le_of_ble_eq_true rfl)) dX11_areAsked_2 ⟨Nat.le_of_ble_eq_true rfl, Nat.le_of_ble_eq_true rfl⟩)) (fun r_1 hw_1 => ?_)
  obtain rfl : r_1 = 0 := hw_1
  refine lv_if_eq (tgt := 28) hx hb dX11_areAsked_5 (by decide) (fun _ => ?_) (fun c_2 => absurd c_2 (by decide))
  refine lv_iconst (v := 0) hx hb dX11_areAsked_28 (by decide) ?_
  exact W.zret (v := 0) hx hb hr (by decide) (fun t ht hW => ⟨_, rfl, rfl, ht⟩) (fun q h => by cases h) dX11_areAsked_29

set_option maxHeartbeats 4000000 in
set_option maxRecDepth 100000 in
theorem c_X11_areGames (l : Launch) (D : va_G) (y : Nat → ClassId) (sz : Nat) (mo : Nat) (fmo : List Value) (ms : Nat) (fms : Nat → Int32) (p0 : Int32) (p1 : Int32) (p2 : Int32) (hmo_6 : fmo[6]? = some (.ref ms)) (hms_e1 : fms 1 = 0) : Met l yX11_areGames (px_w yX11_areGames cX11_areGames 4 (some .boolean)) ({ frames := 1, cells := 0, slots := 0, locals := 22 }) (va_Pc [.ref mo, .int p0, .int p1, .int p2] (px_P D y sz [(mo, .inr (11, fmo)), (ms, .inl (y 1, 765, .inl fms))])) (vp_Si (fun r : Int32 => r = 0)) 0 0 (fun _ => False) := by
  refine Met.ofW (cc := cX11_areGames) (maxL := 4) (ret := (some .boolean)) (by decide) rfl ?_
  intro p e s m args below meth c s₁ B hml hv
  obtain ⟨rfl, hsz, hP, hK, hD0⟩ := hv
  have hx := B.exec
  have hb := B.bytes
  have hr := B.returns
  have hts := atoms_spec (ws := px_w yX11_areGames cX11_areGames 4 (some .boolean)) B.pre
  have hg : ∀ w ∈ gw, w.before [.ref mo, .int p0, .int p1, .int p2].toArray s = true := fun w h => hts w (List.mem_cons_of_mem _ h)
  have hown : s.vm.findClass RX11 = some m.cls := findClass_of_methodNamed B.named
  have hlocks := B.notSynchronized
  subst hsz
  have hD := hD0
  have hP : va_P D vwCl [(mo, .inr (11, fmo)), (ms, .inl (y 1, 765, .inl fms))] s.heap := hP
  have hl := lv_entry ([.ref mo, .int p0, .int p1, .int p2]) (n := 4) (Nat.le_of_ble_eq_true rfl)
  rw [lg_entry_eq]
  generalize (lg_sl ([.ref mo, .int p0, .int p1, .int p2]) ++ List.replicate (4 - (lg_sl ([.ref mo, .int p0, .int p1, .int p2])).length) Slot.unset).toArray = ls at hl ⊢
  have hl : lv_has ls 4 [(0, .ref mo), (1, .int p0), (2, .int p1), (3, .int p2)] := hl
  refine lv_iload_n hx hb dX11_areGames_0 rfl (lv_at hl 1 rfl) ?_
  refine lv_iconst (v := 0) hx hb dX11_areGames_1 (by decide) ?_
  refine lv_iconst (v := 3) hx hb dX11_areGames_2 (by decide) ?_
  have hPc_1 := hP.sub (ws' := []) [] rfl
  have hDc_1 := hD.sub (ws' := []) [] (by decide +kernel) rfl
  refine vp_callSi (va_Run.run (va_runS (As := [.int p0, .int 0, .int 3]) (rest := []) ⟨hx, hb, hml, hown, hg⟩ (c_X11_isIn l D y s.heap.size p0 0 3 ) (va_cwS 3 hg (px_gS q_7_121 q_7_122 q_1_15 q_7_123) rfl rfl rfl (by decide +kernel) ⟨Nat.le_of_ble_eq_true rfl, Nat.le_of_ble_eq_true rfl⟩) (px_preS hK hPc_1 hDc_1) rfl rfl hl.1 rfl (lv_room (Nat.le_of_ble_eq_true rfl)) dX11_areGames_3 ⟨Nat.le_of_ble_eq_true rfl, Nat.le_of_ble_eq_true rfl⟩)) (fun r_1 hw_1 => ?_)
  rcases hw_1 with ⟨rfl, g_1_0_0, g_1_0_1⟩ | ⟨rfl, g_1_1_0⟩ | ⟨rfl, g_1_2_0⟩
  · refine lv_if_eq (tgt := 61) hx hb dX11_areGames_6 (by decide) (fun c_2 => absurd c_2 (by decide)) (fun _ => ?_)
    refine lv_iload_n hx hb dX11_areGames_9 rfl (lv_at hl 2 rfl) ?_
    refine lv_iconst (v := 0) hx hb dX11_areGames_10 (by decide) ?_
    refine lv_iconst (v := 3) hx hb dX11_areGames_11 (by decide) ?_
    have hPc_3 := hP.sub (ws' := []) [] rfl
    have hDc_3 := hD.sub (ws' := []) [] (by decide +kernel) rfl
    refine vp_callSi (va_Run.run (va_runS (As := [.int p1, .int 0, .int 3]) (rest := []) ⟨hx, hb, hml, hown, hg⟩ (c_X11_isIn l D y s.heap.size p1 0 3 ) (va_cwS 3 hg (px_gS q_7_121 q_7_122 q_1_15 q_7_123) rfl rfl rfl (by decide +kernel) ⟨Nat.le_of_ble_eq_true rfl, Nat.le_of_ble_eq_true rfl⟩) (px_preS hK hPc_3 hDc_3) rfl rfl hl.1 rfl (lv_room (Nat.le_of_ble_eq_true rfl)) dX11_areGames_12 ⟨Nat.le_of_ble_eq_true rfl, Nat.le_of_ble_eq_true rfl⟩)) (fun r_3 hw_3 => ?_)
    rcases hw_3 with ⟨rfl, g_3_0_0, g_3_0_1⟩ | ⟨rfl, g_3_1_0⟩ | ⟨rfl, g_3_2_0⟩
    · refine lv_if_eq (tgt := 61) hx hb dX11_areGames_15 (by decide) (fun c_4 => absurd c_4 (by decide)) (fun _ => ?_)
      refine lv_iload_n hx hb dX11_areGames_18 rfl (lv_at hl 3 rfl) ?_
      refine lv_iconst (v := 1) hx hb dX11_areGames_19 (by decide) ?_
      refine lv_bipush (v := 30) hx hb dX11_areGames_20 (by decide) ?_
      have hPc_5 := hP.sub (ws' := []) [] rfl
      have hDc_5 := hD.sub (ws' := []) [] (by decide +kernel) rfl
      refine vp_callSi (va_Run.run (va_runS (As := [.int p2, .int 1, .int 30]) (rest := []) ⟨hx, hb, hml, hown, hg⟩ (c_X11_isIn l D y s.heap.size p2 1 30 ) (va_cwS 3 hg (px_gS q_7_121 q_7_122 q_1_15 q_7_123) rfl rfl rfl (by decide +kernel) ⟨Nat.le_of_ble_eq_true rfl, Nat.le_of_ble_eq_true rfl⟩) (px_preS hK hPc_5 hDc_5) rfl rfl hl.1 rfl (lv_room (Nat.le_of_ble_eq_true rfl)) dX11_areGames_22 ⟨Nat.le_of_ble_eq_true rfl, Nat.le_of_ble_eq_true rfl⟩)) (fun r_5 hw_5 => ?_)
      rcases hw_5 with ⟨rfl, g_5_0_0, g_5_0_1⟩ | ⟨rfl, g_5_1_0⟩ | ⟨rfl, g_5_2_0⟩
      · refine lv_if_eq (tgt := 61) hx hb dX11_areGames_25 (by decide) (fun c_6 => absurd c_6 (by decide)) (fun _ => ?_)
        refine lv_aload_n hx hb dX11_areGames_28 rfl (lv_at hl 0 rfl) ?_
        refine va_get (D := D) (ci := 11) (v := .ref ms) (C := RX11) (T := TX11) (N := 65) hx hb hg inGX11 hown hK hP 0 rfl rfl 6 (by decide) (hg _ q_6_132) (fun _ h9 => h9) hmo_6 dX11_areGames_29 ?_
        refine lv_iconst (v := 1) hx hb dX11_areGames_32 (by decide) ?_
        refine va_iald hx hb hK hP 1 1 rfl rfl (i := 1) (px_in (by decide)) dX11_areGames_33 ?_
        refine px_top (v := 0) hms_e1 ?_
        refine lv_iconst (v := 1) hx hb dX11_areGames_34 (by decide) ?_
        refine lv_icmp_le (tgt := 61) hx hb dX11_areGames_35 (by decide) (fun _ => ?_) (fun c_7 => absurd c_7 (by decide))
        refine lv_iconst (v := 0) hx hb dX11_areGames_61 (by decide) ?_
        exact W.zret (v := 0) hx hb hr (by decide) (fun t ht hW => ⟨_, rfl, rfl, ht⟩) (fun q h => by cases h) dX11_areGames_62
      · refine lv_if_eq (tgt := 61) hx hb dX11_areGames_25 (by decide) (fun _ => ?_) (fun c_8 => absurd c_8 (by decide))
        refine lv_iconst (v := 0) hx hb dX11_areGames_61 (by decide) ?_
        exact W.zret (v := 0) hx hb hr (by decide) (fun t ht hW => ⟨_, rfl, rfl, ht⟩) (fun q h => by cases h) dX11_areGames_62
      · refine lv_if_eq (tgt := 61) hx hb dX11_areGames_25 (by decide) (fun _ => ?_) (fun c_9 => absurd c_9 (by decide))
        refine lv_iconst (v := 0) hx hb dX11_areGames_61 (by decide) ?_
        exact W.zret (v := 0) hx hb hr (by decide) (fun t ht hW => ⟨_, rfl, rfl, ht⟩) (fun q h => by cases h) dX11_areGames_62
    · refine lv_if_eq (tgt := 61) hx hb dX11_areGames_15 (by decide) (fun _ => ?_) (fun c_10 => absurd c_10 (by decide))
      refine lv_iconst (v := 0) hx hb dX11_areGames_61 (by decide) ?_
      exact W.zret (v := 0) hx hb hr (by decide) (fun t ht hW => ⟨_, rfl, rfl, ht⟩) (fun q h => by cases h) dX11_areGames_62
    · refine lv_if_eq (tgt := 61) hx hb dX11_areGames_15 (by decide) (fun _ => ?_) (fun c_11 => absurd c_11 (by decide))
      refine lv_iconst (v := 0) hx hb dX11_areGames_61 (by decide) ?_
      exact W.zret (v := 0) hx hb hr (by decide) (fun t ht hW => ⟨_, rfl, rfl, ht⟩) (fun q h => by cases h) dX11_areGames_62
  · refine lv_if_eq (tgt := 61) hx hb dX11_areGames_6 (by decide) (fun _ => ?_) (fun c_12 => absurd c_12 (by decide))
    refine lv_iconst (v := 0) hx hb dX11_areGames_61 (by decide) ?_
    exact W.zret (v := 0) hx hb hr (by decide) (fun t ht hW => ⟨_, rfl, rfl, ht⟩) (fun q h => by cases h) dX11_areGames_62
  · refine lv_if_eq (tgt := 61) hx hb dX11_areGames_6 (by decide) (fun _ => ?_) (fun c_13 => absurd c_13 (by decide))
    refine lv_iconst (v := 0) hx hb dX11_areGames_61 (by decide) ?_
    exact W.zret (v := 0) hx hb hr (by decide) (fun t ht hW => ⟨_, rfl, rfl, ht⟩) (fun q h => by cases h) dX11_areGames_62

set_option maxHeartbeats 4000000 in
set_option maxRecDepth 100000 in
theorem c_X11_thrown (l : Launch) (D : va_G) (y : Nat → ClassId) (sz : Nat) (mo : Nat) (fmo : List Value) (hmo_0 : fmo[0]? = some (.int 0)) : Met l yX11_thrown (px_w yX11_thrown cX11_thrown 1 (some .int)) ({ frames := 0, cells := 0, slots := 0, locals := 0 }) (va_Pc [.ref mo] (px_P D y sz [(mo, .inr (11, fmo))])) (vp_Si (fun r : Int32 => r = 0)) 0 0 (fun _ => False) := by
  refine Met.ofW (cc := cX11_thrown) (maxL := 1) (ret := (some .int)) (by decide) rfl ?_
  intro p e s m args below meth c s₁ B hml hv
  obtain ⟨rfl, hsz, hP, hK, hD0⟩ := hv
  have hx := B.exec
  have hb := B.bytes
  have hr := B.returns
  have hts := atoms_spec (ws := px_w yX11_thrown cX11_thrown 1 (some .int)) B.pre
  have hg : ∀ w ∈ gw, w.before [.ref mo].toArray s = true := fun w h => hts w (List.mem_cons_of_mem _ h)
  have hown : s.vm.findClass RX11 = some m.cls := findClass_of_methodNamed B.named
  have hlocks := B.notSynchronized
  subst hsz
  have hD := hD0
  have hP : va_P D vwCl [(mo, .inr (11, fmo))] s.heap := hP
  have hl := lv_entry ([.ref mo]) (n := 1) (Nat.le_of_ble_eq_true rfl)
  rw [lg_entry_eq]
  generalize (lg_sl ([.ref mo]) ++ List.replicate (1 - (lg_sl ([.ref mo])).length) Slot.unset).toArray = ls at hl ⊢
  have hl : lv_has ls 1 [(0, .ref mo)] := hl
  refine lv_aload_n hx hb dX11_thrown_0 rfl (lv_at hl 0 rfl) ?_
  refine va_get (D := D) (ci := 11) (v := .int 0) (C := RX11) (T := TX11) (N := 65) hx hb hg inGX11 hown hK hP 0 rfl rfl 0 (by decide) (hg _ q_6_126) (fun _ h9 => h9) hmo_0 dX11_thrown_1 ?_
  exact W.iret (v := 0) hx hb hr (fun t ht hW => ⟨_, rfl, rfl, ht⟩) (fun q h => by cases h) dX11_thrown_4

set_option maxHeartbeats 4000000 in
set_option maxRecDepth 100000 in
theorem c_X11_thrown_1 (l : Launch) (D : va_G) (y : Nat → ClassId) (sz : Nat) (mo : Nat) (fmo : List Value) (hmo_0 : fmo[0]? = some (.int 1)) : Met l yX11_thrown (px_w yX11_thrown cX11_thrown 1 (some .int)) ({ frames := 0, cells := 0, slots := 0, locals := 0 }) (va_Pc [.ref mo] (px_P D y sz [(mo, .inr (11, fmo))])) (vp_Si (fun r : Int32 => r = 1)) 0 0 (fun _ => False) := by
  refine Met.ofW (cc := cX11_thrown) (maxL := 1) (ret := (some .int)) (by decide) rfl ?_
  intro p e s m args below meth c s₁ B hml hv
  obtain ⟨rfl, hsz, hP, hK, hD0⟩ := hv
  have hx := B.exec
  have hb := B.bytes
  have hr := B.returns
  have hts := atoms_spec (ws := px_w yX11_thrown cX11_thrown 1 (some .int)) B.pre
  have hg : ∀ w ∈ gw, w.before [.ref mo].toArray s = true := fun w h => hts w (List.mem_cons_of_mem _ h)
  have hown : s.vm.findClass RX11 = some m.cls := findClass_of_methodNamed B.named
  have hlocks := B.notSynchronized
  subst hsz
  have hD := hD0
  have hP : va_P D vwCl [(mo, .inr (11, fmo))] s.heap := hP
  have hl := lv_entry ([.ref mo]) (n := 1) (Nat.le_of_ble_eq_true rfl)
  rw [lg_entry_eq]
  generalize (lg_sl ([.ref mo]) ++ List.replicate (1 - (lg_sl ([.ref mo])).length) Slot.unset).toArray = ls at hl ⊢
  have hl : lv_has ls 1 [(0, .ref mo)] := hl
  refine lv_aload_n hx hb dX11_thrown_0 rfl (lv_at hl 0 rfl) ?_
  refine va_get (D := D) (ci := 11) (v := .int 1) (C := RX11) (T := TX11) (N := 65) hx hb hg inGX11 hown hK hP 0 rfl rfl 0 (by decide) (hg _ q_6_126) (fun _ h9 => h9) hmo_0 dX11_thrown_1 ?_
  exact W.iret (v := 1) hx hb hr (fun t ht hW => ⟨_, rfl, rfl, ht⟩) (fun q h => by cases h) dX11_thrown_4

set_option maxHeartbeats 4000000 in
set_option maxRecDepth 100000 in
theorem c_X11_fault (l : Launch) (D : va_G) (y : Nat → ClassId) (sz : Nat) (mo : Nat) (fmo : List Value) (hmo_0 : fmo[0]? = some (.int 0)) (hmo_15 : fmo[15]? = some (.int 0)) : Met l yX11_fault (px_w yX11_fault cX11_fault 1 (some .int)) ({ frames := 0, cells := 0, slots := 0, locals := 0 }) (va_Pc [.ref mo] (px_P D y sz [(mo, .inr (11, fmo))])) (va_Qi (fun (r : Int32) (u : Unit) => r = 0) (fun (u : Unit) t => True) (va_A [(mo, .inr (11, fmo))] sz)) 0 0 (va_A [(mo, .inr (11, fmo))] sz) := by
  refine Met.ofW (cc := cX11_fault) (maxL := 1) (ret := (some .int)) (by decide) rfl ?_
  intro p e s m args below meth c s₁ B hml hv
  obtain ⟨rfl, hsz, hP, hK, hD0⟩ := hv
  have hx := B.exec
  have hb := B.bytes
  have hr := B.returns
  have hts := atoms_spec (ws := px_w yX11_fault cX11_fault 1 (some .int)) B.pre
  have hg : ∀ w ∈ gw, w.before [.ref mo].toArray s = true := fun w h => hts w (List.mem_cons_of_mem _ h)
  have hown : s.vm.findClass RX11 = some m.cls := findClass_of_methodNamed B.named
  have hlocks := B.notSynchronized
  subst hsz
  have hD := hD0.self (sz := s.heap.size)
  generalize hAe : va_A [(mo, .inr (11, fmo))] s.heap.size = A at hD ⊢
  have hA : ∀ q : Nat, s.heap.size ≤ q → A q := fun q h => by rw [← hAe]; exact Or.inr h
  have hS : va_S A s.heap s.heap [] := va_S.rf
  have hP : va_P D vwCl [(mo, .inr (11, fmo))] s.heap := hP
  have hl := lv_entry ([.ref mo]) (n := 1) (Nat.le_of_ble_eq_true rfl)
  rw [lg_entry_eq]
  generalize (lg_sl ([.ref mo]) ++ List.replicate (1 - (lg_sl ([.ref mo])).length) Slot.unset).toArray = ls at hl ⊢
  have hl : lv_has ls 1 [(0, .ref mo)] := hl
  refine lv_aload_n hx hb dX11_fault_0 rfl (lv_at hl 0 rfl) ?_
  refine lv_iconst (v := 0) hx hb dX11_fault_1 (by decide) ?_
  refine va_put (D := D) (ci := 11) (v := .int 0) (ty := .int) (C := RX11) (T := TX11) (N := 65) hx hb hg inGX11 tyX11 tyX11_ok nmX11 hown hK hP hD hS 0 rfl rfl 0 (by decide) (hg _ q_6_126) (fun _ h9 => h9) rfl (by decide +kernel) rfl rfl (px_len hmo_0) dX11_fault_2 (fun H locs hP hD hS => ?_)
  have hP : va_P D vwCl [(mo, .inr (11, (fmo.set 0 (.int 0))))] H := hP
  have hD : va_D A [(mo, .inr (11, (fmo.set 0 (.int 0))))] := hD
  refine lv_aload_n hx hb dX11_fault_5 rfl (lv_at hl 0 rfl) ?_
  refine va_get (D := D) (ci := 11) (v := .int 0) (C := RX11) (T := TX11) (N := 65) hx hb hg inGX11 hown hK hP 0 rfl rfl 15 (by decide) (hg _ q_6_141) (fun _ h9 => h9) (px_sn (by decide) hmo_15) dX11_fault_6 ?_
  exact W.iret (v := 0) hx hb hr (fun t ht hW => ⟨⟨_, (), rfl, rfl, trivial⟩, hS.F ht⟩) hS.2.2 dX11_fault_9

set_option maxHeartbeats 4000000 in
set_option maxRecDepth 100000 in
theorem c_X11_person (l : Launch) (D : va_G) (y : Nat → ClassId) (sz : Nat) (mo : Nat) (fmo : List Value) (ms : Nat) (fms : Nat → Int32) (p0 : Int32) (p1 : Int32) (hmo_0 : fmo[0]? = some (.int 0)) (hmo_6 : fmo[6]? = some (.ref ms)) (hms_e1 : fms 1 = 0) : Met l yX11_person (px_w yX11_person cX11_person 5 (some .int)) ({ frames := 2, cells := 0, slots := 0, locals := 43 }) (va_Pc [.ref mo, .int p0, .int p1] (px_P D y sz [(mo, .inr (11, fmo)), (ms, .inl (y 1, 765, .inl fms))])) (va_Qi (fun (r : Int32) (u : Unit) => r = (-1)) (fun (u : Unit) t => True) (va_A [(mo, .inr (11, fmo)), (ms, .inl (y 1, 765, .inl fms))] sz)) 0 0 (va_A [(mo, .inr (11, fmo)), (ms, .inl (y 1, 765, .inl fms))] sz) := by
  refine Met.ofW (cc := cX11_person) (maxL := 5) (ret := (some .int)) (by decide) rfl ?_
  intro p e s m args below meth c s₁ B hml hv
  obtain ⟨rfl, hsz, hP, hK, hD0⟩ := hv
  have hx := B.exec
  have hb := B.bytes
  have hr := B.returns
  have hts := atoms_spec (ws := px_w yX11_person cX11_person 5 (some .int)) B.pre
  have hg : ∀ w ∈ gw, w.before [.ref mo, .int p0, .int p1].toArray s = true := fun w h => hts w (List.mem_cons_of_mem _ h)
  have hown : s.vm.findClass RX11 = some m.cls := findClass_of_methodNamed B.named
  have hlocks := B.notSynchronized
  subst hsz
  have hD := hD0.self (sz := s.heap.size)
  generalize hAe : va_A [(mo, .inr (11, fmo)), (ms, .inl (y 1, 765, .inl fms))] s.heap.size = A at hD ⊢
  have hA : ∀ q : Nat, s.heap.size ≤ q → A q := fun q h => by rw [← hAe]; exact Or.inr h
  have hS : va_S A s.heap s.heap [] := va_S.rf
  have hP : va_P D vwCl [(mo, .inr (11, fmo)), (ms, .inl (y 1, 765, .inl fms))] s.heap := hP
  have hl := lv_entry ([.ref mo, .int p0, .int p1]) (n := 5) (Nat.le_of_ble_eq_true rfl)
  rw [lg_entry_eq]
  generalize (lg_sl ([.ref mo, .int p0, .int p1]) ++ List.replicate (5 - (lg_sl ([.ref mo, .int p0, .int p1])).length) Slot.unset).toArray = ls at hl ⊢
  have hl : lv_has ls 5 [(0, .ref mo), (1, .int p0), (2, .int p1)] := hl
  refine lv_aload_n hx hb dX11_person_0 rfl (lv_at hl 0 rfl) ?_
  refine lv_iconst (v := 0) hx hb dX11_person_1 (by decide) ?_
  refine va_put (D := D) (ci := 11) (v := .int 0) (ty := .int) (C := RX11) (T := TX11) (N := 65) hx hb hg inGX11 tyX11 tyX11_ok nmX11 hown hK hP hD hS 0 rfl rfl 0 (by decide) (hg _ q_6_126) (fun _ h9 => h9) rfl (by decide +kernel) rfl rfl (px_len hmo_0) dX11_person_2 (fun H locs hP hD hS => ?_)
  have hP : va_P D vwCl [(mo, .inr (11, (fmo.set 0 (.int 0)))), (ms, .inl (y 1, 765, .inl fms))] H := hP
  have hD : va_D A [(mo, .inr (11, (fmo.set 0 (.int 0)))), (ms, .inl (y 1, 765, .inl fms))] := hD
  refine lv_aload_n hx hb dX11_person_5 rfl (lv_at hl 0 rfl) ?_
  refine lv_iload_n hx hb dX11_person_6 rfl (lv_at hl 1 rfl) ?_
  have hPc_1 := hP.sub (ws' := [(mo, .inr (11, (fmo.set 0 (.int 0)))), (ms, .inl (y 1, 765, .inl fms))]) [0, 1] rfl
  have hDc_1 := hD.sub (ws' := [(mo, .inr (11, (fmo.set 0 (.int 0)))), (ms, .inl (y 1, 765, .inl fms))]) [0, 1] (by decide +kernel) rfl
  refine vp_callSi (va_Run.run (va_runV (As := [.int p0]) (rest := []) ⟨hx, hb, hml, hown, hg⟩ (c_X11_isPerson l D y H.size mo (fmo.set 0 (.int 0)) ms fms p0 (px_sn (by decide) hmo_6) hms_e1) (cwV 1 hg (px_gV q_7_195 q_7_197 q_p_81 q_1_15 q_7_198) rfl rfl rfl (by decide +kernel) ⟨Nat.le_of_ble_eq_true rfl, Nat.le_of_ble_eq_true rfl⟩) (px_preV hK hPc_1 hDc_1 (ci := 11) (q0 := 0) rfl rfl) rfl rfl hl.1 rfl (lv_room (Nat.le_of_ble_eq_true rfl)) dX11_person_7 ⟨Nat.le_of_ble_eq_true rfl, Nat.le_of_ble_eq_true rfl⟩)) (fun r_1 hw_1 => ?_)
  obtain rfl : r_1 = 0 := hw_1
  refine lv_if_ne (tgt := 15) hx hb dX11_person_10 (by decide) (fun c_2 => absurd c_2 (by decide)) (fun _ => ?_)
  refine lv_iconst (v := (-1)) hx hb dX11_person_13 (by decide) ?_
  exact W.iret (v := (-1)) hx hb hr (fun t ht hW => ⟨⟨_, (), rfl, rfl, trivial⟩, hS.F ht⟩) hS.2.2 dX11_person_14

set_option maxHeartbeats 4000000 in
set_option maxRecDepth 100000 in
theorem c_X11_book (l : Launch) (D : va_G) (y : Nat → ClassId) (sz : Nat) (mo : Nat) (fmo : List Value) (ms : Nat) (fms : Nat → Int32) (p0 : Int32) (hmo_0 : fmo[0]? = some (.int 0)) (hmo_6 : fmo[6]? = some (.ref ms)) (hms_e0 : fms 0 = 0) : Met l yX11_book (px_w yX11_book cX11_book 2 (some .int)) ({ frames := 2, cells := 0, slots := 0, locals := 43 }) (va_Pc [.ref mo, .int p0] (px_P D y sz [(mo, .inr (11, fmo)), (ms, .inl (y 1, 765, .inl fms))])) (va_Qi (fun (r : Int32) (u : Unit) => r = (-1)) (fun (u : Unit) t => True) (va_A [(mo, .inr (11, fmo)), (ms, .inl (y 1, 765, .inl fms))] sz)) 0 0 (va_A [(mo, .inr (11, fmo)), (ms, .inl (y 1, 765, .inl fms))] sz) := by
  refine Met.ofW (cc := cX11_book) (maxL := 2) (ret := (some .int)) (by decide) rfl ?_
  intro p e s m args below meth c s₁ B hml hv
  obtain ⟨rfl, hsz, hP, hK, hD0⟩ := hv
  have hx := B.exec
  have hb := B.bytes
  have hr := B.returns
  have hts := atoms_spec (ws := px_w yX11_book cX11_book 2 (some .int)) B.pre
  have hg : ∀ w ∈ gw, w.before [.ref mo, .int p0].toArray s = true := fun w h => hts w (List.mem_cons_of_mem _ h)
  have hown : s.vm.findClass RX11 = some m.cls := findClass_of_methodNamed B.named
  have hlocks := B.notSynchronized
  subst hsz
  have hD := hD0.self (sz := s.heap.size)
  generalize hAe : va_A [(mo, .inr (11, fmo)), (ms, .inl (y 1, 765, .inl fms))] s.heap.size = A at hD ⊢
  have hA : ∀ q : Nat, s.heap.size ≤ q → A q := fun q h => by rw [← hAe]; exact Or.inr h
  have hS : va_S A s.heap s.heap [] := va_S.rf
  have hP : va_P D vwCl [(mo, .inr (11, fmo)), (ms, .inl (y 1, 765, .inl fms))] s.heap := hP
  have hl := lv_entry ([.ref mo, .int p0]) (n := 2) (Nat.le_of_ble_eq_true rfl)
  rw [lg_entry_eq]
  generalize (lg_sl ([.ref mo, .int p0]) ++ List.replicate (2 - (lg_sl ([.ref mo, .int p0])).length) Slot.unset).toArray = ls at hl ⊢
  have hl : lv_has ls 2 [(0, .ref mo), (1, .int p0)] := hl
  refine lv_aload_n hx hb dX11_book_0 rfl (lv_at hl 0 rfl) ?_
  refine lv_iconst (v := 0) hx hb dX11_book_1 (by decide) ?_
  refine va_put (D := D) (ci := 11) (v := .int 0) (ty := .int) (C := RX11) (T := TX11) (N := 65) hx hb hg inGX11 tyX11 tyX11_ok nmX11 hown hK hP hD hS 0 rfl rfl 0 (by decide) (hg _ q_6_126) (fun _ h9 => h9) rfl (by decide +kernel) rfl rfl (px_len hmo_0) dX11_book_2 (fun H locs hP hD hS => ?_)
  have hP : va_P D vwCl [(mo, .inr (11, (fmo.set 0 (.int 0)))), (ms, .inl (y 1, 765, .inl fms))] H := hP
  have hD : va_D A [(mo, .inr (11, (fmo.set 0 (.int 0)))), (ms, .inl (y 1, 765, .inl fms))] := hD
  refine lv_aload_n hx hb dX11_book_5 rfl (lv_at hl 0 rfl) ?_
  refine lv_iload_n hx hb dX11_book_6 rfl (lv_at hl 1 rfl) ?_
  have hPc_1 := hP.sub (ws' := [(mo, .inr (11, (fmo.set 0 (.int 0)))), (ms, .inl (y 1, 765, .inl fms))]) [0, 1] rfl
  have hDc_1 := hD.sub (ws' := [(mo, .inr (11, (fmo.set 0 (.int 0)))), (ms, .inl (y 1, 765, .inl fms))]) [0, 1] (by decide +kernel) rfl
  refine vp_callSi (va_Run.run (va_runV (As := [.int p0]) (rest := []) ⟨hx, hb, hml, hown, hg⟩ (c_X11_isKind l D y H.size mo (fmo.set 0 (.int 0)) ms fms p0 (px_sn (by decide) hmo_6) hms_e0) (cwV 1 hg (px_gV q_7_199 q_7_201 q_p_82 q_1_15 q_7_202) rfl rfl rfl (by decide +kernel) ⟨Nat.le_of_ble_eq_true rfl, Nat.le_of_ble_eq_true rfl⟩) (px_preV hK hPc_1 hDc_1 (ci := 11) (q0 := 0) rfl rfl) rfl rfl hl.1 rfl (lv_room (Nat.le_of_ble_eq_true rfl)) dX11_book_7 ⟨Nat.le_of_ble_eq_true rfl, Nat.le_of_ble_eq_true rfl⟩)) (fun r_1 hw_1 => ?_)
  obtain rfl : r_1 = 0 := hw_1
  refine lv_if_eq (tgt := 28) hx hb dX11_book_10 (by decide) (fun _ => ?_) (fun c_2 => absurd c_2 (by decide))
  refine lv_iconst (v := (-1)) hx hb dX11_book_28 (by decide) ?_
  exact W.iret (v := (-1)) hx hb hr (fun t ht hW => ⟨⟨_, (), rfl, rfl, trivial⟩, hS.F ht⟩) hS.2.2 dX11_book_29

set_option maxHeartbeats 4000000 in
set_option maxRecDepth 100000 in
theorem c_X11_heap (l : Launch) (D : va_G) (y : Nat → ClassId) (sz : Nat) (mo : Nat) (fmo : List Value) (ms : Nat) (fms : Nat → Int32) (p0 : Int32) (hmo_0 : fmo[0]? = some (.int 0)) (hmo_6 : fmo[6]? = some (.ref ms)) (hms_e7 : fms 7 = 0) : Met l yX11_heap (px_w yX11_heap cX11_heap 2 (some .int)) ({ frames := 1, cells := 0, slots := 0, locals := 22 }) (va_Pc [.ref mo, .int p0] (px_P D y sz [(mo, .inr (11, fmo)), (ms, .inl (y 1, 765, .inl fms))])) (va_Qi (fun (r : Int32) (u : Unit) => r = (-1)) (fun (u : Unit) t => True) (va_A [(mo, .inr (11, fmo)), (ms, .inl (y 1, 765, .inl fms))] sz)) 0 0 (va_A [(mo, .inr (11, fmo)), (ms, .inl (y 1, 765, .inl fms))] sz) := by
  refine Met.ofW (cc := cX11_heap) (maxL := 2) (ret := (some .int)) (by decide) rfl ?_
  intro p e s m args below meth c s₁ B hml hv
  obtain ⟨rfl, hsz, hP, hK, hD0⟩ := hv
  have hx := B.exec
  have hb := B.bytes
  have hr := B.returns
  have hts := atoms_spec (ws := px_w yX11_heap cX11_heap 2 (some .int)) B.pre
  have hg : ∀ w ∈ gw, w.before [.ref mo, .int p0].toArray s = true := fun w h => hts w (List.mem_cons_of_mem _ h)
  have hown : s.vm.findClass RX11 = some m.cls := findClass_of_methodNamed B.named
  have hlocks := B.notSynchronized
  subst hsz
  have hD := hD0.self (sz := s.heap.size)
  generalize hAe : va_A [(mo, .inr (11, fmo)), (ms, .inl (y 1, 765, .inl fms))] s.heap.size = A at hD ⊢
  have hA : ∀ q : Nat, s.heap.size ≤ q → A q := fun q h => by rw [← hAe]; exact Or.inr h
  have hS : va_S A s.heap s.heap [] := va_S.rf
  have hP : va_P D vwCl [(mo, .inr (11, fmo)), (ms, .inl (y 1, 765, .inl fms))] s.heap := hP
  have hl := lv_entry ([.ref mo, .int p0]) (n := 2) (Nat.le_of_ble_eq_true rfl)
  rw [lg_entry_eq]
  generalize (lg_sl ([.ref mo, .int p0]) ++ List.replicate (2 - (lg_sl ([.ref mo, .int p0])).length) Slot.unset).toArray = ls at hl ⊢
  have hl : lv_has ls 2 [(0, .ref mo), (1, .int p0)] := hl
  refine lv_aload_n hx hb dX11_heap_0 rfl (lv_at hl 0 rfl) ?_
  refine lv_iconst (v := 0) hx hb dX11_heap_1 (by decide) ?_
  refine va_put (D := D) (ci := 11) (v := .int 0) (ty := .int) (C := RX11) (T := TX11) (N := 65) hx hb hg inGX11 tyX11 tyX11_ok nmX11 hown hK hP hD hS 0 rfl rfl 0 (by decide) (hg _ q_6_126) (fun _ h9 => h9) rfl (by decide +kernel) rfl rfl (px_len hmo_0) dX11_heap_2 (fun H locs hP hD hS => ?_)
  have hP : va_P D vwCl [(mo, .inr (11, (fmo.set 0 (.int 0)))), (ms, .inl (y 1, 765, .inl fms))] H := hP
  have hD : va_D A [(mo, .inr (11, (fmo.set 0 (.int 0)))), (ms, .inl (y 1, 765, .inl fms))] := hD
  refine lv_iload_n hx hb dX11_heap_5 rfl (lv_at hl 1 rfl) ?_
  refine lv_iconst (v := 0) hx hb dX11_heap_6 (by decide) ?_
  refine lv_aload_n hx hb dX11_heap_7 rfl (lv_at hl 0 rfl) ?_
  refine va_get (D := D) (ci := 11) (v := .ref ms) (C := RX11) (T := TX11) (N := 65) hx hb hg inGX11 hown hK hP 0 rfl rfl 6 (by decide) (hg _ q_6_132) (fun _ h9 => h9) (px_sn (by decide) hmo_6) dX11_heap_8 ?_
  refine lv_bipush (v := 7) hx hb dX11_heap_11 (by decide) ?_
  refine va_iald hx hb hK hP 1 1 rfl rfl (i := 7) (px_in (by decide)) dX11_heap_13 ?_
  refine px_top (v := 0) hms_e7 ?_
  refine lv_iconst (v := 1) hx hb dX11_heap_14 (by decide) ?_
  refine lv_isub hx hb dX11_heap_15 ?_
  refine px_top (v := (-1)) (by decide) ?_
  have hPc_1 := hP.sub (ws' := []) [] rfl
  have hDc_1 := hD.sub (ws' := []) [] (by decide +kernel) rfl
  refine vp_callSi (va_Run.run (va_runS (As := [.int p0, .int 0, .int (-1)]) (rest := []) ⟨hx, hb, hml, hown, hg⟩ (c_X11_isIn l D y H.size p0 0 (-1) ) (va_cwS 3 hg (px_gS q_7_121 q_7_122 q_1_15 q_7_123) rfl rfl rfl (by decide +kernel) ⟨Nat.le_of_ble_eq_true rfl, Nat.le_of_ble_eq_true rfl⟩) (px_preS hK hPc_1 hDc_1) rfl rfl hl.1 rfl (lv_room (Nat.le_of_ble_eq_true rfl)) dX11_heap_16 ⟨Nat.le_of_ble_eq_true rfl, Nat.le_of_ble_eq_true rfl⟩)) (fun r_1 hw_1 => ?_)
  rcases hw_1 with ⟨rfl, g_1_0_0, g_1_0_1⟩ | ⟨rfl, g_1_1_0⟩ | ⟨rfl, g_1_2_0⟩
  · exact (by exfalso; simp only [Int32.lt_iff_toInt_lt, Int32.le_iff_toInt_le, ← Int32.toInt_inj] at g_1_0_0 g_1_0_1; have e0 : ((-1) : Int32).toInt = -1 := rfl; have e1 : (0 : Int32).toInt = 0 := rfl; omega)
  · refine lv_if_eq (tgt := 34) hx hb dX11_heap_19 (by decide) (fun _ => ?_) (fun c_2 => absurd c_2 (by decide))
    refine lv_iconst (v := (-1)) hx hb dX11_heap_34 (by decide) ?_
    exact W.iret (v := (-1)) hx hb hr (fun t ht hW => ⟨⟨_, (), rfl, rfl, trivial⟩, hS.F ht⟩) hS.2.2 dX11_heap_35
  · refine lv_if_eq (tgt := 34) hx hb dX11_heap_19 (by decide) (fun _ => ?_) (fun c_3 => absurd c_3 (by decide))
    refine lv_iconst (v := (-1)) hx hb dX11_heap_34 (by decide) ?_
    exact W.iret (v := (-1)) hx hb hr (fun t ht hW => ⟨⟨_, (), rfl, rfl, trivial⟩, hS.F ht⟩) hS.2.2 dX11_heap_35

set_option maxHeartbeats 4000000 in
set_option maxRecDepth 100000 in
theorem c_X11_why (l : Launch) (D : va_G) (y : Nat → ClassId) (sz : Nat) (mo : Nat) (fmo : List Value) (ms : Nat) (fms : Nat → Int32) (p0 : Int32) (p1 : Int32) (p2 : Int32) (hmo_0 : fmo[0]? = some (.int 0)) (hmo_6 : fmo[6]? = some (.ref ms)) (hms_e1 : fms 1 = 0) : Met l yX11_why (px_w yX11_why cX11_why 4 (some .int)) ({ frames := 3, cells := 0, slots := 0, locals := 66 }) (va_Pc [.ref mo, .int p0, .int p1, .int p2] (px_P D y sz [(mo, .inr (11, fmo)), (ms, .inl (y 1, 765, .inl fms))])) (va_Qi (fun (r : Int32) (u : Unit) => r = (-1)) (fun (u : Unit) t => True) (va_A [(mo, .inr (11, fmo)), (ms, .inl (y 1, 765, .inl fms))] sz)) 0 0 (va_A [(mo, .inr (11, fmo)), (ms, .inl (y 1, 765, .inl fms))] sz) := by
  refine Met.ofW (cc := cX11_why) (maxL := 4) (ret := (some .int)) (by decide) rfl ?_
  intro p e s m args below meth c s₁ B hml hv
  obtain ⟨rfl, hsz, hP, hK, hD0⟩ := hv
  have hx := B.exec
  have hb := B.bytes
  have hr := B.returns
  have hts := atoms_spec (ws := px_w yX11_why cX11_why 4 (some .int)) B.pre
  have hg : ∀ w ∈ gw, w.before [.ref mo, .int p0, .int p1, .int p2].toArray s = true := fun w h => hts w (List.mem_cons_of_mem _ h)
  have hown : s.vm.findClass RX11 = some m.cls := findClass_of_methodNamed B.named
  have hlocks := B.notSynchronized
  subst hsz
  have hD := hD0.self (sz := s.heap.size)
  generalize hAe : va_A [(mo, .inr (11, fmo)), (ms, .inl (y 1, 765, .inl fms))] s.heap.size = A at hD ⊢
  have hA : ∀ q : Nat, s.heap.size ≤ q → A q := fun q h => by rw [← hAe]; exact Or.inr h
  have hS : va_S A s.heap s.heap [] := va_S.rf
  have hP : va_P D vwCl [(mo, .inr (11, fmo)), (ms, .inl (y 1, 765, .inl fms))] s.heap := hP
  have hl := lv_entry ([.ref mo, .int p0, .int p1, .int p2]) (n := 4) (Nat.le_of_ble_eq_true rfl)
  rw [lg_entry_eq]
  generalize (lg_sl ([.ref mo, .int p0, .int p1, .int p2]) ++ List.replicate (4 - (lg_sl ([.ref mo, .int p0, .int p1, .int p2])).length) Slot.unset).toArray = ls at hl ⊢
  have hl : lv_has ls 4 [(0, .ref mo), (1, .int p0), (2, .int p1), (3, .int p2)] := hl
  refine lv_aload_n hx hb dX11_why_0 rfl (lv_at hl 0 rfl) ?_
  refine lv_iconst (v := 0) hx hb dX11_why_1 (by decide) ?_
  refine va_put (D := D) (ci := 11) (v := .int 0) (ty := .int) (C := RX11) (T := TX11) (N := 65) hx hb hg inGX11 tyX11 tyX11_ok nmX11 hown hK hP hD hS 0 rfl rfl 0 (by decide) (hg _ q_6_126) (fun _ h9 => h9) rfl (by decide +kernel) rfl rfl (px_len hmo_0) dX11_why_2 (fun H locs hP hD hS => ?_)
  have hP : va_P D vwCl [(mo, .inr (11, (fmo.set 0 (.int 0)))), (ms, .inl (y 1, 765, .inl fms))] H := hP
  have hD : va_D A [(mo, .inr (11, (fmo.set 0 (.int 0)))), (ms, .inl (y 1, 765, .inl fms))] := hD
  refine lv_aload_n hx hb dX11_why_5 rfl (lv_at hl 0 rfl) ?_
  refine lv_iload_n hx hb dX11_why_6 rfl (lv_at hl 1 rfl) ?_
  refine lv_iload_n hx hb dX11_why_7 rfl (lv_at hl 2 rfl) ?_
  refine lv_iload_n hx hb dX11_why_8 rfl (lv_at hl 3 rfl) ?_
  have hPc_1 := hP.sub (ws' := [(mo, .inr (11, (fmo.set 0 (.int 0)))), (ms, .inl (y 1, 765, .inl fms))]) [0, 1] rfl
  have hDc_1 := hD.sub (ws' := [(mo, .inr (11, (fmo.set 0 (.int 0)))), (ms, .inl (y 1, 765, .inl fms))]) [0, 1] (by decide +kernel) rfl
  refine vp_callSi (va_Run.run (va_runV (As := [.int p0, .int p1, .int p2]) (rest := []) ⟨hx, hb, hml, hown, hg⟩ (c_X11_areAsked l D y H.size mo (fmo.set 0 (.int 0)) ms fms p0 p1 p2 (px_sn (by decide) hmo_6) hms_e1) (cwV 3 hg (px_gV q_7_235 q_7_237 q_p_86 q_1_15 q_7_238) rfl rfl rfl (by decide +kernel) ⟨Nat.le_of_ble_eq_true rfl, Nat.le_of_ble_eq_true rfl⟩) (px_preV hK hPc_1 hDc_1 (ci := 11) (q0 := 0) rfl rfl) rfl rfl hl.1 rfl (lv_room (Nat.le_of_ble_eq_true rfl)) dX11_why_9 ⟨Nat.le_of_ble_eq_true rfl, Nat.le_of_ble_eq_true rfl⟩)) (fun r_1 hw_1 => ?_)
  obtain rfl : r_1 = 0 := hw_1
  refine lv_if_eq (tgt := 25) hx hb dX11_why_12 (by decide) (fun _ => ?_) (fun c_2 => absurd c_2 (by decide))
  refine lv_iconst (v := (-1)) hx hb dX11_why_25 (by decide) ?_
  exact W.iret (v := (-1)) hx hb hr (fun t ht hW => ⟨⟨_, (), rfl, rfl, trivial⟩, hS.F ht⟩) hS.2.2 dX11_why_26

set_option maxHeartbeats 4000000 in
set_option maxRecDepth 100000 in
theorem c_X11_ask (l : Launch) (D : va_G) (y : Nat → ClassId) (sz : Nat) (mo : Nat) (fmo : List Value) (ms : Nat) (fms : Nat → Int32) (p0 : Int32) (p1 : Int32) (p2 : Int32) (p3 : Int32) (hmo_0 : fmo[0]? = some (.int 0)) (hmo_6 : fmo[6]? = some (.ref ms)) (hms_e1 : fms 1 = 0) : Met l yX11_ask (px_w yX11_ask cX11_ask 6 (some .int)) ({ frames := 3, cells := 0, slots := 0, locals := 66 }) (va_Pc [.ref mo, .int p0, .int p1, .int p2, .int p3] (px_P D y sz [(mo, .inr (11, fmo)), (ms, .inl (y 1, 765, .inl fms))])) (va_Qi (fun (r : Int32) (u : Unit) => r = (-1)) (fun (u : Unit) t => True) (va_A [(mo, .inr (11, fmo)), (ms, .inl (y 1, 765, .inl fms))] sz)) 0 0 (va_A [(mo, .inr (11, fmo)), (ms, .inl (y 1, 765, .inl fms))] sz) := by
  refine Met.ofW (cc := cX11_ask) (maxL := 6) (ret := (some .int)) (by decide) rfl ?_
  intro p e s m args below meth c s₁ B hml hv
  obtain ⟨rfl, hsz, hP, hK, hD0⟩ := hv
  have hx := B.exec
  have hb := B.bytes
  have hr := B.returns
  have hts := atoms_spec (ws := px_w yX11_ask cX11_ask 6 (some .int)) B.pre
  have hg : ∀ w ∈ gw, w.before [.ref mo, .int p0, .int p1, .int p2, .int p3].toArray s = true := fun w h => hts w (List.mem_cons_of_mem _ h)
  have hown : s.vm.findClass RX11 = some m.cls := findClass_of_methodNamed B.named
  have hlocks := B.notSynchronized
  subst hsz
  have hD := hD0.self (sz := s.heap.size)
  generalize hAe : va_A [(mo, .inr (11, fmo)), (ms, .inl (y 1, 765, .inl fms))] s.heap.size = A at hD ⊢
  have hA : ∀ q : Nat, s.heap.size ≤ q → A q := fun q h => by rw [← hAe]; exact Or.inr h
  have hS : va_S A s.heap s.heap [] := va_S.rf
  have hP : va_P D vwCl [(mo, .inr (11, fmo)), (ms, .inl (y 1, 765, .inl fms))] s.heap := hP
  have hl := lv_entry ([.ref mo, .int p0, .int p1, .int p2, .int p3]) (n := 6) (Nat.le_of_ble_eq_true rfl)
  rw [lg_entry_eq]
  generalize (lg_sl ([.ref mo, .int p0, .int p1, .int p2, .int p3]) ++ List.replicate (6 - (lg_sl ([.ref mo, .int p0, .int p1, .int p2, .int p3])).length) Slot.unset).toArray = ls at hl ⊢
  have hl : lv_has ls 6 [(0, .ref mo), (1, .int p0), (2, .int p1), (3, .int p2), (4, .int p3)] := hl
  refine lv_aload_n hx hb dX11_ask_0 rfl (lv_at hl 0 rfl) ?_
  refine lv_iconst (v := 0) hx hb dX11_ask_1 (by decide) ?_
  refine va_put (D := D) (ci := 11) (v := .int 0) (ty := .int) (C := RX11) (T := TX11) (N := 65) hx hb hg inGX11 tyX11 tyX11_ok nmX11 hown hK hP hD hS 0 rfl rfl 0 (by decide) (hg _ q_6_126) (fun _ h9 => h9) rfl (by decide +kernel) rfl rfl (px_len hmo_0) dX11_ask_2 (fun H locs hP hD hS => ?_)
  have hP : va_P D vwCl [(mo, .inr (11, (fmo.set 0 (.int 0)))), (ms, .inl (y 1, 765, .inl fms))] H := hP
  have hD : va_D A [(mo, .inr (11, (fmo.set 0 (.int 0)))), (ms, .inl (y 1, 765, .inl fms))] := hD
  refine lv_aload_n hx hb dX11_ask_5 rfl (lv_at hl 0 rfl) ?_
  refine lv_iload_n hx hb dX11_ask_6 rfl (lv_at hl 1 rfl) ?_
  refine lv_iload_n hx hb dX11_ask_7 rfl (lv_at hl 2 rfl) ?_
  refine lv_iload_n hx hb dX11_ask_8 rfl (lv_at hl 3 rfl) ?_
  have hPc_1 := hP.sub (ws' := [(mo, .inr (11, (fmo.set 0 (.int 0)))), (ms, .inl (y 1, 765, .inl fms))]) [0, 1] rfl
  have hDc_1 := hD.sub (ws' := [(mo, .inr (11, (fmo.set 0 (.int 0)))), (ms, .inl (y 1, 765, .inl fms))]) [0, 1] (by decide +kernel) rfl
  refine vp_callSi (va_Run.run (va_runV (As := [.int p0, .int p1, .int p2]) (rest := []) ⟨hx, hb, hml, hown, hg⟩ (c_X11_areAsked l D y H.size mo (fmo.set 0 (.int 0)) ms fms p0 p1 p2 (px_sn (by decide) hmo_6) hms_e1) (cwV 3 hg (px_gV q_7_235 q_7_237 q_p_86 q_1_15 q_7_238) rfl rfl rfl (by decide +kernel) ⟨Nat.le_of_ble_eq_true rfl, Nat.le_of_ble_eq_true rfl⟩) (px_preV hK hPc_1 hDc_1 (ci := 11) (q0 := 0) rfl rfl) rfl rfl hl.1 rfl (lv_room (Nat.le_of_ble_eq_true rfl)) dX11_ask_9 ⟨Nat.le_of_ble_eq_true rfl, Nat.le_of_ble_eq_true rfl⟩)) (fun r_1 hw_1 => ?_)
  obtain rfl : r_1 = 0 := hw_1
  refine lv_if_eq (tgt := 25) hx hb dX11_ask_12 (by decide) (fun _ => ?_) (fun c_2 => absurd c_2 (by decide))
  refine lv_iconst (v := (-1)) hx hb dX11_ask_25 (by decide) ?_
  exact W.iret (v := (-1)) hx hb hr (fun t ht hW => ⟨⟨_, (), rfl, rfl, trivial⟩, hS.F ht⟩) hS.2.2 dX11_ask_26

set_option maxHeartbeats 4000000 in
set_option maxRecDepth 100000 in
theorem c_X11_undo (l : Launch) (D : va_G) (y : Nat → ClassId) (sz : Nat) (mo : Nat) (fmo : List Value) (hmo_0 : fmo[0]? = some (.int 0)) (hmo_27 : fmo[27]? = some (.int 0)) : Met l yX11_undo (px_w yX11_undo cX11_undo 2 (some .int)) ({ frames := 0, cells := 0, slots := 0, locals := 0 }) (va_Pc [.ref mo] (px_P D y sz [(mo, .inr (11, fmo))])) (va_Qi (fun (r : Int32) (u : Unit) => r = (-1)) (fun (u : Unit) t => True) (va_A [(mo, .inr (11, fmo))] sz)) 0 0 (va_A [(mo, .inr (11, fmo))] sz) := by
  refine Met.ofW (cc := cX11_undo) (maxL := 2) (ret := (some .int)) (by decide) rfl ?_
  intro p e s m args below meth c s₁ B hml hv
  obtain ⟨rfl, hsz, hP, hK, hD0⟩ := hv
  have hx := B.exec
  have hb := B.bytes
  have hr := B.returns
  have hts := atoms_spec (ws := px_w yX11_undo cX11_undo 2 (some .int)) B.pre
  have hg : ∀ w ∈ gw, w.before [.ref mo].toArray s = true := fun w h => hts w (List.mem_cons_of_mem _ h)
  have hown : s.vm.findClass RX11 = some m.cls := findClass_of_methodNamed B.named
  have hlocks := B.notSynchronized
  subst hsz
  have hD := hD0.self (sz := s.heap.size)
  generalize hAe : va_A [(mo, .inr (11, fmo))] s.heap.size = A at hD ⊢
  have hA : ∀ q : Nat, s.heap.size ≤ q → A q := fun q h => by rw [← hAe]; exact Or.inr h
  have hS : va_S A s.heap s.heap [] := va_S.rf
  have hP : va_P D vwCl [(mo, .inr (11, fmo))] s.heap := hP
  have hl := lv_entry ([.ref mo]) (n := 2) (Nat.le_of_ble_eq_true rfl)
  rw [lg_entry_eq]
  generalize (lg_sl ([.ref mo]) ++ List.replicate (2 - (lg_sl ([.ref mo])).length) Slot.unset).toArray = ls at hl ⊢
  have hl : lv_has ls 2 [(0, .ref mo)] := hl
  refine lv_aload_n hx hb dX11_undo_0 rfl (lv_at hl 0 rfl) ?_
  refine lv_iconst (v := 0) hx hb dX11_undo_1 (by decide) ?_
  refine va_put (D := D) (ci := 11) (v := .int 0) (ty := .int) (C := RX11) (T := TX11) (N := 65) hx hb hg inGX11 tyX11 tyX11_ok nmX11 hown hK hP hD hS 0 rfl rfl 0 (by decide) (hg _ q_6_126) (fun _ h9 => h9) rfl (by decide +kernel) rfl rfl (px_len hmo_0) dX11_undo_2 (fun H locs hP hD hS => ?_)
  have hP : va_P D vwCl [(mo, .inr (11, (fmo.set 0 (.int 0))))] H := hP
  have hD : va_D A [(mo, .inr (11, (fmo.set 0 (.int 0))))] := hD
  refine lv_aload_n hx hb dX11_undo_5 rfl (lv_at hl 0 rfl) ?_
  refine va_get (D := D) (ci := 11) (v := .int 0) (C := RX11) (T := TX11) (N := 65) hx hb hg inGX11 hown hK hP 0 rfl rfl 27 (by decide) (hg _ q_6_153) (fun _ h9 => h9) (px_sn (by decide) hmo_27) dX11_undo_6 ?_
  refine lv_if_ne (tgt := 14) hx hb dX11_undo_9 (by decide) (fun c_1 => absurd c_1 (by decide)) (fun _ => ?_)
  refine lv_iconst (v := (-1)) hx hb dX11_undo_12 (by decide) ?_
  exact W.iret (v := (-1)) hx hb hr (fun t ht hW => ⟨⟨_, (), rfl, rfl, trivial⟩, hS.F ht⟩) hS.2.2 dX11_undo_13

set_option maxHeartbeats 4000000 in
set_option maxRecDepth 100000 in
theorem c_X11_known (l : Launch) (D : va_G) (y : Nat → ClassId) (sz : Nat) (mo : Nat) (fmo : List Value) (ms : Nat) (fms : Nat → Int32) (p0 : Int32) (p1 : Int32) (hmo_0 : fmo[0]? = some (.int 0)) (hmo_6 : fmo[6]? = some (.ref ms)) (hms_e1 : fms 1 = 0) : Met l yX11_known (px_w yX11_known cX11_known 3 (some .int)) ({ frames := 2, cells := 0, slots := 0, locals := 43 }) (va_Pc [.ref mo, .int p0, .int p1] (px_P D y sz [(mo, .inr (11, fmo)), (ms, .inl (y 1, 765, .inl fms))])) (va_Qi (fun (r : Int32) (u : Unit) => r = (-1)) (fun (u : Unit) t => True) (va_A [(mo, .inr (11, fmo)), (ms, .inl (y 1, 765, .inl fms))] sz)) 0 0 (va_A [(mo, .inr (11, fmo)), (ms, .inl (y 1, 765, .inl fms))] sz) := by
  refine Met.ofW (cc := cX11_known) (maxL := 3) (ret := (some .int)) (by decide) rfl ?_
  intro p e s m args below meth c s₁ B hml hv
  obtain ⟨rfl, hsz, hP, hK, hD0⟩ := hv
  have hx := B.exec
  have hb := B.bytes
  have hr := B.returns
  have hts := atoms_spec (ws := px_w yX11_known cX11_known 3 (some .int)) B.pre
  have hg : ∀ w ∈ gw, w.before [.ref mo, .int p0, .int p1].toArray s = true := fun w h => hts w (List.mem_cons_of_mem _ h)
  have hown : s.vm.findClass RX11 = some m.cls := findClass_of_methodNamed B.named
  have hlocks := B.notSynchronized
  subst hsz
  have hD := hD0.self (sz := s.heap.size)
  generalize hAe : va_A [(mo, .inr (11, fmo)), (ms, .inl (y 1, 765, .inl fms))] s.heap.size = A at hD ⊢
  have hA : ∀ q : Nat, s.heap.size ≤ q → A q := fun q h => by rw [← hAe]; exact Or.inr h
  have hS : va_S A s.heap s.heap [] := va_S.rf
  have hP : va_P D vwCl [(mo, .inr (11, fmo)), (ms, .inl (y 1, 765, .inl fms))] s.heap := hP
  have hl := lv_entry ([.ref mo, .int p0, .int p1]) (n := 3) (Nat.le_of_ble_eq_true rfl)
  rw [lg_entry_eq]
  generalize (lg_sl ([.ref mo, .int p0, .int p1]) ++ List.replicate (3 - (lg_sl ([.ref mo, .int p0, .int p1])).length) Slot.unset).toArray = ls at hl ⊢
  have hl : lv_has ls 3 [(0, .ref mo), (1, .int p0), (2, .int p1)] := hl
  refine lv_aload_n hx hb dX11_known_0 rfl (lv_at hl 0 rfl) ?_
  refine lv_iconst (v := 0) hx hb dX11_known_1 (by decide) ?_
  refine va_put (D := D) (ci := 11) (v := .int 0) (ty := .int) (C := RX11) (T := TX11) (N := 65) hx hb hg inGX11 tyX11 tyX11_ok nmX11 hown hK hP hD hS 0 rfl rfl 0 (by decide) (hg _ q_6_126) (fun _ h9 => h9) rfl (by decide +kernel) rfl rfl (px_len hmo_0) dX11_known_2 (fun H locs hP hD hS => ?_)
  have hP : va_P D vwCl [(mo, .inr (11, (fmo.set 0 (.int 0)))), (ms, .inl (y 1, 765, .inl fms))] H := hP
  have hD : va_D A [(mo, .inr (11, (fmo.set 0 (.int 0)))), (ms, .inl (y 1, 765, .inl fms))] := hD
  refine lv_aload_n hx hb dX11_known_5 rfl (lv_at hl 0 rfl) ?_
  refine lv_iload_n hx hb dX11_known_6 rfl (lv_at hl 1 rfl) ?_
  have hPc_1 := hP.sub (ws' := [(mo, .inr (11, (fmo.set 0 (.int 0)))), (ms, .inl (y 1, 765, .inl fms))]) [0, 1] rfl
  have hDc_1 := hD.sub (ws' := [(mo, .inr (11, (fmo.set 0 (.int 0)))), (ms, .inl (y 1, 765, .inl fms))]) [0, 1] (by decide +kernel) rfl
  refine vp_callSi (va_Run.run (va_runV (As := [.int p0]) (rest := []) ⟨hx, hb, hml, hown, hg⟩ (c_X11_isPerson l D y H.size mo (fmo.set 0 (.int 0)) ms fms p0 (px_sn (by decide) hmo_6) hms_e1) (cwV 1 hg (px_gV q_7_195 q_7_197 q_p_81 q_1_15 q_7_198) rfl rfl rfl (by decide +kernel) ⟨Nat.le_of_ble_eq_true rfl, Nat.le_of_ble_eq_true rfl⟩) (px_preV hK hPc_1 hDc_1 (ci := 11) (q0 := 0) rfl rfl) rfl rfl hl.1 rfl (lv_room (Nat.le_of_ble_eq_true rfl)) dX11_known_7 ⟨Nat.le_of_ble_eq_true rfl, Nat.le_of_ble_eq_true rfl⟩)) (fun r_1 hw_1 => ?_)
  obtain rfl : r_1 = 0 := hw_1
  refine lv_if_eq (tgt := 39) hx hb dX11_known_10 (by decide) (fun _ => ?_) (fun c_2 => absurd c_2 (by decide))
  refine lv_iconst (v := (-1)) hx hb dX11_known_39 (by decide) ?_
  exact W.iret (v := (-1)) hx hb hr (fun t ht hW => ⟨⟨_, (), rfl, rfl, trivial⟩, hS.F ht⟩) hS.2.2 dX11_known_40

set_option maxHeartbeats 4000000 in
set_option maxRecDepth 100000 in
theorem c_X11_can (l : Launch) (D : va_G) (y : Nat → ClassId) (sz : Nat) (mo : Nat) (fmo : List Value) (ms : Nat) (fms : Nat → Int32) (p0 : Int32) (p1 : Int32) (hmo_0 : fmo[0]? = some (.int 0)) (hmo_6 : fmo[6]? = some (.ref ms)) (hms_e1 : fms 1 = 0) : Met l yX11_can (px_w yX11_can cX11_can 5 (some .int)) ({ frames := 2, cells := 0, slots := 0, locals := 43 }) (va_Pc [.ref mo, .int p0, .int p1] (px_P D y sz [(mo, .inr (11, fmo)), (ms, .inl (y 1, 765, .inl fms))])) (va_Qi (fun (r : Int32) (u : Unit) => r = (-1)) (fun (u : Unit) t => True) (va_A [(mo, .inr (11, fmo)), (ms, .inl (y 1, 765, .inl fms))] sz)) 0 0 (va_A [(mo, .inr (11, fmo)), (ms, .inl (y 1, 765, .inl fms))] sz) := by
  refine Met.ofW (cc := cX11_can) (maxL := 5) (ret := (some .int)) (by decide) rfl ?_
  intro p e s m args below meth c s₁ B hml hv
  obtain ⟨rfl, hsz, hP, hK, hD0⟩ := hv
  have hx := B.exec
  have hb := B.bytes
  have hr := B.returns
  have hts := atoms_spec (ws := px_w yX11_can cX11_can 5 (some .int)) B.pre
  have hg : ∀ w ∈ gw, w.before [.ref mo, .int p0, .int p1].toArray s = true := fun w h => hts w (List.mem_cons_of_mem _ h)
  have hown : s.vm.findClass RX11 = some m.cls := findClass_of_methodNamed B.named
  have hlocks := B.notSynchronized
  subst hsz
  have hD := hD0.self (sz := s.heap.size)
  generalize hAe : va_A [(mo, .inr (11, fmo)), (ms, .inl (y 1, 765, .inl fms))] s.heap.size = A at hD ⊢
  have hA : ∀ q : Nat, s.heap.size ≤ q → A q := fun q h => by rw [← hAe]; exact Or.inr h
  have hS : va_S A s.heap s.heap [] := va_S.rf
  have hP : va_P D vwCl [(mo, .inr (11, fmo)), (ms, .inl (y 1, 765, .inl fms))] s.heap := hP
  have hl := lv_entry ([.ref mo, .int p0, .int p1]) (n := 5) (Nat.le_of_ble_eq_true rfl)
  rw [lg_entry_eq]
  generalize (lg_sl ([.ref mo, .int p0, .int p1]) ++ List.replicate (5 - (lg_sl ([.ref mo, .int p0, .int p1])).length) Slot.unset).toArray = ls at hl ⊢
  have hl : lv_has ls 5 [(0, .ref mo), (1, .int p0), (2, .int p1)] := hl
  refine lv_aload_n hx hb dX11_can_0 rfl (lv_at hl 0 rfl) ?_
  refine lv_iconst (v := 0) hx hb dX11_can_1 (by decide) ?_
  refine va_put (D := D) (ci := 11) (v := .int 0) (ty := .int) (C := RX11) (T := TX11) (N := 65) hx hb hg inGX11 tyX11 tyX11_ok nmX11 hown hK hP hD hS 0 rfl rfl 0 (by decide) (hg _ q_6_126) (fun _ h9 => h9) rfl (by decide +kernel) rfl rfl (px_len hmo_0) dX11_can_2 (fun H locs hP hD hS => ?_)
  have hP : va_P D vwCl [(mo, .inr (11, (fmo.set 0 (.int 0)))), (ms, .inl (y 1, 765, .inl fms))] H := hP
  have hD : va_D A [(mo, .inr (11, (fmo.set 0 (.int 0)))), (ms, .inl (y 1, 765, .inl fms))] := hD
  refine lv_aload_n hx hb dX11_can_5 rfl (lv_at hl 0 rfl) ?_
  refine lv_iload_n hx hb dX11_can_6 rfl (lv_at hl 1 rfl) ?_
  have hPc_1 := hP.sub (ws' := [(mo, .inr (11, (fmo.set 0 (.int 0)))), (ms, .inl (y 1, 765, .inl fms))]) [0, 1] rfl
  have hDc_1 := hD.sub (ws' := [(mo, .inr (11, (fmo.set 0 (.int 0)))), (ms, .inl (y 1, 765, .inl fms))]) [0, 1] (by decide +kernel) rfl
  refine vp_callSi (va_Run.run (va_runV (As := [.int p0]) (rest := []) ⟨hx, hb, hml, hown, hg⟩ (c_X11_isPerson l D y H.size mo (fmo.set 0 (.int 0)) ms fms p0 (px_sn (by decide) hmo_6) hms_e1) (cwV 1 hg (px_gV q_7_195 q_7_197 q_p_81 q_1_15 q_7_198) rfl rfl rfl (by decide +kernel) ⟨Nat.le_of_ble_eq_true rfl, Nat.le_of_ble_eq_true rfl⟩) (px_preV hK hPc_1 hDc_1 (ci := 11) (q0 := 0) rfl rfl) rfl rfl hl.1 rfl (lv_room (Nat.le_of_ble_eq_true rfl)) dX11_can_7 ⟨Nat.le_of_ble_eq_true rfl, Nat.le_of_ble_eq_true rfl⟩)) (fun r_1 hw_1 => ?_)
  obtain rfl : r_1 = 0 := hw_1
  refine lv_if_eq (tgt := 21) hx hb dX11_can_10 (by decide) (fun _ => ?_) (fun c_2 => absurd c_2 (by decide))
  refine lv_iconst (v := (-1)) hx hb dX11_can_21 (by decide) ?_
  exact W.iret (v := (-1)) hx hb hr (fun t ht hW => ⟨⟨_, (), rfl, rfl, trivial⟩, hS.F ht⟩) hS.2.2 dX11_can_22

set_option maxHeartbeats 4000000 in
set_option maxRecDepth 100000 in
theorem c_X11_whom (l : Launch) (D : va_G) (y : Nat → ClassId) (sz : Nat) (mo : Nat) (fmo : List Value) (ms : Nat) (fms : Nat → Int32) (p0 : Int32) (hmo_0 : fmo[0]? = some (.int 0)) (hmo_6 : fmo[6]? = some (.ref ms)) (hms_e1 : fms 1 = 0) : Met l yX11_whom (px_w yX11_whom cX11_whom 11 (some .int)) ({ frames := 2, cells := 0, slots := 0, locals := 43 }) (va_Pc [.ref mo, .int p0] (px_P D y sz [(mo, .inr (11, fmo)), (ms, .inl (y 1, 765, .inl fms))])) (va_Qi (fun (r : Int32) (u : Unit) => r = (-1)) (fun (u : Unit) t => True) (va_A [(mo, .inr (11, fmo)), (ms, .inl (y 1, 765, .inl fms))] sz)) 0 0 (va_A [(mo, .inr (11, fmo)), (ms, .inl (y 1, 765, .inl fms))] sz) := by
  refine Met.ofW (cc := cX11_whom) (maxL := 11) (ret := (some .int)) (by decide) rfl ?_
  intro p e s m args below meth c s₁ B hml hv
  obtain ⟨rfl, hsz, hP, hK, hD0⟩ := hv
  have hx := B.exec
  have hb := B.bytes
  have hr := B.returns
  have hts := atoms_spec (ws := px_w yX11_whom cX11_whom 11 (some .int)) B.pre
  have hg : ∀ w ∈ gw, w.before [.ref mo, .int p0].toArray s = true := fun w h => hts w (List.mem_cons_of_mem _ h)
  have hown : s.vm.findClass RX11 = some m.cls := findClass_of_methodNamed B.named
  have hlocks := B.notSynchronized
  subst hsz
  have hD := hD0.self (sz := s.heap.size)
  generalize hAe : va_A [(mo, .inr (11, fmo)), (ms, .inl (y 1, 765, .inl fms))] s.heap.size = A at hD ⊢
  have hA : ∀ q : Nat, s.heap.size ≤ q → A q := fun q h => by rw [← hAe]; exact Or.inr h
  have hS : va_S A s.heap s.heap [] := va_S.rf
  have hP : va_P D vwCl [(mo, .inr (11, fmo)), (ms, .inl (y 1, 765, .inl fms))] s.heap := hP
  have hl := lv_entry ([.ref mo, .int p0]) (n := 11) (Nat.le_of_ble_eq_true rfl)
  rw [lg_entry_eq]
  generalize (lg_sl ([.ref mo, .int p0]) ++ List.replicate (11 - (lg_sl ([.ref mo, .int p0])).length) Slot.unset).toArray = ls at hl ⊢
  have hl : lv_has ls 11 [(0, .ref mo), (1, .int p0)] := hl
  refine lv_aload_n hx hb dX11_whom_0 rfl (lv_at hl 0 rfl) ?_
  refine lv_iconst (v := 0) hx hb dX11_whom_1 (by decide) ?_
  refine va_put (D := D) (ci := 11) (v := .int 0) (ty := .int) (C := RX11) (T := TX11) (N := 65) hx hb hg inGX11 tyX11 tyX11_ok nmX11 hown hK hP hD hS 0 rfl rfl 0 (by decide) (hg _ q_6_126) (fun _ h9 => h9) rfl (by decide +kernel) rfl rfl (px_len hmo_0) dX11_whom_2 (fun H locs hP hD hS => ?_)
  have hP : va_P D vwCl [(mo, .inr (11, (fmo.set 0 (.int 0)))), (ms, .inl (y 1, 765, .inl fms))] H := hP
  have hD : va_D A [(mo, .inr (11, (fmo.set 0 (.int 0)))), (ms, .inl (y 1, 765, .inl fms))] := hD
  refine lv_aload_n hx hb dX11_whom_5 rfl (lv_at hl 0 rfl) ?_
  refine lv_iload_n hx hb dX11_whom_6 rfl (lv_at hl 1 rfl) ?_
  have hPc_1 := hP.sub (ws' := [(mo, .inr (11, (fmo.set 0 (.int 0)))), (ms, .inl (y 1, 765, .inl fms))]) [0, 1] rfl
  have hDc_1 := hD.sub (ws' := [(mo, .inr (11, (fmo.set 0 (.int 0)))), (ms, .inl (y 1, 765, .inl fms))]) [0, 1] (by decide +kernel) rfl
  refine vp_callSi (va_Run.run (va_runV (As := [.int p0]) (rest := []) ⟨hx, hb, hml, hown, hg⟩ (c_X11_isPerson l D y H.size mo (fmo.set 0 (.int 0)) ms fms p0 (px_sn (by decide) hmo_6) hms_e1) (cwV 1 hg (px_gV q_7_195 q_7_197 q_p_81 q_1_15 q_7_198) rfl rfl rfl (by decide +kernel) ⟨Nat.le_of_ble_eq_true rfl, Nat.le_of_ble_eq_true rfl⟩) (px_preV hK hPc_1 hDc_1 (ci := 11) (q0 := 0) rfl rfl) rfl rfl hl.1 rfl (lv_room (Nat.le_of_ble_eq_true rfl)) dX11_whom_7 ⟨Nat.le_of_ble_eq_true rfl, Nat.le_of_ble_eq_true rfl⟩)) (fun r_1 hw_1 => ?_)
  obtain rfl : r_1 = 0 := hw_1
  refine lv_if_eq (tgt := 29) hx hb dX11_whom_10 (by decide) (fun _ => ?_) (fun c_2 => absurd c_2 (by decide))
  refine lv_iconst (v := (-1)) hx hb dX11_whom_29 (by decide) ?_
  exact W.iret (v := (-1)) hx hb hr (fun t ht hW => ⟨⟨_, (), rfl, rfl, trivial⟩, hS.F ht⟩) hS.2.2 dX11_whom_30

set_option maxHeartbeats 4000000 in
set_option maxRecDepth 100000 in
theorem c_X11_sweep (l : Launch) (D : va_G) (y : Nat → ClassId) (sz : Nat) (mo : Nat) (fmo : List Value) (ms : Nat) (fms : Nat → Int32) (p0 : Int32) (hmo_0 : fmo[0]? = some (.int 0)) (hmo_6 : fmo[6]? = some (.ref ms)) (hms_e1 : fms 1 = 0) : Met l yX11_sweep (px_w yX11_sweep cX11_sweep 4 (some .int)) ({ frames := 2, cells := 0, slots := 0, locals := 43 }) (va_Pc [.ref mo, .int p0] (px_P D y sz [(mo, .inr (11, fmo)), (ms, .inl (y 1, 765, .inl fms))])) (va_Qi (fun (r : Int32) (u : Unit) => r = (-1)) (fun (u : Unit) t => True) (va_A [(mo, .inr (11, fmo)), (ms, .inl (y 1, 765, .inl fms))] sz)) 0 0 (va_A [(mo, .inr (11, fmo)), (ms, .inl (y 1, 765, .inl fms))] sz) := by
  refine Met.ofW (cc := cX11_sweep) (maxL := 4) (ret := (some .int)) (by decide) rfl ?_
  intro p e s m args below meth c s₁ B hml hv
  obtain ⟨rfl, hsz, hP, hK, hD0⟩ := hv
  have hx := B.exec
  have hb := B.bytes
  have hr := B.returns
  have hts := atoms_spec (ws := px_w yX11_sweep cX11_sweep 4 (some .int)) B.pre
  have hg : ∀ w ∈ gw, w.before [.ref mo, .int p0].toArray s = true := fun w h => hts w (List.mem_cons_of_mem _ h)
  have hown : s.vm.findClass RX11 = some m.cls := findClass_of_methodNamed B.named
  have hlocks := B.notSynchronized
  subst hsz
  have hD := hD0.self (sz := s.heap.size)
  generalize hAe : va_A [(mo, .inr (11, fmo)), (ms, .inl (y 1, 765, .inl fms))] s.heap.size = A at hD ⊢
  have hA : ∀ q : Nat, s.heap.size ≤ q → A q := fun q h => by rw [← hAe]; exact Or.inr h
  have hS : va_S A s.heap s.heap [] := va_S.rf
  have hP : va_P D vwCl [(mo, .inr (11, fmo)), (ms, .inl (y 1, 765, .inl fms))] s.heap := hP
  have hl := lv_entry ([.ref mo, .int p0]) (n := 4) (Nat.le_of_ble_eq_true rfl)
  rw [lg_entry_eq]
  generalize (lg_sl ([.ref mo, .int p0]) ++ List.replicate (4 - (lg_sl ([.ref mo, .int p0])).length) Slot.unset).toArray = ls at hl ⊢
  have hl : lv_has ls 4 [(0, .ref mo), (1, .int p0)] := hl
  refine lv_aload_n hx hb dX11_sweep_0 rfl (lv_at hl 0 rfl) ?_
  refine lv_iconst (v := 0) hx hb dX11_sweep_1 (by decide) ?_
  refine va_put (D := D) (ci := 11) (v := .int 0) (ty := .int) (C := RX11) (T := TX11) (N := 65) hx hb hg inGX11 tyX11 tyX11_ok nmX11 hown hK hP hD hS 0 rfl rfl 0 (by decide) (hg _ q_6_126) (fun _ h9 => h9) rfl (by decide +kernel) rfl rfl (px_len hmo_0) dX11_sweep_2 (fun H locs hP hD hS => ?_)
  have hP : va_P D vwCl [(mo, .inr (11, (fmo.set 0 (.int 0)))), (ms, .inl (y 1, 765, .inl fms))] H := hP
  have hD : va_D A [(mo, .inr (11, (fmo.set 0 (.int 0)))), (ms, .inl (y 1, 765, .inl fms))] := hD
  refine lv_aload_n hx hb dX11_sweep_5 rfl (lv_at hl 0 rfl) ?_
  refine lv_iload_n hx hb dX11_sweep_6 rfl (lv_at hl 1 rfl) ?_
  have hPc_1 := hP.sub (ws' := [(mo, .inr (11, (fmo.set 0 (.int 0)))), (ms, .inl (y 1, 765, .inl fms))]) [0, 1] rfl
  have hDc_1 := hD.sub (ws' := [(mo, .inr (11, (fmo.set 0 (.int 0)))), (ms, .inl (y 1, 765, .inl fms))]) [0, 1] (by decide +kernel) rfl
  refine vp_callSi (va_Run.run (va_runV (As := [.int p0]) (rest := []) ⟨hx, hb, hml, hown, hg⟩ (c_X11_isPerson l D y H.size mo (fmo.set 0 (.int 0)) ms fms p0 (px_sn (by decide) hmo_6) hms_e1) (cwV 1 hg (px_gV q_7_195 q_7_197 q_p_81 q_1_15 q_7_198) rfl rfl rfl (by decide +kernel) ⟨Nat.le_of_ble_eq_true rfl, Nat.le_of_ble_eq_true rfl⟩) (px_preV hK hPc_1 hDc_1 (ci := 11) (q0 := 0) rfl rfl) rfl rfl hl.1 rfl (lv_room (Nat.le_of_ble_eq_true rfl)) dX11_sweep_7 ⟨Nat.le_of_ble_eq_true rfl, Nat.le_of_ble_eq_true rfl⟩)) (fun r_1 hw_1 => ?_)
  obtain rfl : r_1 = 0 := hw_1
  refine lv_if_ne (tgt := 15) hx hb dX11_sweep_10 (by decide) (fun c_2 => absurd c_2 (by decide)) (fun _ => ?_)
  refine lv_iconst (v := (-1)) hx hb dX11_sweep_13 (by decide) ?_
  exact W.iret (v := (-1)) hx hb hr (fun t ht hW => ⟨⟨_, (), rfl, rfl, trivial⟩, hS.F ht⟩) hS.2.2 dX11_sweep_14

set_option maxHeartbeats 4000000 in
set_option maxRecDepth 100000 in
theorem c_X11_swept (l : Launch) (D : va_G) (y : Nat → ClassId) (sz : Nat) (mo : Nat) (fmo : List Value) (p0 : Int32) (hmo_0 : fmo[0]? = some (.int 0)) (hmo_37 : fmo[37]? = some (.int 0)) : Met l yX11_swept (px_w yX11_swept cX11_swept 2 (some .int)) ({ frames := 1, cells := 0, slots := 0, locals := 22 }) (va_Pc [.ref mo, .int p0] (px_P D y sz [(mo, .inr (11, fmo))])) (va_Qi (fun (r : Int32) (u : Unit) => r = (-1)) (fun (u : Unit) t => True) (va_A [(mo, .inr (11, fmo))] sz)) 0 0 (va_A [(mo, .inr (11, fmo))] sz) := by
  refine Met.ofW (cc := cX11_swept) (maxL := 2) (ret := (some .int)) (by decide) rfl ?_
  intro p e s m args below meth c s₁ B hml hv
  obtain ⟨rfl, hsz, hP, hK, hD0⟩ := hv
  have hx := B.exec
  have hb := B.bytes
  have hr := B.returns
  have hts := atoms_spec (ws := px_w yX11_swept cX11_swept 2 (some .int)) B.pre
  have hg : ∀ w ∈ gw, w.before [.ref mo, .int p0].toArray s = true := fun w h => hts w (List.mem_cons_of_mem _ h)
  have hown : s.vm.findClass RX11 = some m.cls := findClass_of_methodNamed B.named
  have hlocks := B.notSynchronized
  subst hsz
  have hD := hD0.self (sz := s.heap.size)
  generalize hAe : va_A [(mo, .inr (11, fmo))] s.heap.size = A at hD ⊢
  have hA : ∀ q : Nat, s.heap.size ≤ q → A q := fun q h => by rw [← hAe]; exact Or.inr h
  have hS : va_S A s.heap s.heap [] := va_S.rf
  have hP : va_P D vwCl [(mo, .inr (11, fmo))] s.heap := hP
  have hl := lv_entry ([.ref mo, .int p0]) (n := 2) (Nat.le_of_ble_eq_true rfl)
  rw [lg_entry_eq]
  generalize (lg_sl ([.ref mo, .int p0]) ++ List.replicate (2 - (lg_sl ([.ref mo, .int p0])).length) Slot.unset).toArray = ls at hl ⊢
  have hl : lv_has ls 2 [(0, .ref mo), (1, .int p0)] := hl
  refine lv_aload_n hx hb dX11_swept_0 rfl (lv_at hl 0 rfl) ?_
  refine lv_iconst (v := 0) hx hb dX11_swept_1 (by decide) ?_
  refine va_put (D := D) (ci := 11) (v := .int 0) (ty := .int) (C := RX11) (T := TX11) (N := 65) hx hb hg inGX11 tyX11 tyX11_ok nmX11 hown hK hP hD hS 0 rfl rfl 0 (by decide) (hg _ q_6_126) (fun _ h9 => h9) rfl (by decide +kernel) rfl rfl (px_len hmo_0) dX11_swept_2 (fun H locs hP hD hS => ?_)
  have hP : va_P D vwCl [(mo, .inr (11, (fmo.set 0 (.int 0))))] H := hP
  have hD : va_D A [(mo, .inr (11, (fmo.set 0 (.int 0))))] := hD
  refine lv_iload_n hx hb dX11_swept_5 rfl (lv_at hl 1 rfl) ?_
  refine lv_iconst (v := 0) hx hb dX11_swept_6 (by decide) ?_
  refine lv_aload_n hx hb dX11_swept_7 rfl (lv_at hl 0 rfl) ?_
  refine va_get (D := D) (ci := 11) (v := .int 0) (C := RX11) (T := TX11) (N := 65) hx hb hg inGX11 hown hK hP 0 rfl rfl 37 (by decide) (hg _ q_6_163) (fun _ h9 => h9) (px_sn (by decide) hmo_37) dX11_swept_8 ?_
  refine lv_iconst (v := 1) hx hb dX11_swept_11 (by decide) ?_
  refine lv_isub hx hb dX11_swept_12 ?_
  refine px_top (v := (-1)) (by decide) ?_
  have hPc_1 := hP.sub (ws' := []) [] rfl
  have hDc_1 := hD.sub (ws' := []) [] (by decide +kernel) rfl
  refine vp_callSi (va_Run.run (va_runS (As := [.int p0, .int 0, .int (-1)]) (rest := []) ⟨hx, hb, hml, hown, hg⟩ (c_X11_isIn l D y H.size p0 0 (-1) ) (va_cwS 3 hg (px_gS q_7_121 q_7_122 q_1_15 q_7_123) rfl rfl rfl (by decide +kernel) ⟨Nat.le_of_ble_eq_true rfl, Nat.le_of_ble_eq_true rfl⟩) (px_preS hK hPc_1 hDc_1) rfl rfl hl.1 rfl (lv_room (Nat.le_of_ble_eq_true rfl)) dX11_swept_13 ⟨Nat.le_of_ble_eq_true rfl, Nat.le_of_ble_eq_true rfl⟩)) (fun r_1 hw_1 => ?_)
  rcases hw_1 with ⟨rfl, g_1_0_0, g_1_0_1⟩ | ⟨rfl, g_1_1_0⟩ | ⟨rfl, g_1_2_0⟩
  · exact (by exfalso; simp only [Int32.lt_iff_toInt_lt, Int32.le_iff_toInt_le, ← Int32.toInt_inj] at g_1_0_0 g_1_0_1; have e0 : ((-1) : Int32).toInt = -1 := rfl; have e1 : (0 : Int32).toInt = 0 := rfl; omega)
  · refine lv_if_eq (tgt := 28) hx hb dX11_swept_16 (by decide) (fun _ => ?_) (fun c_2 => absurd c_2 (by decide))
    refine lv_iconst (v := (-1)) hx hb dX11_swept_28 (by decide) ?_
    exact W.iret (v := (-1)) hx hb hr (fun t ht hW => ⟨⟨_, (), rfl, rfl, trivial⟩, hS.F ht⟩) hS.2.2 dX11_swept_29
  · refine lv_if_eq (tgt := 28) hx hb dX11_swept_16 (by decide) (fun _ => ?_) (fun c_3 => absurd c_3 (by decide))
    refine lv_iconst (v := (-1)) hx hb dX11_swept_28 (by decide) ?_
    exact W.iret (v := (-1)) hx hb hr (fun t ht hW => ⟨⟨_, (), rfl, rfl, trivial⟩, hS.F ht⟩) hS.2.2 dX11_swept_29

set_option maxHeartbeats 4000000 in
set_option maxRecDepth 100000 in
theorem c_X11_gains (l : Launch) (D : va_G) (y : Nat → ClassId) (sz : Nat) (mo : Nat) (fmo : List Value) (ms : Nat) (fms : Nat → Int32) (p0 : Int32) (hmo_0 : fmo[0]? = some (.int 0)) (hmo_6 : fmo[6]? = some (.ref ms)) (hms_e1 : fms 1 = 0) : Met l yX11_gains (px_w yX11_gains cX11_gains 4 (some .int)) ({ frames := 2, cells := 0, slots := 0, locals := 43 }) (va_Pc [.ref mo, .int p0] (px_P D y sz [(mo, .inr (11, fmo)), (ms, .inl (y 1, 765, .inl fms))])) (va_Qi (fun (r : Int32) (u : Unit) => r = (-1)) (fun (u : Unit) t => True) (va_A [(mo, .inr (11, fmo)), (ms, .inl (y 1, 765, .inl fms))] sz)) 0 0 (va_A [(mo, .inr (11, fmo)), (ms, .inl (y 1, 765, .inl fms))] sz) := by
  refine Met.ofW (cc := cX11_gains) (maxL := 4) (ret := (some .int)) (by decide) rfl ?_
  intro p e s m args below meth c s₁ B hml hv
  obtain ⟨rfl, hsz, hP, hK, hD0⟩ := hv
  have hx := B.exec
  have hb := B.bytes
  have hr := B.returns
  have hts := atoms_spec (ws := px_w yX11_gains cX11_gains 4 (some .int)) B.pre
  have hg : ∀ w ∈ gw, w.before [.ref mo, .int p0].toArray s = true := fun w h => hts w (List.mem_cons_of_mem _ h)
  have hown : s.vm.findClass RX11 = some m.cls := findClass_of_methodNamed B.named
  have hlocks := B.notSynchronized
  subst hsz
  have hD := hD0.self (sz := s.heap.size)
  generalize hAe : va_A [(mo, .inr (11, fmo)), (ms, .inl (y 1, 765, .inl fms))] s.heap.size = A at hD ⊢
  have hA : ∀ q : Nat, s.heap.size ≤ q → A q := fun q h => by rw [← hAe]; exact Or.inr h
  have hS : va_S A s.heap s.heap [] := va_S.rf
  have hP : va_P D vwCl [(mo, .inr (11, fmo)), (ms, .inl (y 1, 765, .inl fms))] s.heap := hP
  have hl := lv_entry ([.ref mo, .int p0]) (n := 4) (Nat.le_of_ble_eq_true rfl)
  rw [lg_entry_eq]
  generalize (lg_sl ([.ref mo, .int p0]) ++ List.replicate (4 - (lg_sl ([.ref mo, .int p0])).length) Slot.unset).toArray = ls at hl ⊢
  have hl : lv_has ls 4 [(0, .ref mo), (1, .int p0)] := hl
  refine lv_aload_n hx hb dX11_gains_0 rfl (lv_at hl 0 rfl) ?_
  refine lv_iconst (v := 0) hx hb dX11_gains_1 (by decide) ?_
  refine va_put (D := D) (ci := 11) (v := .int 0) (ty := .int) (C := RX11) (T := TX11) (N := 65) hx hb hg inGX11 tyX11 tyX11_ok nmX11 hown hK hP hD hS 0 rfl rfl 0 (by decide) (hg _ q_6_126) (fun _ h9 => h9) rfl (by decide +kernel) rfl rfl (px_len hmo_0) dX11_gains_2 (fun H locs hP hD hS => ?_)
  have hP : va_P D vwCl [(mo, .inr (11, (fmo.set 0 (.int 0)))), (ms, .inl (y 1, 765, .inl fms))] H := hP
  have hD : va_D A [(mo, .inr (11, (fmo.set 0 (.int 0)))), (ms, .inl (y 1, 765, .inl fms))] := hD
  refine lv_aload_n hx hb dX11_gains_5 rfl (lv_at hl 0 rfl) ?_
  refine lv_iload_n hx hb dX11_gains_6 rfl (lv_at hl 1 rfl) ?_
  have hPc_1 := hP.sub (ws' := [(mo, .inr (11, (fmo.set 0 (.int 0)))), (ms, .inl (y 1, 765, .inl fms))]) [0, 1] rfl
  have hDc_1 := hD.sub (ws' := [(mo, .inr (11, (fmo.set 0 (.int 0)))), (ms, .inl (y 1, 765, .inl fms))]) [0, 1] (by decide +kernel) rfl
  refine vp_callSi (va_Run.run (va_runV (As := [.int p0]) (rest := []) ⟨hx, hb, hml, hown, hg⟩ (c_X11_isPerson l D y H.size mo (fmo.set 0 (.int 0)) ms fms p0 (px_sn (by decide) hmo_6) hms_e1) (cwV 1 hg (px_gV q_7_195 q_7_197 q_p_81 q_1_15 q_7_198) rfl rfl rfl (by decide +kernel) ⟨Nat.le_of_ble_eq_true rfl, Nat.le_of_ble_eq_true rfl⟩) (px_preV hK hPc_1 hDc_1 (ci := 11) (q0 := 0) rfl rfl) rfl rfl hl.1 rfl (lv_room (Nat.le_of_ble_eq_true rfl)) dX11_gains_7 ⟨Nat.le_of_ble_eq_true rfl, Nat.le_of_ble_eq_true rfl⟩)) (fun r_1 hw_1 => ?_)
  obtain rfl : r_1 = 0 := hw_1
  refine lv_if_ne (tgt := 15) hx hb dX11_gains_10 (by decide) (fun c_2 => absurd c_2 (by decide)) (fun _ => ?_)
  refine lv_iconst (v := (-1)) hx hb dX11_gains_13 (by decide) ?_
  exact W.iret (v := (-1)) hx hb hr (fun t ht hW => ⟨⟨_, (), rfl, rfl, trivial⟩, hS.F ht⟩) hS.2.2 dX11_gains_14

set_option maxHeartbeats 4000000 in
set_option maxRecDepth 100000 in
theorem c_X11_asked (l : Launch) (D : va_G) (y : Nat → ClassId) (sz : Nat) (mo : Nat) (fmo : List Value) (p0 : Int32) (hmo_0 : fmo[0]? = some (.int 0)) (hmo_24 : fmo[24]? = some (.int 0)) : Met l yX11_asked (px_w yX11_asked cX11_asked 2 (some .int)) ({ frames := 0, cells := 0, slots := 0, locals := 0 }) (va_Pc [.ref mo, .int p0] (px_P D y sz [(mo, .inr (11, fmo))])) (va_Qi (fun (r : Int32) (u : Unit) => r = (-1)) (fun (u : Unit) t => True) (va_A [(mo, .inr (11, fmo))] sz)) 0 0 (va_A [(mo, .inr (11, fmo))] sz) := by
  refine Met.ofW (cc := cX11_asked) (maxL := 2) (ret := (some .int)) (by decide) rfl ?_
  intro p e s m args below meth c s₁ B hml hv
  obtain ⟨rfl, hsz, hP, hK, hD0⟩ := hv
  have hx := B.exec
  have hb := B.bytes
  have hr := B.returns
  have hts := atoms_spec (ws := px_w yX11_asked cX11_asked 2 (some .int)) B.pre
  have hg : ∀ w ∈ gw, w.before [.ref mo, .int p0].toArray s = true := fun w h => hts w (List.mem_cons_of_mem _ h)
  have hown : s.vm.findClass RX11 = some m.cls := findClass_of_methodNamed B.named
  have hlocks := B.notSynchronized
  subst hsz
  have hD := hD0.self (sz := s.heap.size)
  generalize hAe : va_A [(mo, .inr (11, fmo))] s.heap.size = A at hD ⊢
  have hA : ∀ q : Nat, s.heap.size ≤ q → A q := fun q h => by rw [← hAe]; exact Or.inr h
  have hS : va_S A s.heap s.heap [] := va_S.rf
  have hP : va_P D vwCl [(mo, .inr (11, fmo))] s.heap := hP
  have hl := lv_entry ([.ref mo, .int p0]) (n := 2) (Nat.le_of_ble_eq_true rfl)
  rw [lg_entry_eq]
  generalize (lg_sl ([.ref mo, .int p0]) ++ List.replicate (2 - (lg_sl ([.ref mo, .int p0])).length) Slot.unset).toArray = ls at hl ⊢
  have hl : lv_has ls 2 [(0, .ref mo), (1, .int p0)] := hl
  refine lv_aload_n hx hb dX11_asked_0 rfl (lv_at hl 0 rfl) ?_
  refine lv_iconst (v := 0) hx hb dX11_asked_1 (by decide) ?_
  refine va_put (D := D) (ci := 11) (v := .int 0) (ty := .int) (C := RX11) (T := TX11) (N := 65) hx hb hg inGX11 tyX11 tyX11_ok nmX11 hown hK hP hD hS 0 rfl rfl 0 (by decide) (hg _ q_6_126) (fun _ h9 => h9) rfl (by decide +kernel) rfl rfl (px_len hmo_0) dX11_asked_2 (fun H locs hP hD hS => ?_)
  have hP : va_P D vwCl [(mo, .inr (11, (fmo.set 0 (.int 0))))] H := hP
  have hD : va_D A [(mo, .inr (11, (fmo.set 0 (.int 0))))] := hD
  refine lv_aload_n hx hb dX11_asked_5 rfl (lv_at hl 0 rfl) ?_
  refine va_get (D := D) (ci := 11) (v := .int 0) (C := RX11) (T := TX11) (N := 65) hx hb hg inGX11 hown hK hP 0 rfl rfl 24 (by decide) (hg _ q_6_150) (fun _ h9 => h9) (px_sn (by decide) hmo_24) dX11_asked_6 ?_
  refine lv_if_eq (tgt := 31) hx hb dX11_asked_9 (by decide) (fun _ => ?_) (fun c_1 => absurd c_1 (by decide))
  refine lv_iconst (v := (-1)) hx hb dX11_asked_31 (by decide) ?_
  exact W.iret (v := (-1)) hx hb hr (fun t ht hW => ⟨⟨_, (), rfl, rfl, trivial⟩, hS.F ht⟩) hS.2.2 dX11_asked_32

set_option maxHeartbeats 4000000 in
set_option maxRecDepth 100000 in
theorem c_X11_heard (l : Launch) (D : va_G) (y : Nat → ClassId) (sz : Nat) (mo : Nat) (fmo : List Value) (p0 : Int32) (hmo_0 : fmo[0]? = some (.int 0)) (hmo_54 : fmo[54]? = some (.int 0)) : Met l yX11_heard (px_w yX11_heard cX11_heard 2 (some .int)) ({ frames := 0, cells := 0, slots := 0, locals := 0 }) (va_Pc [.ref mo, .int p0] (px_P D y sz [(mo, .inr (11, fmo))])) (va_Qi (fun (r : Int32) (u : Unit) => r = (-1)) (fun (u : Unit) t => True) (va_A [(mo, .inr (11, fmo))] sz)) 0 0 (va_A [(mo, .inr (11, fmo))] sz) := by
  refine Met.ofW (cc := cX11_heard) (maxL := 2) (ret := (some .int)) (by decide) rfl ?_
  intro p e s m args below meth c s₁ B hml hv
  obtain ⟨rfl, hsz, hP, hK, hD0⟩ := hv
  have hx := B.exec
  have hb := B.bytes
  have hr := B.returns
  have hts := atoms_spec (ws := px_w yX11_heard cX11_heard 2 (some .int)) B.pre
  have hg : ∀ w ∈ gw, w.before [.ref mo, .int p0].toArray s = true := fun w h => hts w (List.mem_cons_of_mem _ h)
  have hown : s.vm.findClass RX11 = some m.cls := findClass_of_methodNamed B.named
  have hlocks := B.notSynchronized
  subst hsz
  have hD := hD0.self (sz := s.heap.size)
  generalize hAe : va_A [(mo, .inr (11, fmo))] s.heap.size = A at hD ⊢
  have hA : ∀ q : Nat, s.heap.size ≤ q → A q := fun q h => by rw [← hAe]; exact Or.inr h
  have hS : va_S A s.heap s.heap [] := va_S.rf
  have hP : va_P D vwCl [(mo, .inr (11, fmo))] s.heap := hP
  have hl := lv_entry ([.ref mo, .int p0]) (n := 2) (Nat.le_of_ble_eq_true rfl)
  rw [lg_entry_eq]
  generalize (lg_sl ([.ref mo, .int p0]) ++ List.replicate (2 - (lg_sl ([.ref mo, .int p0])).length) Slot.unset).toArray = ls at hl ⊢
  have hl : lv_has ls 2 [(0, .ref mo), (1, .int p0)] := hl
  refine lv_aload_n hx hb dX11_heard_0 rfl (lv_at hl 0 rfl) ?_
  refine lv_iconst (v := 0) hx hb dX11_heard_1 (by decide) ?_
  refine va_put (D := D) (ci := 11) (v := .int 0) (ty := .int) (C := RX11) (T := TX11) (N := 65) hx hb hg inGX11 tyX11 tyX11_ok nmX11 hown hK hP hD hS 0 rfl rfl 0 (by decide) (hg _ q_6_126) (fun _ h9 => h9) rfl (by decide +kernel) rfl rfl (px_len hmo_0) dX11_heard_2 (fun H locs hP hD hS => ?_)
  have hP : va_P D vwCl [(mo, .inr (11, (fmo.set 0 (.int 0))))] H := hP
  have hD : va_D A [(mo, .inr (11, (fmo.set 0 (.int 0))))] := hD
  refine lv_aload_n hx hb dX11_heard_5 rfl (lv_at hl 0 rfl) ?_
  refine va_get (D := D) (ci := 11) (v := .int 0) (C := RX11) (T := TX11) (N := 65) hx hb hg inGX11 hown hK hP 0 rfl rfl 54 (by decide) (hg _ q_6_180) (fun _ h9 => h9) (px_sn (by decide) hmo_54) dX11_heard_6 ?_
  refine lv_if_eq (tgt := 30) hx hb dX11_heard_9 (by decide) (fun _ => ?_) (fun c_1 => absurd c_1 (by decide))
  refine lv_iconst (v := (-1)) hx hb dX11_heard_30 (by decide) ?_
  exact W.iret (v := (-1)) hx hb hr (fun t ht hW => ⟨⟨_, (), rfl, rfl, trivial⟩, hS.F ht⟩) hS.2.2 dX11_heard_31

set_option maxHeartbeats 4000000 in
set_option maxRecDepth 100000 in
theorem c_X11_bent (l : Launch) (D : va_G) (y : Nat → ClassId) (sz : Nat) (mo : Nat) (fmo : List Value) (ms : Nat) (fms : Nat → Int32) (p0 : Int32) (p1 : Int32) (hmo_0 : fmo[0]? = some (.int 0)) (hmo_6 : fmo[6]? = some (.ref ms)) (hms_e1 : fms 1 = 0) : Met l yX11_bent (px_w yX11_bent cX11_bent 3 (some .int)) ({ frames := 2, cells := 0, slots := 0, locals := 43 }) (va_Pc [.ref mo, .int p0, .int p1] (px_P D y sz [(mo, .inr (11, fmo)), (ms, .inl (y 1, 765, .inl fms))])) (va_Qi (fun (r : Int32) (u : Unit) => r = (-1)) (fun (u : Unit) t => True) (va_A [(mo, .inr (11, fmo)), (ms, .inl (y 1, 765, .inl fms))] sz)) 0 0 (va_A [(mo, .inr (11, fmo)), (ms, .inl (y 1, 765, .inl fms))] sz) := by
  refine Met.ofW (cc := cX11_bent) (maxL := 3) (ret := (some .int)) (by decide) rfl ?_
  intro p e s m args below meth c s₁ B hml hv
  obtain ⟨rfl, hsz, hP, hK, hD0⟩ := hv
  have hx := B.exec
  have hb := B.bytes
  have hr := B.returns
  have hts := atoms_spec (ws := px_w yX11_bent cX11_bent 3 (some .int)) B.pre
  have hg : ∀ w ∈ gw, w.before [.ref mo, .int p0, .int p1].toArray s = true := fun w h => hts w (List.mem_cons_of_mem _ h)
  have hown : s.vm.findClass RX11 = some m.cls := findClass_of_methodNamed B.named
  have hlocks := B.notSynchronized
  subst hsz
  have hD := hD0.self (sz := s.heap.size)
  generalize hAe : va_A [(mo, .inr (11, fmo)), (ms, .inl (y 1, 765, .inl fms))] s.heap.size = A at hD ⊢
  have hA : ∀ q : Nat, s.heap.size ≤ q → A q := fun q h => by rw [← hAe]; exact Or.inr h
  have hS : va_S A s.heap s.heap [] := va_S.rf
  have hP : va_P D vwCl [(mo, .inr (11, fmo)), (ms, .inl (y 1, 765, .inl fms))] s.heap := hP
  have hl := lv_entry ([.ref mo, .int p0, .int p1]) (n := 3) (Nat.le_of_ble_eq_true rfl)
  rw [lg_entry_eq]
  generalize (lg_sl ([.ref mo, .int p0, .int p1]) ++ List.replicate (3 - (lg_sl ([.ref mo, .int p0, .int p1])).length) Slot.unset).toArray = ls at hl ⊢
  have hl : lv_has ls 3 [(0, .ref mo), (1, .int p0), (2, .int p1)] := hl
  refine lv_aload_n hx hb dX11_bent_0 rfl (lv_at hl 0 rfl) ?_
  refine lv_iconst (v := 0) hx hb dX11_bent_1 (by decide) ?_
  refine va_put (D := D) (ci := 11) (v := .int 0) (ty := .int) (C := RX11) (T := TX11) (N := 65) hx hb hg inGX11 tyX11 tyX11_ok nmX11 hown hK hP hD hS 0 rfl rfl 0 (by decide) (hg _ q_6_126) (fun _ h9 => h9) rfl (by decide +kernel) rfl rfl (px_len hmo_0) dX11_bent_2 (fun H locs hP hD hS => ?_)
  have hP : va_P D vwCl [(mo, .inr (11, (fmo.set 0 (.int 0)))), (ms, .inl (y 1, 765, .inl fms))] H := hP
  have hD : va_D A [(mo, .inr (11, (fmo.set 0 (.int 0)))), (ms, .inl (y 1, 765, .inl fms))] := hD
  refine lv_aload_n hx hb dX11_bent_5 rfl (lv_at hl 0 rfl) ?_
  refine lv_iload_n hx hb dX11_bent_6 rfl (lv_at hl 1 rfl) ?_
  have hPc_1 := hP.sub (ws' := [(mo, .inr (11, (fmo.set 0 (.int 0)))), (ms, .inl (y 1, 765, .inl fms))]) [0, 1] rfl
  have hDc_1 := hD.sub (ws' := [(mo, .inr (11, (fmo.set 0 (.int 0)))), (ms, .inl (y 1, 765, .inl fms))]) [0, 1] (by decide +kernel) rfl
  refine vp_callSi (va_Run.run (va_runV (As := [.int p0]) (rest := []) ⟨hx, hb, hml, hown, hg⟩ (c_X11_isPerson l D y H.size mo (fmo.set 0 (.int 0)) ms fms p0 (px_sn (by decide) hmo_6) hms_e1) (cwV 1 hg (px_gV q_7_195 q_7_197 q_p_81 q_1_15 q_7_198) rfl rfl rfl (by decide +kernel) ⟨Nat.le_of_ble_eq_true rfl, Nat.le_of_ble_eq_true rfl⟩) (px_preV hK hPc_1 hDc_1 (ci := 11) (q0 := 0) rfl rfl) rfl rfl hl.1 rfl (lv_room (Nat.le_of_ble_eq_true rfl)) dX11_bent_7 ⟨Nat.le_of_ble_eq_true rfl, Nat.le_of_ble_eq_true rfl⟩)) (fun r_1 hw_1 => ?_)
  obtain rfl : r_1 = 0 := hw_1
  refine lv_if_eq (tgt := 31) hx hb dX11_bent_10 (by decide) (fun _ => ?_) (fun c_2 => absurd c_2 (by decide))
  refine lv_iconst (v := (-1)) hx hb dX11_bent_31 (by decide) ?_
  exact W.iret (v := (-1)) hx hb hr (fun t ht hW => ⟨⟨_, (), rfl, rfl, trivial⟩, hS.F ht⟩) hS.2.2 dX11_bent_32

set_option maxHeartbeats 4000000 in
set_option maxRecDepth 100000 in
theorem c_X11_leader (l : Launch) (D : va_G) (y : Nat → ClassId) (sz : Nat) (mo : Nat) (fmo : List Value) (ms : Nat) (fms : Nat → Int32) (hmo_0 : fmo[0]? = some (.int 0)) (hmo_6 : fmo[6]? = some (.ref ms)) (hms_e1 : fms 1 = 0) : Met l yX11_leader (px_w yX11_leader cX11_leader 3 (some .int)) ({ frames := 0, cells := 0, slots := 0, locals := 0 }) (va_Pc [.ref mo] (px_P D y sz [(mo, .inr (11, fmo)), (ms, .inl (y 1, 765, .inl fms))])) (va_Qi (fun (r : Int32) (u : Unit) => r = (-1)) (fun (u : Unit) t => True) (va_A [(mo, .inr (11, fmo)), (ms, .inl (y 1, 765, .inl fms))] sz)) 0 0 (va_A [(mo, .inr (11, fmo)), (ms, .inl (y 1, 765, .inl fms))] sz) := by
  refine Met.ofW (cc := cX11_leader) (maxL := 3) (ret := (some .int)) (by decide) rfl ?_
  intro p e s m args below meth c s₁ B hml hv
  obtain ⟨rfl, hsz, hP, hK, hD0⟩ := hv
  have hx := B.exec
  have hb := B.bytes
  have hr := B.returns
  have hts := atoms_spec (ws := px_w yX11_leader cX11_leader 3 (some .int)) B.pre
  have hg : ∀ w ∈ gw, w.before [.ref mo].toArray s = true := fun w h => hts w (List.mem_cons_of_mem _ h)
  have hown : s.vm.findClass RX11 = some m.cls := findClass_of_methodNamed B.named
  have hlocks := B.notSynchronized
  subst hsz
  have hD := hD0.self (sz := s.heap.size)
  generalize hAe : va_A [(mo, .inr (11, fmo)), (ms, .inl (y 1, 765, .inl fms))] s.heap.size = A at hD ⊢
  have hA : ∀ q : Nat, s.heap.size ≤ q → A q := fun q h => by rw [← hAe]; exact Or.inr h
  have hS : va_S A s.heap s.heap [] := va_S.rf
  have hP : va_P D vwCl [(mo, .inr (11, fmo)), (ms, .inl (y 1, 765, .inl fms))] s.heap := hP
  have hl := lv_entry ([.ref mo]) (n := 3) (Nat.le_of_ble_eq_true rfl)
  rw [lg_entry_eq]
  generalize (lg_sl ([.ref mo]) ++ List.replicate (3 - (lg_sl ([.ref mo])).length) Slot.unset).toArray = ls at hl ⊢
  have hl : lv_has ls 3 [(0, .ref mo)] := hl
  refine lv_aload_n hx hb dX11_leader_0 rfl (lv_at hl 0 rfl) ?_
  refine lv_iconst (v := 0) hx hb dX11_leader_1 (by decide) ?_
  refine va_put (D := D) (ci := 11) (v := .int 0) (ty := .int) (C := RX11) (T := TX11) (N := 65) hx hb hg inGX11 tyX11 tyX11_ok nmX11 hown hK hP hD hS 0 rfl rfl 0 (by decide) (hg _ q_6_126) (fun _ h9 => h9) rfl (by decide +kernel) rfl rfl (px_len hmo_0) dX11_leader_2 (fun H locs hP hD hS => ?_)
  have hP : va_P D vwCl [(mo, .inr (11, (fmo.set 0 (.int 0)))), (ms, .inl (y 1, 765, .inl fms))] H := hP
  have hD : va_D A [(mo, .inr (11, (fmo.set 0 (.int 0)))), (ms, .inl (y 1, 765, .inl fms))] := hD
  refine lv_iconst (v := (-1)) hx hb dX11_leader_5 (by decide) ?_
  refine lv_istore_n (lv' := [(1, .int (-1)), (0, .ref mo)]) hx hb dX11_leader_6 rfl hl (by decide) rfl (fun ls hl => ?_)
  refine lv_iconst (v := 0) hx hb dX11_leader_7 (by decide) ?_
  refine lv_istore_n (lv' := [(2, .int 0), (1, .int (-1)), (0, .ref mo)]) hx hb dX11_leader_8 rfl hl (by decide) rfl (fun ls hl => ?_)
  refine lv_iload_n hx hb dX11_leader_9 rfl (lv_at hl 0 rfl) ?_
  refine lv_aload_n hx hb dX11_leader_10 rfl (lv_at hl 2 rfl) ?_
  refine va_get (D := D) (ci := 11) (v := .ref ms) (C := RX11) (T := TX11) (N := 65) hx hb hg inGX11 hown hK hP 0 rfl rfl 6 (by decide) (hg _ q_6_132) (fun _ h9 => h9) (px_sn (by decide) hmo_6) dX11_leader_11 ?_
  refine lv_iconst (v := 1) hx hb dX11_leader_14 (by decide) ?_
  refine va_iald hx hb hK hP 1 1 rfl rfl (i := 1) (px_in (by decide)) dX11_leader_15 ?_
  refine px_top (v := 0) hms_e1 ?_
  refine lv_icmp_ge (tgt := 44) hx hb dX11_leader_16 (by decide) (fun _ => ?_) (fun c_1 => absurd c_1 (by decide))
  refine lv_iload_n hx hb dX11_leader_44 rfl (lv_at hl 1 rfl) ?_
  exact W.iret (v := (-1)) hx hb hr (fun t ht hW => ⟨⟨_, (), rfl, rfl, trivial⟩, hS.F ht⟩) hS.2.2 dX11_leader_45

set_option maxHeartbeats 4000000 in
set_option maxRecDepth 100000 in
theorem c_X11_said (l : Launch) (D : va_G) (y : Nat → ClassId) (sz : Nat) (mo : Nat) (fmo : List Value) (ms : Nat) (fms : Nat → Int32) (p0 : Int32) (hmo_0 : fmo[0]? = some (.int 0)) (hmo_6 : fmo[6]? = some (.ref ms)) (hms_e584 : fms 584 = 0) : Met l yX11_said (px_w yX11_said cX11_said 4 (some .int)) ({ frames := 0, cells := 0, slots := 0, locals := 0 }) (va_Pc [.ref mo, .int p0] (px_P D y sz [(mo, .inr (11, fmo)), (ms, .inl (y 1, 765, .inl fms))])) (va_Qi (fun (r : Int32) (u : Unit) => r = (-1)) (fun (u : Unit) t => True) (va_A [(mo, .inr (11, fmo)), (ms, .inl (y 1, 765, .inl fms))] sz)) 0 0 (va_A [(mo, .inr (11, fmo)), (ms, .inl (y 1, 765, .inl fms))] sz) := by
  refine Met.ofW (cc := cX11_said) (maxL := 4) (ret := (some .int)) (by decide) rfl ?_
  intro p e s m args below meth c s₁ B hml hv
  obtain ⟨rfl, hsz, hP, hK, hD0⟩ := hv
  have hx := B.exec
  have hb := B.bytes
  have hr := B.returns
  have hts := atoms_spec (ws := px_w yX11_said cX11_said 4 (some .int)) B.pre
  have hg : ∀ w ∈ gw, w.before [.ref mo, .int p0].toArray s = true := fun w h => hts w (List.mem_cons_of_mem _ h)
  have hown : s.vm.findClass RX11 = some m.cls := findClass_of_methodNamed B.named
  have hlocks := B.notSynchronized
  subst hsz
  have hD := hD0.self (sz := s.heap.size)
  generalize hAe : va_A [(mo, .inr (11, fmo)), (ms, .inl (y 1, 765, .inl fms))] s.heap.size = A at hD ⊢
  have hA : ∀ q : Nat, s.heap.size ≤ q → A q := fun q h => by rw [← hAe]; exact Or.inr h
  have hS : va_S A s.heap s.heap [] := va_S.rf
  have hP : va_P D vwCl [(mo, .inr (11, fmo)), (ms, .inl (y 1, 765, .inl fms))] s.heap := hP
  have hl := lv_entry ([.ref mo, .int p0]) (n := 4) (Nat.le_of_ble_eq_true rfl)
  rw [lg_entry_eq]
  generalize (lg_sl ([.ref mo, .int p0]) ++ List.replicate (4 - (lg_sl ([.ref mo, .int p0])).length) Slot.unset).toArray = ls at hl ⊢
  have hl : lv_has ls 4 [(0, .ref mo), (1, .int p0)] := hl
  refine lv_aload_n hx hb dX11_said_0 rfl (lv_at hl 0 rfl) ?_
  refine lv_iconst (v := 0) hx hb dX11_said_1 (by decide) ?_
  refine va_put (D := D) (ci := 11) (v := .int 0) (ty := .int) (C := RX11) (T := TX11) (N := 65) hx hb hg inGX11 tyX11 tyX11_ok nmX11 hown hK hP hD hS 0 rfl rfl 0 (by decide) (hg _ q_6_126) (fun _ h9 => h9) rfl (by decide +kernel) rfl rfl (px_len hmo_0) dX11_said_2 (fun H locs hP hD hS => ?_)
  have hP : va_P D vwCl [(mo, .inr (11, (fmo.set 0 (.int 0)))), (ms, .inl (y 1, 765, .inl fms))] H := hP
  have hD : va_D A [(mo, .inr (11, (fmo.set 0 (.int 0)))), (ms, .inl (y 1, 765, .inl fms))] := hD
  refine lv_aload_n hx hb dX11_said_5 rfl (lv_at hl 0 rfl) ?_
  refine va_get (D := D) (ci := 11) (v := .ref ms) (C := RX11) (T := TX11) (N := 65) hx hb hg inGX11 hown hK hP 0 rfl rfl 6 (by decide) (hg _ q_6_132) (fun _ h9 => h9) (px_sn (by decide) hmo_6) dX11_said_6 ?_
  refine lv_sipush (v := 584) hx hb dX11_said_9 (by decide) ?_
  refine va_iald hx hb hK hP 1 1 rfl rfl (i := 584) (px_in (by decide)) dX11_said_12 ?_
  refine px_top (v := 0) hms_e584 ?_
  refine lv_if_eq (tgt := 21) hx hb dX11_said_13 (by decide) (fun _ => ?_) (fun c_1 => absurd c_1 (by decide))
  refine lv_iconst (v := (-1)) hx hb dX11_said_21 (by decide) ?_
  exact W.iret (v := (-1)) hx hb hr (fun t ht hW => ⟨⟨_, (), rfl, rfl, trivial⟩, hS.F ht⟩) hS.2.2 dX11_said_22

set_option maxHeartbeats 4000000 in
set_option maxRecDepth 100000 in
theorem c_X11_deal (l : Launch) (D : va_G) (y : Nat → ClassId) (sz : Nat) (mo : Nat) (fmo : List Value) (ms : Nat) (fms : Nat → Int32) (p0 : Int32) (p1 : Int32) (hmo_0 : fmo[0]? = some (.int 0)) (hmo_6 : fmo[6]? = some (.ref ms)) (hms_e1 : fms 1 = 0) : Met l yX11_deal (px_w yX11_deal cX11_deal 3 (some .boolean)) ({ frames := 1, cells := 0, slots := 0, locals := 22 }) (va_Pc [.ref mo, .int p0, .int p1] (px_P D y sz [(mo, .inr (11, fmo)), (ms, .inl (y 1, 765, .inl fms))])) (va_Qi (fun (r : Int32) (u : Unit) => r = 0) (fun (u : Unit) t => True) (va_A [(mo, .inr (11, fmo)), (ms, .inl (y 1, 765, .inl fms))] sz)) 0 0 (va_A [(mo, .inr (11, fmo)), (ms, .inl (y 1, 765, .inl fms))] sz) := by
  refine Met.ofW (cc := cX11_deal) (maxL := 3) (ret := (some .boolean)) (by decide) rfl ?_
  intro p e s m args below meth c s₁ B hml hv
  obtain ⟨rfl, hsz, hP, hK, hD0⟩ := hv
  have hx := B.exec
  have hb := B.bytes
  have hr := B.returns
  have hts := atoms_spec (ws := px_w yX11_deal cX11_deal 3 (some .boolean)) B.pre
  have hg : ∀ w ∈ gw, w.before [.ref mo, .int p0, .int p1].toArray s = true := fun w h => hts w (List.mem_cons_of_mem _ h)
  have hown : s.vm.findClass RX11 = some m.cls := findClass_of_methodNamed B.named
  have hlocks := B.notSynchronized
  subst hsz
  have hD := hD0.self (sz := s.heap.size)
  generalize hAe : va_A [(mo, .inr (11, fmo)), (ms, .inl (y 1, 765, .inl fms))] s.heap.size = A at hD ⊢
  have hA : ∀ q : Nat, s.heap.size ≤ q → A q := fun q h => by rw [← hAe]; exact Or.inr h
  have hS : va_S A s.heap s.heap [] := va_S.rf
  have hP : va_P D vwCl [(mo, .inr (11, fmo)), (ms, .inl (y 1, 765, .inl fms))] s.heap := hP
  have hl := lv_entry ([.ref mo, .int p0, .int p1]) (n := 3) (Nat.le_of_ble_eq_true rfl)
  rw [lg_entry_eq]
  generalize (lg_sl ([.ref mo, .int p0, .int p1]) ++ List.replicate (3 - (lg_sl ([.ref mo, .int p0, .int p1])).length) Slot.unset).toArray = ls at hl ⊢
  have hl : lv_has ls 3 [(0, .ref mo), (1, .int p0), (2, .int p1)] := hl
  refine lv_aload_n hx hb dX11_deal_0 rfl (lv_at hl 0 rfl) ?_
  refine lv_iconst (v := 0) hx hb dX11_deal_1 (by decide) ?_
  refine va_put (D := D) (ci := 11) (v := .int 0) (ty := .int) (C := RX11) (T := TX11) (N := 65) hx hb hg inGX11 tyX11 tyX11_ok nmX11 hown hK hP hD hS 0 rfl rfl 0 (by decide) (hg _ q_6_126) (fun _ h9 => h9) rfl (by decide +kernel) rfl rfl (px_len hmo_0) dX11_deal_2 (fun H locs hP hD hS => ?_)
  have hP : va_P D vwCl [(mo, .inr (11, (fmo.set 0 (.int 0)))), (ms, .inl (y 1, 765, .inl fms))] H := hP
  have hD : va_D A [(mo, .inr (11, (fmo.set 0 (.int 0)))), (ms, .inl (y 1, 765, .inl fms))] := hD
  refine lv_iload_n hx hb dX11_deal_5 rfl (lv_at hl 1 rfl) ?_
  refine lv_iconst (v := 1) hx hb dX11_deal_6 (by decide) ?_
  refine lv_bipush (v := 9) hx hb dX11_deal_7 (by decide) ?_
  have hPc_1 := hP.sub (ws' := []) [] rfl
  have hDc_1 := hD.sub (ws' := []) [] (by decide +kernel) rfl
  refine vp_callSi (va_Run.run (va_runS (As := [.int p0, .int 1, .int 9]) (rest := []) ⟨hx, hb, hml, hown, hg⟩ (c_X11_isIn l D y H.size p0 1 9 ) (va_cwS 3 hg (px_gS q_7_121 q_7_122 q_1_15 q_7_123) rfl rfl rfl (by decide +kernel) ⟨Nat.le_of_ble_eq_true rfl, Nat.le_of_ble_eq_true rfl⟩) (px_preS hK hPc_1 hDc_1) rfl rfl hl.1 rfl (lv_room (Nat.le_of_ble_eq_true rfl)) dX11_deal_9 ⟨Nat.le_of_ble_eq_true rfl, Nat.le_of_ble_eq_true rfl⟩)) (fun r_1 hw_1 => ?_)
  rcases hw_1 with ⟨rfl, g_1_0_0, g_1_0_1⟩ | ⟨rfl, g_1_1_0⟩ | ⟨rfl, g_1_2_0⟩
  · refine lv_if_eq (tgt := 52) hx hb dX11_deal_12 (by decide) (fun c_2 => absurd c_2 (by decide)) (fun _ => ?_)
    refine lv_aload_n hx hb dX11_deal_15 rfl (lv_at hl 0 rfl) ?_
    refine va_get (D := D) (ci := 11) (v := .ref ms) (C := RX11) (T := TX11) (N := 65) hx hb hg inGX11 hown hK hP 0 rfl rfl 6 (by decide) (hg _ q_6_132) (fun _ h9 => h9) (px_sn (by decide) hmo_6) dX11_deal_16 ?_
    refine lv_iconst (v := 1) hx hb dX11_deal_19 (by decide) ?_
    refine va_iald hx hb hK hP 1 1 rfl rfl (i := 1) (px_in (by decide)) dX11_deal_20 ?_
    refine px_top (v := 0) hms_e1 ?_
    refine lv_if_eq (tgt := 52) hx hb dX11_deal_21 (by decide) (fun _ => ?_) (fun c_3 => absurd c_3 (by decide))
    refine lv_iconst (v := 0) hx hb dX11_deal_52 (by decide) ?_
    exact W.zret (v := 0) hx hb hr (by decide) (fun t ht hW => ⟨⟨_, (), rfl, rfl, trivial⟩, hS.F ht⟩) hS.2.2 dX11_deal_53
  · refine lv_if_eq (tgt := 52) hx hb dX11_deal_12 (by decide) (fun _ => ?_) (fun c_4 => absurd c_4 (by decide))
    refine lv_iconst (v := 0) hx hb dX11_deal_52 (by decide) ?_
    exact W.zret (v := 0) hx hb hr (by decide) (fun t ht hW => ⟨⟨_, (), rfl, rfl, trivial⟩, hS.F ht⟩) hS.2.2 dX11_deal_53
  · refine lv_if_eq (tgt := 52) hx hb dX11_deal_12 (by decide) (fun _ => ?_) (fun c_5 => absurd c_5 (by decide))
    refine lv_iconst (v := 0) hx hb dX11_deal_52 (by decide) ?_
    exact W.zret (v := 0) hx hb hr (by decide) (fun t ht hW => ⟨⟨_, (), rfl, rfl, trivial⟩, hS.F ht⟩) hS.2.2 dX11_deal_53

set_option maxHeartbeats 4000000 in
set_option maxRecDepth 100000 in
theorem c_X11_games (l : Launch) (D : va_G) (y : Nat → ClassId) (sz : Nat) (mo : Nat) (fmo : List Value) (ms : Nat) (fms : Nat → Int32) (p0 : Int32) (p1 : Int32) (p2 : Int32) (p3 : Int32) (hmo_0 : fmo[0]? = some (.int 0)) (hmo_6 : fmo[6]? = some (.ref ms)) (hms_e1 : fms 1 = 0) : Met l yX11_games (px_w yX11_games cX11_games 5 (some .int)) ({ frames := 2, cells := 0, slots := 0, locals := 45 }) (va_Pc [.ref mo, .int p0, .int p1, .int p2, .int p3] (px_P D y sz [(mo, .inr (11, fmo)), (ms, .inl (y 1, 765, .inl fms))])) (va_Qi (fun (r : Int32) (u : Unit) => r = (-1)) (fun (u : Unit) t => True) (va_A [(mo, .inr (11, fmo)), (ms, .inl (y 1, 765, .inl fms))] sz)) 0 0 (va_A [(mo, .inr (11, fmo)), (ms, .inl (y 1, 765, .inl fms))] sz) := by
  refine Met.ofW (cc := cX11_games) (maxL := 5) (ret := (some .int)) (by decide) rfl ?_
  intro p e s m args below meth c s₁ B hml hv
  obtain ⟨rfl, hsz, hP, hK, hD0⟩ := hv
  have hx := B.exec
  have hb := B.bytes
  have hr := B.returns
  have hts := atoms_spec (ws := px_w yX11_games cX11_games 5 (some .int)) B.pre
  have hg : ∀ w ∈ gw, w.before [.ref mo, .int p0, .int p1, .int p2, .int p3].toArray s = true := fun w h => hts w (List.mem_cons_of_mem _ h)
  have hown : s.vm.findClass RX11 = some m.cls := findClass_of_methodNamed B.named
  have hlocks := B.notSynchronized
  subst hsz
  have hD := hD0.self (sz := s.heap.size)
  generalize hAe : va_A [(mo, .inr (11, fmo)), (ms, .inl (y 1, 765, .inl fms))] s.heap.size = A at hD ⊢
  have hA : ∀ q : Nat, s.heap.size ≤ q → A q := fun q h => by rw [← hAe]; exact Or.inr h
  have hS : va_S A s.heap s.heap [] := va_S.rf
  have hP : va_P D vwCl [(mo, .inr (11, fmo)), (ms, .inl (y 1, 765, .inl fms))] s.heap := hP
  have hl := lv_entry ([.ref mo, .int p0, .int p1, .int p2, .int p3]) (n := 5) (Nat.le_of_ble_eq_true rfl)
  rw [lg_entry_eq]
  generalize (lg_sl ([.ref mo, .int p0, .int p1, .int p2, .int p3]) ++ List.replicate (5 - (lg_sl ([.ref mo, .int p0, .int p1, .int p2, .int p3])).length) Slot.unset).toArray = ls at hl ⊢
  have hl : lv_has ls 5 [(0, .ref mo), (1, .int p0), (2, .int p1), (3, .int p2), (4, .int p3)] := hl
  refine lv_aload_n hx hb dX11_games_0 rfl (lv_at hl 0 rfl) ?_
  refine lv_iconst (v := 0) hx hb dX11_games_1 (by decide) ?_
  refine va_put (D := D) (ci := 11) (v := .int 0) (ty := .int) (C := RX11) (T := TX11) (N := 65) hx hb hg inGX11 tyX11 tyX11_ok nmX11 hown hK hP hD hS 0 rfl rfl 0 (by decide) (hg _ q_6_126) (fun _ h9 => h9) rfl (by decide +kernel) rfl rfl (px_len hmo_0) dX11_games_2 (fun H locs hP hD hS => ?_)
  have hP : va_P D vwCl [(mo, .inr (11, (fmo.set 0 (.int 0)))), (ms, .inl (y 1, 765, .inl fms))] H := hP
  have hD : va_D A [(mo, .inr (11, (fmo.set 0 (.int 0)))), (ms, .inl (y 1, 765, .inl fms))] := hD
  refine lv_aload_n hx hb dX11_games_5 rfl (lv_at hl 0 rfl) ?_
  refine lv_iload_n hx hb dX11_games_6 rfl (lv_at hl 1 rfl) ?_
  refine lv_iload_n hx hb dX11_games_7 rfl (lv_at hl 2 rfl) ?_
  refine lv_iload_n hx hb dX11_games_8 rfl (lv_at hl 3 rfl) ?_
  have hPc_1 := hP.sub (ws' := [(mo, .inr (11, (fmo.set 0 (.int 0)))), (ms, .inl (y 1, 765, .inl fms))]) [0, 1] rfl
  have hDc_1 := hD.sub (ws' := [(mo, .inr (11, (fmo.set 0 (.int 0)))), (ms, .inl (y 1, 765, .inl fms))]) [0, 1] (by decide +kernel) rfl
  refine vp_callSi (va_Run.run (va_runV (As := [.int p0, .int p1, .int p2]) (rest := []) ⟨hx, hb, hml, hown, hg⟩ (c_X11_areGames l D y H.size mo (fmo.set 0 (.int 0)) ms fms p0 p1 p2 (px_sn (by decide) hmo_6) hms_e1) (cwV 3 hg (px_gV q_8_164 q_8_166 q_p_107 q_1_15 q_8_167) rfl rfl rfl (by decide +kernel) ⟨Nat.le_of_ble_eq_true rfl, Nat.le_of_ble_eq_true rfl⟩) (px_preV hK hPc_1 hDc_1 (ci := 11) (q0 := 0) rfl rfl) rfl rfl hl.1 rfl (lv_room (Nat.le_of_ble_eq_true rfl)) dX11_games_9 ⟨Nat.le_of_ble_eq_true rfl, Nat.le_of_ble_eq_true rfl⟩)) (fun r_1 hw_1 => ?_)
  obtain rfl : r_1 = 0 := hw_1
  refine lv_if_eq (tgt := 27) hx hb dX11_games_12 (by decide) (fun _ => ?_) (fun c_2 => absurd c_2 (by decide))
  refine lv_iconst (v := (-1)) hx hb dX11_games_27 (by decide) ?_
  exact W.iret (v := (-1)) hx hb hr (fun t ht hW => ⟨⟨_, (), rfl, rfl, trivial⟩, hS.F ht⟩) hS.2.2 dX11_games_28

set_option maxHeartbeats 4000000 in
set_option maxRecDepth 100000 in
theorem c_X11_length (l : Launch) (D : va_G) (y : Nat → ClassId) (sz : Nat) (mo : Nat) (fmo : List Value) (ms : Nat) (fms : Nat → Int32) (p0 : Int32) (p1 : Int32) (p2 : Int32) (p3 : Int32) (hmo_0 : fmo[0]? = some (.int 0)) (hmo_6 : fmo[6]? = some (.ref ms)) (hms_e1 : fms 1 = 0) : Met l yX11_length (px_w yX11_length cX11_length 5 (some .int)) ({ frames := 2, cells := 0, slots := 0, locals := 45 }) (va_Pc [.ref mo, .int p0, .int p1, .int p2, .int p3] (px_P D y sz [(mo, .inr (11, fmo)), (ms, .inl (y 1, 765, .inl fms))])) (va_Qi (fun (r : Int32) (u : Unit) => r = (-1)) (fun (u : Unit) t => True) (va_A [(mo, .inr (11, fmo)), (ms, .inl (y 1, 765, .inl fms))] sz)) 0 0 (va_A [(mo, .inr (11, fmo)), (ms, .inl (y 1, 765, .inl fms))] sz) := by
  refine Met.ofW (cc := cX11_length) (maxL := 5) (ret := (some .int)) (by decide) rfl ?_
  intro p e s m args below meth c s₁ B hml hv
  obtain ⟨rfl, hsz, hP, hK, hD0⟩ := hv
  have hx := B.exec
  have hb := B.bytes
  have hr := B.returns
  have hts := atoms_spec (ws := px_w yX11_length cX11_length 5 (some .int)) B.pre
  have hg : ∀ w ∈ gw, w.before [.ref mo, .int p0, .int p1, .int p2, .int p3].toArray s = true := fun w h => hts w (List.mem_cons_of_mem _ h)
  have hown : s.vm.findClass RX11 = some m.cls := findClass_of_methodNamed B.named
  have hlocks := B.notSynchronized
  subst hsz
  have hD := hD0.self (sz := s.heap.size)
  generalize hAe : va_A [(mo, .inr (11, fmo)), (ms, .inl (y 1, 765, .inl fms))] s.heap.size = A at hD ⊢
  have hA : ∀ q : Nat, s.heap.size ≤ q → A q := fun q h => by rw [← hAe]; exact Or.inr h
  have hS : va_S A s.heap s.heap [] := va_S.rf
  have hP : va_P D vwCl [(mo, .inr (11, fmo)), (ms, .inl (y 1, 765, .inl fms))] s.heap := hP
  have hl := lv_entry ([.ref mo, .int p0, .int p1, .int p2, .int p3]) (n := 5) (Nat.le_of_ble_eq_true rfl)
  rw [lg_entry_eq]
  generalize (lg_sl ([.ref mo, .int p0, .int p1, .int p2, .int p3]) ++ List.replicate (5 - (lg_sl ([.ref mo, .int p0, .int p1, .int p2, .int p3])).length) Slot.unset).toArray = ls at hl ⊢
  have hl : lv_has ls 5 [(0, .ref mo), (1, .int p0), (2, .int p1), (3, .int p2), (4, .int p3)] := hl
  refine lv_aload_n hx hb dX11_length_0 rfl (lv_at hl 0 rfl) ?_
  refine lv_iconst (v := 0) hx hb dX11_length_1 (by decide) ?_
  refine va_put (D := D) (ci := 11) (v := .int 0) (ty := .int) (C := RX11) (T := TX11) (N := 65) hx hb hg inGX11 tyX11 tyX11_ok nmX11 hown hK hP hD hS 0 rfl rfl 0 (by decide) (hg _ q_6_126) (fun _ h9 => h9) rfl (by decide +kernel) rfl rfl (px_len hmo_0) dX11_length_2 (fun H locs hP hD hS => ?_)
  have hP : va_P D vwCl [(mo, .inr (11, (fmo.set 0 (.int 0)))), (ms, .inl (y 1, 765, .inl fms))] H := hP
  have hD : va_D A [(mo, .inr (11, (fmo.set 0 (.int 0)))), (ms, .inl (y 1, 765, .inl fms))] := hD
  refine lv_aload_n hx hb dX11_length_5 rfl (lv_at hl 0 rfl) ?_
  refine lv_iload_n hx hb dX11_length_6 rfl (lv_at hl 1 rfl) ?_
  refine lv_iload_n hx hb dX11_length_7 rfl (lv_at hl 2 rfl) ?_
  refine lv_iload_n hx hb dX11_length_8 rfl (lv_at hl 3 rfl) ?_
  have hPc_1 := hP.sub (ws' := [(mo, .inr (11, (fmo.set 0 (.int 0)))), (ms, .inl (y 1, 765, .inl fms))]) [0, 1] rfl
  have hDc_1 := hD.sub (ws' := [(mo, .inr (11, (fmo.set 0 (.int 0)))), (ms, .inl (y 1, 765, .inl fms))]) [0, 1] (by decide +kernel) rfl
  refine vp_callSi (va_Run.run (va_runV (As := [.int p0, .int p1, .int p2]) (rest := []) ⟨hx, hb, hml, hown, hg⟩ (c_X11_areGames l D y H.size mo (fmo.set 0 (.int 0)) ms fms p0 p1 p2 (px_sn (by decide) hmo_6) hms_e1) (cwV 3 hg (px_gV q_8_164 q_8_166 q_p_107 q_1_15 q_8_167) rfl rfl rfl (by decide +kernel) ⟨Nat.le_of_ble_eq_true rfl, Nat.le_of_ble_eq_true rfl⟩) (px_preV hK hPc_1 hDc_1 (ci := 11) (q0 := 0) rfl rfl) rfl rfl hl.1 rfl (lv_room (Nat.le_of_ble_eq_true rfl)) dX11_length_9 ⟨Nat.le_of_ble_eq_true rfl, Nat.le_of_ble_eq_true rfl⟩)) (fun r_1 hw_1 => ?_)
  obtain rfl : r_1 = 0 := hw_1
  refine lv_if_ne (tgt := 17) hx hb dX11_length_12 (by decide) (fun c_2 => absurd c_2 (by decide)) (fun _ => ?_)
  refine lv_iconst (v := (-1)) hx hb dX11_length_15 (by decide) ?_
  exact W.iret (v := (-1)) hx hb hr (fun t ht hW => ⟨⟨_, (), rfl, rfl, trivial⟩, hS.F ht⟩) hS.2.2 dX11_length_16

set_option maxHeartbeats 4000000 in
set_option maxRecDepth 100000 in
theorem c_X11_reply (l : Launch) (D : va_G) (y : Nat → ClassId) (sz : Nat) (mo : Nat) (fmo : List Value) (ms : Nat) (fms : Nat → Int32) (p0 : Int32) (p1 : Int32) (p2 : Int32) (hmo_0 : fmo[0]? = some (.int 0)) (hmo_6 : fmo[6]? = some (.ref ms)) (hms_e1 : fms 1 = 0) : Met l yX11_reply (px_w yX11_reply cX11_reply 8 (some .int)) ({ frames := 2, cells := 0, slots := 0, locals := 45 }) (va_Pc [.ref mo, .int p0, .int p1, .int p2] (px_P D y sz [(mo, .inr (11, fmo)), (ms, .inl (y 1, 765, .inl fms))])) (va_Qi (fun (r : Int32) (u : Unit) => r = (-1)) (fun (u : Unit) t => True) (va_A [(mo, .inr (11, fmo)), (ms, .inl (y 1, 765, .inl fms))] sz)) 0 0 (va_A [(mo, .inr (11, fmo)), (ms, .inl (y 1, 765, .inl fms))] sz) := by
  refine Met.ofW (cc := cX11_reply) (maxL := 8) (ret := (some .int)) (by decide) rfl ?_
  intro p e s m args below meth c s₁ B hml hv
  obtain ⟨rfl, hsz, hP, hK, hD0⟩ := hv
  have hx := B.exec
  have hb := B.bytes
  have hr := B.returns
  have hts := atoms_spec (ws := px_w yX11_reply cX11_reply 8 (some .int)) B.pre
  have hg : ∀ w ∈ gw, w.before [.ref mo, .int p0, .int p1, .int p2].toArray s = true := fun w h => hts w (List.mem_cons_of_mem _ h)
  have hown : s.vm.findClass RX11 = some m.cls := findClass_of_methodNamed B.named
  have hlocks := B.notSynchronized
  subst hsz
  have hD := hD0.self (sz := s.heap.size)
  generalize hAe : va_A [(mo, .inr (11, fmo)), (ms, .inl (y 1, 765, .inl fms))] s.heap.size = A at hD ⊢
  have hA : ∀ q : Nat, s.heap.size ≤ q → A q := fun q h => by rw [← hAe]; exact Or.inr h
  have hS : va_S A s.heap s.heap [] := va_S.rf
  have hP : va_P D vwCl [(mo, .inr (11, fmo)), (ms, .inl (y 1, 765, .inl fms))] s.heap := hP
  have hl := lv_entry ([.ref mo, .int p0, .int p1, .int p2]) (n := 8) (Nat.le_of_ble_eq_true rfl)
  rw [lg_entry_eq]
  generalize (lg_sl ([.ref mo, .int p0, .int p1, .int p2]) ++ List.replicate (8 - (lg_sl ([.ref mo, .int p0, .int p1, .int p2])).length) Slot.unset).toArray = ls at hl ⊢
  have hl : lv_has ls 8 [(0, .ref mo), (1, .int p0), (2, .int p1), (3, .int p2)] := hl
  refine lv_aload_n hx hb dX11_reply_0 rfl (lv_at hl 0 rfl) ?_
  refine lv_iconst (v := 0) hx hb dX11_reply_1 (by decide) ?_
  refine va_put (D := D) (ci := 11) (v := .int 0) (ty := .int) (C := RX11) (T := TX11) (N := 65) hx hb hg inGX11 tyX11 tyX11_ok nmX11 hown hK hP hD hS 0 rfl rfl 0 (by decide) (hg _ q_6_126) (fun _ h9 => h9) rfl (by decide +kernel) rfl rfl (px_len hmo_0) dX11_reply_2 (fun H locs hP hD hS => ?_)
  have hP : va_P D vwCl [(mo, .inr (11, (fmo.set 0 (.int 0)))), (ms, .inl (y 1, 765, .inl fms))] H := hP
  have hD : va_D A [(mo, .inr (11, (fmo.set 0 (.int 0)))), (ms, .inl (y 1, 765, .inl fms))] := hD
  refine lv_aload_n hx hb dX11_reply_5 rfl (lv_at hl 0 rfl) ?_
  refine lv_iconst (v := 0) hx hb dX11_reply_6 (by decide) ?_
  refine lv_iload_n hx hb dX11_reply_7 rfl (lv_at hl 1 rfl) ?_
  refine lv_iload_n hx hb dX11_reply_8 rfl (lv_at hl 2 rfl) ?_
  have hPc_1 := hP.sub (ws' := [(mo, .inr (11, (fmo.set 0 (.int 0)))), (ms, .inl (y 1, 765, .inl fms))]) [0, 1] rfl
  have hDc_1 := hD.sub (ws' := [(mo, .inr (11, (fmo.set 0 (.int 0)))), (ms, .inl (y 1, 765, .inl fms))]) [0, 1] (by decide +kernel) rfl
  refine vp_callSi (va_Run.run (va_runV (As := [.int 0, .int p0, .int p1]) (rest := []) ⟨hx, hb, hml, hown, hg⟩ (c_X11_areGames l D y H.size mo (fmo.set 0 (.int 0)) ms fms 0 p0 p1 (px_sn (by decide) hmo_6) hms_e1) (cwV 3 hg (px_gV q_8_164 q_8_166 q_p_107 q_1_15 q_8_167) rfl rfl rfl (by decide +kernel) ⟨Nat.le_of_ble_eq_true rfl, Nat.le_of_ble_eq_true rfl⟩) (px_preV hK hPc_1 hDc_1 (ci := 11) (q0 := 0) rfl rfl) rfl rfl hl.1 rfl (lv_room (Nat.le_of_ble_eq_true rfl)) dX11_reply_9 ⟨Nat.le_of_ble_eq_true rfl, Nat.le_of_ble_eq_true rfl⟩)) (fun r_1 hw_1 => ?_)
  obtain rfl : r_1 = 0 := hw_1
  refine lv_if_ne (tgt := 17) hx hb dX11_reply_12 (by decide) (fun c_2 => absurd c_2 (by decide)) (fun _ => ?_)
  refine lv_iconst (v := (-1)) hx hb dX11_reply_15 (by decide) ?_
  exact W.iret (v := (-1)) hx hb hr (fun t ht hW => ⟨⟨_, (), rfl, rfl, trivial⟩, hS.F ht⟩) hS.2.2 dX11_reply_16

set_option maxHeartbeats 4000000 in
set_option maxRecDepth 100000 in
theorem c_X11_restore (l : Launch) (D : va_G) (y : Nat → ClassId) (sz : Nat) (mo : Nat) (fmo : List Value) (mk : Nat) (fmk : Nat → Int32) (p0 : Int32) (hmo_0 : fmo[0]? = some (.int 0)) (hmo_64 : fmo[64]? = some (.ref mk)) (hmk_e0 : fmk 0 = 0) (hmk_e1 : fmk 1 = 0) : Met l yX11_restore (px_w yX11_restore cX11_restore 3 (some .boolean)) ({ frames := 1, cells := 0, slots := 0, locals := 22 }) (va_Pc [.ref mo, .int p0] (px_P D y sz [(mo, .inr (11, fmo)), (mk, .inl (y 3, 2, .inl fmk))])) (va_Qi (fun (r : Int32) (u : Unit) => r = 0) (fun (u : Unit) t => True) (va_A [(mo, .inr (11, fmo)), (mk, .inl (y 3, 2, .inl fmk))] sz)) 0 0 (va_A [(mo, .inr (11, fmo)), (mk, .inl (y 3, 2, .inl fmk))] sz) := by
  refine Met.ofW (cc := cX11_restore) (maxL := 3) (ret := (some .boolean)) (by decide) rfl ?_
  intro p e s m args below meth c s₁ B hml hv
  obtain ⟨rfl, hsz, hP, hK, hD0⟩ := hv
  have hx := B.exec
  have hb := B.bytes
  have hr := B.returns
  have hts := atoms_spec (ws := px_w yX11_restore cX11_restore 3 (some .boolean)) B.pre
  have hg : ∀ w ∈ gw, w.before [.ref mo, .int p0].toArray s = true := fun w h => hts w (List.mem_cons_of_mem _ h)
  have hown : s.vm.findClass RX11 = some m.cls := findClass_of_methodNamed B.named
  have hlocks := B.notSynchronized
  subst hsz
  have hD := hD0.self (sz := s.heap.size)
  generalize hAe : va_A [(mo, .inr (11, fmo)), (mk, .inl (y 3, 2, .inl fmk))] s.heap.size = A at hD ⊢
  have hA : ∀ q : Nat, s.heap.size ≤ q → A q := fun q h => by rw [← hAe]; exact Or.inr h
  have hS : va_S A s.heap s.heap [] := va_S.rf
  have hP : va_P D vwCl [(mo, .inr (11, fmo)), (mk, .inl (y 3, 2, .inl fmk))] s.heap := hP
  have hl := lv_entry ([.ref mo, .int p0]) (n := 3) (Nat.le_of_ble_eq_true rfl)
  rw [lg_entry_eq]
  generalize (lg_sl ([.ref mo, .int p0]) ++ List.replicate (3 - (lg_sl ([.ref mo, .int p0])).length) Slot.unset).toArray = ls at hl ⊢
  have hl : lv_has ls 3 [(0, .ref mo), (1, .int p0)] := hl
  refine lv_aload_n hx hb dX11_restore_0 rfl (lv_at hl 0 rfl) ?_
  refine lv_iconst (v := 0) hx hb dX11_restore_1 (by decide) ?_
  refine va_put (D := D) (ci := 11) (v := .int 0) (ty := .int) (C := RX11) (T := TX11) (N := 65) hx hb hg inGX11 tyX11 tyX11_ok nmX11 hown hK hP hD hS 0 rfl rfl 0 (by decide) (hg _ q_6_126) (fun _ h9 => h9) rfl (by decide +kernel) rfl rfl (px_len hmo_0) dX11_restore_2 (fun H locs hP hD hS => ?_)
  have hP : va_P D vwCl [(mo, .inr (11, (fmo.set 0 (.int 0)))), (mk, .inl (y 3, 2, .inl fmk))] H := hP
  have hD : va_D A [(mo, .inr (11, (fmo.set 0 (.int 0)))), (mk, .inl (y 3, 2, .inl fmk))] := hD
  refine lv_iload_n hx hb dX11_restore_5 rfl (lv_at hl 1 rfl) ?_
  refine lv_iconst (v := 0) hx hb dX11_restore_6 (by decide) ?_
  refine lv_iconst (v := 1) hx hb dX11_restore_7 (by decide) ?_
  have hPc_1 := hP.sub (ws' := []) [] rfl
  have hDc_1 := hD.sub (ws' := []) [] (by decide +kernel) rfl
  refine vp_callSi (va_Run.run (va_runS (As := [.int p0, .int 0, .int 1]) (rest := []) ⟨hx, hb, hml, hown, hg⟩ (c_X11_isIn l D y H.size p0 0 1 ) (va_cwS 3 hg (px_gS q_7_121 q_7_122 q_1_15 q_7_123) rfl rfl rfl (by decide +kernel) ⟨Nat.le_of_ble_eq_true rfl, Nat.le_of_ble_eq_true rfl⟩) (px_preS hK hPc_1 hDc_1) rfl rfl hl.1 rfl (lv_room (Nat.le_of_ble_eq_true rfl)) dX11_restore_8 ⟨Nat.le_of_ble_eq_true rfl, Nat.le_of_ble_eq_true rfl⟩)) (fun r_1 hw_1 => ?_)
  rcases hw_1 with ⟨rfl, g_1_0_0, g_1_0_1⟩ | ⟨rfl, g_1_1_0⟩ | ⟨rfl, g_1_2_0⟩
  · refine lv_if_eq (tgt := 23) hx hb dX11_restore_11 (by decide) (fun c_2 => absurd c_2 (by decide)) (fun _ => ?_)
    refine lv_aload_n hx hb dX11_restore_14 rfl (lv_at hl 0 rfl) ?_
    refine va_get (D := D) (ci := 11) (v := .ref mk) (C := RX11) (T := TX11) (N := 65) hx hb hg inGX11 hown hK hP 0 rfl rfl 64 (by decide) (hg _ q_6_190) (fun _ h9 => h9) (px_sn (by decide) hmo_64) dX11_restore_15 ?_
    refine lv_iload_n hx hb dX11_restore_18 rfl (lv_at hl 1 rfl) ?_
    obtain ⟨j_3, hj_3, ej_3⟩ := px_split (x := p0) (n := 1) (by decide) (by simp only [Int32.lt_iff_toInt_lt, Int32.le_iff_toInt_le, ← Int32.toInt_inj] at g_1_0_0 g_1_0_1; have e0 : (0 : Int32).toInt = 0 := rfl; have e1 : (1 : Int32).toInt = 1 := rfl; omega) (by simp only [Int32.lt_iff_toInt_lt, Int32.le_iff_toInt_le, ← Int32.toInt_inj] at g_1_0_0 g_1_0_1; have e0 : (0 : Int32).toInt = 0 := rfl; have e1 : (1 : Int32).toInt = 1 := rfl; omega)
    rcases (show j_3 = 0 ∨ j_3 = 1 by omega) with rfl | rfl
    · obtain rfl : p0 = 0 := ej_3
      refine va_zald hx hb hK hP 1 3 rfl rfl (i := 0) (px_in (by decide)) dX11_restore_19 ?_
      refine px_top (v := 0) hmk_e0 ?_
      refine lv_if_ne (tgt := 25) hx hb dX11_restore_20 (by decide) (fun c_4 => absurd c_4 (by decide)) (fun _ => ?_)
      refine lv_iconst (v := 0) hx hb dX11_restore_23 (by decide) ?_
      exact W.zret (v := 0) hx hb hr (by decide) (fun t ht hW => ⟨⟨_, (), rfl, rfl, trivial⟩, hS.F ht⟩) hS.2.2 dX11_restore_24
    · obtain rfl : p0 = 1 := ej_3
      refine va_zald hx hb hK hP 1 3 rfl rfl (i := 1) (px_in (by decide)) dX11_restore_19 ?_
      refine px_top (v := 0) hmk_e1 ?_
      refine lv_if_ne (tgt := 25) hx hb dX11_restore_20 (by decide) (fun c_5 => absurd c_5 (by decide)) (fun _ => ?_)
      refine lv_iconst (v := 0) hx hb dX11_restore_23 (by decide) ?_
      exact W.zret (v := 0) hx hb hr (by decide) (fun t ht hW => ⟨⟨_, (), rfl, rfl, trivial⟩, hS.F ht⟩) hS.2.2 dX11_restore_24
  · refine lv_if_eq (tgt := 23) hx hb dX11_restore_11 (by decide) (fun _ => ?_) (fun c_6 => absurd c_6 (by decide))
    refine lv_iconst (v := 0) hx hb dX11_restore_23 (by decide) ?_
    exact W.zret (v := 0) hx hb hr (by decide) (fun t ht hW => ⟨⟨_, (), rfl, rfl, trivial⟩, hS.F ht⟩) hS.2.2 dX11_restore_24
  · refine lv_if_eq (tgt := 23) hx hb dX11_restore_11 (by decide) (fun _ => ?_) (fun c_7 => absurd c_7 (by decide))
    refine lv_iconst (v := 0) hx hb dX11_restore_23 (by decide) ?_
    exact W.zret (v := 0) hx hb hr (by decide) (fun t ht hW => ⟨⟨_, (), rfl, rfl, trivial⟩, hS.F ht⟩) hS.2.2 dX11_restore_24

set_option maxHeartbeats 4000000 in
set_option maxRecDepth 100000 in
theorem c_X11_openOf (l : Launch) (D : va_G) (y : Nat → ClassId) (sz : Nat) (mo : Nat) (fmo : List Value) (ms : Nat) (fms : Nat → Int32) (hmo_6 : fmo[6]? = some (.ref ms)) (hmo_47 : fmo[47]? = some (.int 0)) (hms_e1 : fms 1 = 0) : Met l yX11_openOf (px_w yX11_openOf cX11_openOf 5 (some .int)) ({ frames := 0, cells := 0, slots := 0, locals := 0 }) (va_Pc [.ref mo] (px_P D y sz [(mo, .inr (11, fmo)), (ms, .inl (y 1, 765, .inl fms))])) (va_Qi (fun (r : Int32) (u : Unit) => r = (-101)) (fun (u : Unit) t => va_P D vwCl [(mo, .inr (11, (fmo.set 47 (.int (-1))))), (ms, .inl (y 1, 765, .inl fms))] t.heap ∧ va_D (va_A [(mo, .inr (11, fmo)), (ms, .inl (y 1, 765, .inl fms))] sz) [(mo, .inr (11, (fmo.set 47 (.int (-1))))), (ms, .inl (y 1, 765, .inl fms))]) (va_A [(mo, .inr (11, fmo)), (ms, .inl (y 1, 765, .inl fms))] sz)) 0 0 (va_A [(mo, .inr (11, fmo)), (ms, .inl (y 1, 765, .inl fms))] sz) := by
  refine Met.ofW (cc := cX11_openOf) (maxL := 5) (ret := (some .int)) (by decide) rfl ?_
  intro p e s m args below meth c s₁ B hml hv
  obtain ⟨rfl, hsz, hP, hK, hD0⟩ := hv
  have hx := B.exec
  have hb := B.bytes
  have hr := B.returns
  have hts := atoms_spec (ws := px_w yX11_openOf cX11_openOf 5 (some .int)) B.pre
  have hg : ∀ w ∈ gw, w.before [.ref mo].toArray s = true := fun w h => hts w (List.mem_cons_of_mem _ h)
  have hown : s.vm.findClass RX11 = some m.cls := findClass_of_methodNamed B.named
  have hlocks := B.notSynchronized
  subst hsz
  have hD := hD0.self (sz := s.heap.size)
  generalize hAe : va_A [(mo, .inr (11, fmo)), (ms, .inl (y 1, 765, .inl fms))] s.heap.size = A at hD ⊢
  have hA : ∀ q : Nat, s.heap.size ≤ q → A q := fun q h => by rw [← hAe]; exact Or.inr h
  have hS : va_S A s.heap s.heap [] := va_S.rf
  have hP : va_P D vwCl [(mo, .inr (11, fmo)), (ms, .inl (y 1, 765, .inl fms))] s.heap := hP
  have hl := lv_entry ([.ref mo]) (n := 5) (Nat.le_of_ble_eq_true rfl)
  rw [lg_entry_eq]
  generalize (lg_sl ([.ref mo]) ++ List.replicate (5 - (lg_sl ([.ref mo])).length) Slot.unset).toArray = ls at hl ⊢
  have hl : lv_has ls 5 [(0, .ref mo)] := hl
  refine lv_aload_n hx hb dX11_openOf_0 rfl (lv_at hl 0 rfl) ?_
  refine lv_iconst (v := (-1)) hx hb dX11_openOf_1 (by decide) ?_
  refine va_put (D := D) (ci := 11) (v := .int (-1)) (ty := .int) (C := RX11) (T := TX11) (N := 65) hx hb hg inGX11 tyX11 tyX11_ok nmX11 hown hK hP hD hS 0 rfl rfl 47 (by decide) (hg _ q_6_173) (fun _ h9 => h9) rfl (by decide +kernel) rfl rfl (px_len hmo_47) dX11_openOf_2 (fun H locs hP hD hS => ?_)
  have hP : va_P D vwCl [(mo, .inr (11, (fmo.set 47 (.int (-1))))), (ms, .inl (y 1, 765, .inl fms))] H := hP
  have hD : va_D A [(mo, .inr (11, (fmo.set 47 (.int (-1))))), (ms, .inl (y 1, 765, .inl fms))] := hD
  refine lv_aload_n hx hb dX11_openOf_5 rfl (lv_at hl 0 rfl) ?_
  refine va_get (D := D) (ci := 11) (v := .ref ms) (C := RX11) (T := TX11) (N := 65) hx hb hg inGX11 hown hK hP 0 rfl rfl 6 (by decide) (hg _ q_6_132) (fun _ h9 => h9) (px_sn (by decide) hmo_6) dX11_openOf_6 ?_
  refine lv_iconst (v := 1) hx hb dX11_openOf_9 (by decide) ?_
  refine va_iald hx hb hK hP 1 1 rfl rfl (i := 1) (px_in (by decide)) dX11_openOf_10 ?_
  refine px_top (v := 0) hms_e1 ?_
  refine lv_iconst (v := 2) hx hb dX11_openOf_11 (by decide) ?_
  refine lv_icmp_ne (tgt := 46) hx hb dX11_openOf_12 (by decide) (fun _ => ?_) (fun c_1 => absurd c_1 (by decide))
  refine lv_bipush (v := (-101)) hx hb dX11_openOf_46 (by decide) ?_
  have hP9 := hP.sub (ws' := [(mo, .inr (11, (fmo.set 47 (.int (-1))))), (ms, .inl (y 1, 765, .inl fms))]) [0, 1] rfl
  have hD9 := hD.sub (ws' := [(mo, .inr (11, (fmo.set 47 (.int (-1))))), (ms, .inl (y 1, 765, .inl fms))]) [0, 1] (by decide +kernel) rfl
  exact W.iret (v := (-101)) hx hb hr (fun t ht hW => ⟨⟨_, (), rfl, rfl, by rw [ht]; exact hP9, hD9⟩, hS.F ht⟩) hS.2.2 dX11_openOf_48

set_option maxHeartbeats 4000000 in
set_option maxRecDepth 100000 in
theorem c_X11_open (l : Launch) (D : va_G) (y : Nat → ClassId) (sz : Nat) (mo : Nat) (fmo : List Value) (ms : Nat) (fms : Nat → Int32) (hmo_0 : fmo[0]? = some (.int 0)) (hmo_6 : fmo[6]? = some (.ref ms)) (hmo_47 : fmo[47]? = some (.int 0)) (hms_e1 : fms 1 = 0) : Met l yX11_open (px_w yX11_open cX11_open 1 (some .int)) ({ frames := 1, cells := 0, slots := 0, locals := 24 }) (va_Pc [.ref mo] (px_P D y sz [(mo, .inr (11, fmo)), (ms, .inl (y 1, 765, .inl fms))])) (va_Qi (fun (r : Int32) (u : Unit) => r = (-101)) (fun (u : Unit) t => True) (va_A [(mo, .inr (11, fmo)), (ms, .inl (y 1, 765, .inl fms))] sz)) 0 0 (va_A [(mo, .inr (11, fmo)), (ms, .inl (y 1, 765, .inl fms))] sz) := by
  refine Met.ofW (cc := cX11_open) (maxL := 1) (ret := (some .int)) (by decide) rfl ?_
  intro p e s m args below meth c s₁ B hml hv
  obtain ⟨rfl, hsz, hP, hK, hD0⟩ := hv
  have hx := B.exec
  have hb := B.bytes
  have hr := B.returns
  have hts := atoms_spec (ws := px_w yX11_open cX11_open 1 (some .int)) B.pre
  have hg : ∀ w ∈ gw, w.before [.ref mo].toArray s = true := fun w h => hts w (List.mem_cons_of_mem _ h)
  have hown : s.vm.findClass RX11 = some m.cls := findClass_of_methodNamed B.named
  have hlocks := B.notSynchronized
  subst hsz
  have hD := hD0.self (sz := s.heap.size)
  generalize hAe : va_A [(mo, .inr (11, fmo)), (ms, .inl (y 1, 765, .inl fms))] s.heap.size = A at hD ⊢
  have hA : ∀ q : Nat, s.heap.size ≤ q → A q := fun q h => by rw [← hAe]; exact Or.inr h
  have hS : va_S A s.heap s.heap [] := va_S.rf
  have hP : va_P D vwCl [(mo, .inr (11, fmo)), (ms, .inl (y 1, 765, .inl fms))] s.heap := hP
  have hl := lv_entry ([.ref mo]) (n := 1) (Nat.le_of_ble_eq_true rfl)
  rw [lg_entry_eq]
  generalize (lg_sl ([.ref mo]) ++ List.replicate (1 - (lg_sl ([.ref mo])).length) Slot.unset).toArray = ls at hl ⊢
  have hl : lv_has ls 1 [(0, .ref mo)] := hl
  refine lv_aload_n hx hb dX11_open_0 rfl (lv_at hl 0 rfl) ?_
  refine lv_iconst (v := 0) hx hb dX11_open_1 (by decide) ?_
  refine va_put (D := D) (ci := 11) (v := .int 0) (ty := .int) (C := RX11) (T := TX11) (N := 65) hx hb hg inGX11 tyX11 tyX11_ok nmX11 hown hK hP hD hS 0 rfl rfl 0 (by decide) (hg _ q_6_126) (fun _ h9 => h9) rfl (by decide +kernel) rfl rfl (px_len hmo_0) dX11_open_2 (fun H locs hP hD hS => ?_)
  have hP : va_P D vwCl [(mo, .inr (11, (fmo.set 0 (.int 0)))), (ms, .inl (y 1, 765, .inl fms))] H := hP
  have hD : va_D A [(mo, .inr (11, (fmo.set 0 (.int 0)))), (ms, .inl (y 1, 765, .inl fms))] := hD
  refine lv_aload_n hx hb dX11_open_5 rfl (lv_at hl 0 rfl) ?_
  have hPc_1 := hP.sub (ws' := [(mo, .inr (11, (fmo.set 0 (.int 0)))), (ms, .inl (y 1, 765, .inl fms))]) [0, 1] rfl
  have hDc_1 := hD.sub (ws' := [(mo, .inr (11, (fmo.set 0 (.int 0)))), (ms, .inl (y 1, 765, .inl fms))]) [0, 1] (by decide +kernel) rfl
  have hFc_1 := va_free (wc := [(mo, .inr (11, (fmo.set 0 (.int 0)))), (ms, .inl (y 1, 765, .inl fms))]) hD hS hA [0, 1] rfl
  refine va_calli (va_runV (As := []) (rest := []) ⟨hx, hb, hml, hown, hg⟩ (c_X11_openOf l D y H.size mo (fmo.set 0 (.int 0)) ms fms (px_sn (by decide) hmo_6) (px_sn (by decide) hmo_47) hms_e1) (cwV 0 hg (px_gV q_8_89 q_8_91 q_p_95 q_1_15 q_8_92) rfl rfl rfl (by decide +kernel) ⟨Nat.le_of_ble_eq_true rfl, Nat.le_of_ble_eq_true rfl⟩) (px_preV hK hPc_1 hDc_1 (ci := 11) (q0 := 0) rfl rfl) rfl rfl hl.1 rfl (lv_room (Nat.le_of_ble_eq_true rfl)) dX11_open_6 ⟨Nat.le_of_ble_eq_true rfl, Nat.le_of_ble_eq_true rfl⟩) hS (fun q _ h => hFc_1 q h) hFc_1 (fun r_1 u_1 t_1 H1 locs ht_1 hvm_1 hw_1 hB_1 hz_1 hk_1 hS => ?_)
  refine W.cs (cells' := 0) (slots' := 0) rfl rfl ?_
  obtain ⟨hP1_1, hD1_1⟩ := hB_1
  rw [ht_1] at hP1_1
  obtain ⟨hP, hD⟩ := va_join (wr := []) (w1 := [(mo, .inr (11, ((fmo.set 0 (.int 0)).set 47 (.int (-1))))), (ms, .inl (y 1, 765, .inl fms))]) hP hD [0, 1] [] rfl rfl (by decide +kernel) (by decide +kernel) hk_1 hFc_1 hP1_1 hD1_1
  generalize H1 = H at hP hS ⊢
  have hP : va_P D vwCl [(mo, .inr (11, ((fmo.set 0 (.int 0)).set 47 (.int (-1))))), (ms, .inl (y 1, 765, .inl fms))] H := hP
  have hD : va_D A [(mo, .inr (11, ((fmo.set 0 (.int 0)).set 47 (.int (-1))))), (ms, .inl (y 1, 765, .inl fms))] := hD
  obtain rfl : r_1 = (-101) := hw_1
  exact W.iret (v := (-101)) hx hb hr (fun t ht hW => ⟨⟨_, (), rfl, rfl, trivial⟩, hS.F ht⟩) hS.2.2 dX11_open_9

set_option maxHeartbeats 4000000 in
set_option maxRecDepth 100000 in
theorem c_X11_first (l : Launch) (D : va_G) (y : Nat → ClassId) (sz : Nat) (mo : Nat) (fmo : List Value) (ms : Nat) (fms : Nat → Int32) (hmo_0 : fmo[0]? = some (.int 0)) (hmo_6 : fmo[6]? = some (.ref ms)) (hmo_47 : fmo[47]? = some (.int 0)) (hms_e1 : fms 1 = 0) : Met l yX11_first (px_w yX11_first cX11_first 1 (some .int)) ({ frames := 1, cells := 0, slots := 0, locals := 24 }) (va_Pc [.ref mo] (px_P D y sz [(mo, .inr (11, fmo)), (ms, .inl (y 1, 765, .inl fms))])) (va_Qi (fun (r : Int32) (u : Unit) => r = (-1)) (fun (u : Unit) t => True) (va_A [(mo, .inr (11, fmo)), (ms, .inl (y 1, 765, .inl fms))] sz)) 0 0 (va_A [(mo, .inr (11, fmo)), (ms, .inl (y 1, 765, .inl fms))] sz) := by
  refine Met.ofW (cc := cX11_first) (maxL := 1) (ret := (some .int)) (by decide) rfl ?_
  intro p e s m args below meth c s₁ B hml hv
  obtain ⟨rfl, hsz, hP, hK, hD0⟩ := hv
  have hx := B.exec
  have hb := B.bytes
  have hr := B.returns
  have hts := atoms_spec (ws := px_w yX11_first cX11_first 1 (some .int)) B.pre
  have hg : ∀ w ∈ gw, w.before [.ref mo].toArray s = true := fun w h => hts w (List.mem_cons_of_mem _ h)
  have hown : s.vm.findClass RX11 = some m.cls := findClass_of_methodNamed B.named
  have hlocks := B.notSynchronized
  subst hsz
  have hD := hD0.self (sz := s.heap.size)
  generalize hAe : va_A [(mo, .inr (11, fmo)), (ms, .inl (y 1, 765, .inl fms))] s.heap.size = A at hD ⊢
  have hA : ∀ q : Nat, s.heap.size ≤ q → A q := fun q h => by rw [← hAe]; exact Or.inr h
  have hS : va_S A s.heap s.heap [] := va_S.rf
  have hP : va_P D vwCl [(mo, .inr (11, fmo)), (ms, .inl (y 1, 765, .inl fms))] s.heap := hP
  have hl := lv_entry ([.ref mo]) (n := 1) (Nat.le_of_ble_eq_true rfl)
  rw [lg_entry_eq]
  generalize (lg_sl ([.ref mo]) ++ List.replicate (1 - (lg_sl ([.ref mo])).length) Slot.unset).toArray = ls at hl ⊢
  have hl : lv_has ls 1 [(0, .ref mo)] := hl
  refine lv_aload_n hx hb dX11_first_0 rfl (lv_at hl 0 rfl) ?_
  refine lv_iconst (v := 0) hx hb dX11_first_1 (by decide) ?_
  refine va_put (D := D) (ci := 11) (v := .int 0) (ty := .int) (C := RX11) (T := TX11) (N := 65) hx hb hg inGX11 tyX11 tyX11_ok nmX11 hown hK hP hD hS 0 rfl rfl 0 (by decide) (hg _ q_6_126) (fun _ h9 => h9) rfl (by decide +kernel) rfl rfl (px_len hmo_0) dX11_first_2 (fun H locs hP hD hS => ?_)
  have hP : va_P D vwCl [(mo, .inr (11, (fmo.set 0 (.int 0)))), (ms, .inl (y 1, 765, .inl fms))] H := hP
  have hD : va_D A [(mo, .inr (11, (fmo.set 0 (.int 0)))), (ms, .inl (y 1, 765, .inl fms))] := hD
  refine lv_aload_n hx hb dX11_first_5 rfl (lv_at hl 0 rfl) ?_
  have hPc_1 := hP.sub (ws' := [(mo, .inr (11, (fmo.set 0 (.int 0)))), (ms, .inl (y 1, 765, .inl fms))]) [0, 1] rfl
  have hDc_1 := hD.sub (ws' := [(mo, .inr (11, (fmo.set 0 (.int 0)))), (ms, .inl (y 1, 765, .inl fms))]) [0, 1] (by decide +kernel) rfl
  have hFc_1 := va_free (wc := [(mo, .inr (11, (fmo.set 0 (.int 0)))), (ms, .inl (y 1, 765, .inl fms))]) hD hS hA [0, 1] rfl
  refine va_calli (va_runV (As := []) (rest := []) ⟨hx, hb, hml, hown, hg⟩ (c_X11_openOf l D y H.size mo (fmo.set 0 (.int 0)) ms fms (px_sn (by decide) hmo_6) (px_sn (by decide) hmo_47) hms_e1) (cwV 0 hg (px_gV q_8_89 q_8_91 q_p_95 q_1_15 q_8_92) rfl rfl rfl (by decide +kernel) ⟨Nat.le_of_ble_eq_true rfl, Nat.le_of_ble_eq_true rfl⟩) (px_preV hK hPc_1 hDc_1 (ci := 11) (q0 := 0) rfl rfl) rfl rfl hl.1 rfl (lv_room (Nat.le_of_ble_eq_true rfl)) dX11_first_6 ⟨Nat.le_of_ble_eq_true rfl, Nat.le_of_ble_eq_true rfl⟩) hS (fun q _ h => hFc_1 q h) hFc_1 (fun r_1 u_1 t_1 H1 locs ht_1 hvm_1 hw_1 hB_1 hz_1 hk_1 hS => ?_)
  refine W.cs (cells' := 0) (slots' := 0) rfl rfl ?_
  obtain ⟨hP1_1, hD1_1⟩ := hB_1
  rw [ht_1] at hP1_1
  obtain ⟨hP, hD⟩ := va_join (wr := []) (w1 := [(mo, .inr (11, ((fmo.set 0 (.int 0)).set 47 (.int (-1))))), (ms, .inl (y 1, 765, .inl fms))]) hP hD [0, 1] [] rfl rfl (by decide +kernel) (by decide +kernel) hk_1 hFc_1 hP1_1 hD1_1
  generalize H1 = H at hP hS ⊢
  have hP : va_P D vwCl [(mo, .inr (11, ((fmo.set 0 (.int 0)).set 47 (.int (-1))))), (ms, .inl (y 1, 765, .inl fms))] H := hP
  have hD : va_D A [(mo, .inr (11, ((fmo.set 0 (.int 0)).set 47 (.int (-1))))), (ms, .inl (y 1, 765, .inl fms))] := hD
  obtain rfl : r_1 = (-101) := hw_1
  refine lv_bipush (v := (-101)) hx hb dX11_first_9 (by decide) ?_
  refine lv_icmp_ne (tgt := 18) hx hb dX11_first_11 (by decide) (fun c_2 => absurd c_2 (by decide)) (fun _ => ?_)
  refine lv_iconst (v := (-1)) hx hb dX11_first_14 (by decide) ?_
  refine lv_goto (tgt := 22) hx hb dX11_first_15 (by decide) ?_
  exact W.iret (v := (-1)) hx hb hr (fun t ht hW => ⟨⟨_, (), rfl, rfl, trivial⟩, hS.F ht⟩) hS.2.2 dX11_first_22

set_option maxHeartbeats 4000000 in
set_option maxRecDepth 100000 in
theorem c_X11_end (l : Launch) (D : va_G) (y : Nat → ClassId) (sz : Nat) (mo : Nat) (fmo : List Value) (p0 : Int32) (hmo_0 : fmo[0]? = some (.int 0)) (hmo_2 : fmo[2]? = some (.int 0)) : Met l yX11_end (px_w yX11_end cX11_end 2 (some .boolean)) ({ frames := 0, cells := 0, slots := 0, locals := 0 }) (va_Pc [.ref mo, .int p0] (px_P D y sz [(mo, .inr (11, fmo))])) (va_Qi (fun (r : Int32) (u : Unit) => r = px_is0 p0) (fun (u : Unit) t => True) (va_A [(mo, .inr (11, fmo))] sz)) 0 0 (va_A [(mo, .inr (11, fmo))] sz) := by
  refine Met.ofW (cc := cX11_end) (maxL := 2) (ret := (some .boolean)) (by decide) rfl ?_
  intro p e s m args below meth c s₁ B hml hv
  obtain ⟨rfl, hsz, hP, hK, hD0⟩ := hv
  have hx := B.exec
  have hb := B.bytes
  have hr := B.returns
  have hts := atoms_spec (ws := px_w yX11_end cX11_end 2 (some .boolean)) B.pre
  have hg : ∀ w ∈ gw, w.before [.ref mo, .int p0].toArray s = true := fun w h => hts w (List.mem_cons_of_mem _ h)
  have hown : s.vm.findClass RX11 = some m.cls := findClass_of_methodNamed B.named
  have hlocks := B.notSynchronized
  subst hsz
  have hD := hD0.self (sz := s.heap.size)
  generalize hAe : va_A [(mo, .inr (11, fmo))] s.heap.size = A at hD ⊢
  have hA : ∀ q : Nat, s.heap.size ≤ q → A q := fun q h => by rw [← hAe]; exact Or.inr h
  have hS : va_S A s.heap s.heap [] := va_S.rf
  have hP : va_P D vwCl [(mo, .inr (11, fmo))] s.heap := hP
  have hl := lv_entry ([.ref mo, .int p0]) (n := 2) (Nat.le_of_ble_eq_true rfl)
  rw [lg_entry_eq]
  generalize (lg_sl ([.ref mo, .int p0]) ++ List.replicate (2 - (lg_sl ([.ref mo, .int p0])).length) Slot.unset).toArray = ls at hl ⊢
  have hl : lv_has ls 2 [(0, .ref mo), (1, .int p0)] := hl
  refine lv_aload_n hx hb dX11_end_0 rfl (lv_at hl 0 rfl) ?_
  refine lv_iconst (v := 0) hx hb dX11_end_1 (by decide) ?_
  refine va_put (D := D) (ci := 11) (v := .int 0) (ty := .int) (C := RX11) (T := TX11) (N := 65) hx hb hg inGX11 tyX11 tyX11_ok nmX11 hown hK hP hD hS 0 rfl rfl 0 (by decide) (hg _ q_6_126) (fun _ h9 => h9) rfl (by decide +kernel) rfl rfl (px_len hmo_0) dX11_end_2 (fun H locs hP hD hS => ?_)
  have hP : va_P D vwCl [(mo, .inr (11, (fmo.set 0 (.int 0))))] H := hP
  have hD : va_D A [(mo, .inr (11, (fmo.set 0 (.int 0))))] := hD
  refine lv_iload_n hx hb dX11_end_5 rfl (lv_at hl 1 rfl) ?_
  refine lv_if_lt (tgt := 17) hx hb dX11_end_6 (by decide) (fun c_1 => ?_) (fun c_1 => ?_)
  · refine lv_iconst (v := 0) hx hb dX11_end_17 (by decide) ?_
    exact W.zret (v := 0) hx hb hr (by decide) (fun t ht hW => ⟨⟨_, (), rfl, (by show _ = px_is0 p0; unfold px_is0; simp only [Int32.lt_iff_toInt_lt, Int32.le_iff_toInt_le, ← Int32.toInt_inj] at c_1; have e0 : (0 : Int32).toInt = 0 := rfl; first | (rw [if_pos (by omega)]; done) | (rw [if_neg (by omega)]; done)), trivial⟩, hS.F ht⟩) hS.2.2 dX11_end_18
  · refine lv_iload_n hx hb dX11_end_9 rfl (lv_at hl 1 rfl) ?_
    refine lv_aload_n hx hb dX11_end_10 rfl (lv_at hl 0 rfl) ?_
    refine va_get (D := D) (ci := 11) (v := .int 0) (C := RX11) (T := TX11) (N := 65) hx hb hg inGX11 hown hK hP 0 rfl rfl 2 (by decide) (hg _ q_6_128) (fun _ h9 => h9) (px_sn (by decide) hmo_2) dX11_end_11 ?_
    refine lv_icmp_le (tgt := 19) hx hb dX11_end_14 (by decide) (fun c_2 => ?_) (fun c_2 => ?_)
    · refine lv_aload_n hx hb dX11_end_19 rfl (lv_at hl 0 rfl) ?_
      refine lv_iload_n hx hb dX11_end_20 rfl (lv_at hl 1 rfl) ?_
      refine va_put (D := D) (ci := 11) (v := .int p0) (ty := .int) (C := RX11) (T := TX11) (N := 65) hx hb hg inGX11 tyX11 tyX11_ok nmX11 hown hK hP hD hS 0 rfl rfl 2 (by decide) (hg _ q_6_128) (fun _ h9 => h9) rfl (by decide +kernel) rfl rfl (px_len (px_sn (by decide) hmo_2)) dX11_end_21 (fun H locs hP hD hS => ?_)
      have hP : va_P D vwCl [(mo, .inr (11, ((fmo.set 0 (.int 0)).set 2 (.int p0))))] H := hP
      have hD : va_D A [(mo, .inr (11, ((fmo.set 0 (.int 0)).set 2 (.int p0))))] := hD
      refine lv_iconst (v := 1) hx hb dX11_end_24 (by decide) ?_
      exact W.zret (v := 1) hx hb hr (by decide) (fun t ht hW => ⟨⟨_, (), rfl, (by show _ = px_is0 p0; unfold px_is0; simp only [Int32.lt_iff_toInt_lt, Int32.le_iff_toInt_le, ← Int32.toInt_inj] at c_1 c_2; have e0 : (0 : Int32).toInt = 0 := rfl; first | (rw [if_pos (by omega)]; done) | (rw [if_neg (by omega)]; done)), trivial⟩, hS.F ht⟩) hS.2.2 dX11_end_25
    · refine lv_iconst (v := 0) hx hb dX11_end_17 (by decide) ?_
      exact W.zret (v := 0) hx hb hr (by decide) (fun t ht hW => ⟨⟨_, (), rfl, (by show _ = px_is0 p0; unfold px_is0; simp only [Int32.lt_iff_toInt_lt, Int32.le_iff_toInt_le, ← Int32.toInt_inj] at c_1 c_2; have e0 : (0 : Int32).toInt = 0 := rfl; first | (rw [if_pos (by omega)]; done) | (rw [if_neg (by omega)]; done)), trivial⟩, hS.F ht⟩) hS.2.2 dX11_end_18

set_option maxHeartbeats 4000000 in
set_option maxRecDepth 100000 in
theorem c_X11_count (l : Launch) (D : va_G) (y : Nat → ClassId) (sz : Nat) (mo : Nat) (fmo : List Value) (ms : Nat) (fms : Nat → Int32) (p0 : Int32) (hmo_0 : fmo[0]? = some (.int 0)) (hmo_2 : fmo[2]? = some (.int 0)) (hmo_6 : fmo[6]? = some (.ref ms)) (hms_e0 : fms 0 = 0) (hms_e1 : fms 1 = 0) (hms_e2 : fms 2 = 0) (hms_e3 : fms 3 = 0) : Met l yX11_count (px_w yX11_count cX11_count 2 (some .int)) ({ frames := 1, cells := 0, slots := 0, locals := 22 }) (va_Pc [.ref mo, .int p0] (px_P D y sz [(mo, .inr (11, fmo)), (ms, .inl (y 1, 765, .inl fms))])) (va_Qi (fun (r : Int32) (u : Unit) => r = px_cnt p0) (fun (u : Unit) t => True) (va_A [(mo, .inr (11, fmo)), (ms, .inl (y 1, 765, .inl fms))] sz)) 0 0 (va_A [(mo, .inr (11, fmo)), (ms, .inl (y 1, 765, .inl fms))] sz) := by
  refine Met.ofW (cc := cX11_count) (maxL := 2) (ret := (some .int)) (by decide) rfl ?_
  intro p e s m args below meth c s₁ B hml hv
  obtain ⟨rfl, hsz, hP, hK, hD0⟩ := hv
  have hx := B.exec
  have hb := B.bytes
  have hr := B.returns
  have hts := atoms_spec (ws := px_w yX11_count cX11_count 2 (some .int)) B.pre
  have hg : ∀ w ∈ gw, w.before [.ref mo, .int p0].toArray s = true := fun w h => hts w (List.mem_cons_of_mem _ h)
  have hown : s.vm.findClass RX11 = some m.cls := findClass_of_methodNamed B.named
  have hlocks := B.notSynchronized
  subst hsz
  have hD := hD0.self (sz := s.heap.size)
  generalize hAe : va_A [(mo, .inr (11, fmo)), (ms, .inl (y 1, 765, .inl fms))] s.heap.size = A at hD ⊢
  have hA : ∀ q : Nat, s.heap.size ≤ q → A q := fun q h => by rw [← hAe]; exact Or.inr h
  have hS : va_S A s.heap s.heap [] := va_S.rf
  have hP : va_P D vwCl [(mo, .inr (11, fmo)), (ms, .inl (y 1, 765, .inl fms))] s.heap := hP
  have hl := lv_entry ([.ref mo, .int p0]) (n := 2) (Nat.le_of_ble_eq_true rfl)
  rw [lg_entry_eq]
  generalize (lg_sl ([.ref mo, .int p0]) ++ List.replicate (2 - (lg_sl ([.ref mo, .int p0])).length) Slot.unset).toArray = ls at hl ⊢
  have hl : lv_has ls 2 [(0, .ref mo), (1, .int p0)] := hl
  refine lv_aload_n hx hb dX11_count_0 rfl (lv_at hl 0 rfl) ?_
  refine lv_iconst (v := 0) hx hb dX11_count_1 (by decide) ?_
  refine va_put (D := D) (ci := 11) (v := .int 0) (ty := .int) (C := RX11) (T := TX11) (N := 65) hx hb hg inGX11 tyX11 tyX11_ok nmX11 hown hK hP hD hS 0 rfl rfl 0 (by decide) (hg _ q_6_126) (fun _ h9 => h9) rfl (by decide +kernel) rfl rfl (px_len hmo_0) dX11_count_2 (fun H locs hP hD hS => ?_)
  have hP : va_P D vwCl [(mo, .inr (11, (fmo.set 0 (.int 0)))), (ms, .inl (y 1, 765, .inl fms))] H := hP
  have hD : va_D A [(mo, .inr (11, (fmo.set 0 (.int 0)))), (ms, .inl (y 1, 765, .inl fms))] := hD
  refine lv_iload_n hx hb dX11_count_5 rfl (lv_at hl 1 rfl) ?_
  refine lv_iconst (v := 4) hx hb dX11_count_6 (by decide) ?_
  refine lv_icmp_ne (tgt := 17) hx hb dX11_count_7 (by decide) (fun c_1 => ?_) (fun c_1 => ?_)
  · refine lv_iload_n hx hb dX11_count_17 rfl (lv_at hl 1 rfl) ?_
    refine lv_iconst (v := 0) hx hb dX11_count_18 (by decide) ?_
    refine lv_iconst (v := 3) hx hb dX11_count_19 (by decide) ?_
    have hPc_2 := hP.sub (ws' := []) [] rfl
    have hDc_2 := hD.sub (ws' := []) [] (by decide +kernel) rfl
    refine vp_callSi (va_Run.run (va_runS (As := [.int p0, .int 0, .int 3]) (rest := []) ⟨hx, hb, hml, hown, hg⟩ (c_X11_isIn l D y H.size p0 0 3 ) (va_cwS 3 hg (px_gS q_7_121 q_7_122 q_1_15 q_7_123) rfl rfl rfl (by decide +kernel) ⟨Nat.le_of_ble_eq_true rfl, Nat.le_of_ble_eq_true rfl⟩) (px_preS hK hPc_2 hDc_2) rfl rfl hl.1 rfl (lv_room (Nat.le_of_ble_eq_true rfl)) dX11_count_20 ⟨Nat.le_of_ble_eq_true rfl, Nat.le_of_ble_eq_true rfl⟩)) (fun r_2 hw_2 => ?_)
    rcases hw_2 with ⟨rfl, g_2_0_0, g_2_0_1⟩ | ⟨rfl, g_2_1_0⟩ | ⟨rfl, g_2_2_0⟩
    · refine lv_if_eq (tgt := 35) hx hb dX11_count_23 (by decide) (fun c_3 => absurd c_3 (by decide)) (fun _ => ?_)
      refine lv_aload_n hx hb dX11_count_26 rfl (lv_at hl 0 rfl) ?_
      refine va_get (D := D) (ci := 11) (v := .ref ms) (C := RX11) (T := TX11) (N := 65) hx hb hg inGX11 hown hK hP 0 rfl rfl 6 (by decide) (hg _ q_6_132) (fun _ h9 => h9) (px_sn (by decide) hmo_6) dX11_count_27 ?_
      refine lv_iload_n hx hb dX11_count_30 rfl (lv_at hl 1 rfl) ?_
      obtain ⟨j_4, hj_4, ej_4⟩ := px_split (x := p0) (n := 3) (by decide) (by simp only [Int32.lt_iff_toInt_lt, Int32.le_iff_toInt_le, ← Int32.toInt_inj] at c_1 g_2_0_0 g_2_0_1; have e0 : (0 : Int32).toInt = 0 := rfl; have e1 : (3 : Int32).toInt = 3 := rfl; have e2 : (4 : Int32).toInt = 4 := rfl; omega) (by simp only [Int32.lt_iff_toInt_lt, Int32.le_iff_toInt_le, ← Int32.toInt_inj] at c_1 g_2_0_0 g_2_0_1; have e0 : (0 : Int32).toInt = 0 := rfl; have e1 : (3 : Int32).toInt = 3 := rfl; have e2 : (4 : Int32).toInt = 4 := rfl; omega)
      rcases (show j_4 = 0 ∨ j_4 = 1 ∨ j_4 = 2 ∨ j_4 = 3 by omega) with rfl | rfl | rfl | rfl
      · obtain rfl : p0 = 0 := ej_4
        refine va_iald hx hb hK hP 1 1 rfl rfl (i := 0) (px_in (by decide)) dX11_count_31 ?_
        refine px_top (v := 0) hms_e0 ?_
        refine lv_goto (tgt := 36) hx hb dX11_count_32 (by decide) ?_
        exact W.iret (v := 0) hx hb hr (fun t ht hW => ⟨⟨_, (), rfl, (by decide), trivial⟩, hS.F ht⟩) hS.2.2 dX11_count_36
      · obtain rfl : p0 = 1 := ej_4
        refine va_iald hx hb hK hP 1 1 rfl rfl (i := 1) (px_in (by decide)) dX11_count_31 ?_
        refine px_top (v := 0) hms_e1 ?_
        refine lv_goto (tgt := 36) hx hb dX11_count_32 (by decide) ?_
        exact W.iret (v := 0) hx hb hr (fun t ht hW => ⟨⟨_, (), rfl, (by decide), trivial⟩, hS.F ht⟩) hS.2.2 dX11_count_36
      · obtain rfl : p0 = 2 := ej_4
        refine va_iald hx hb hK hP 1 1 rfl rfl (i := 2) (px_in (by decide)) dX11_count_31 ?_
        refine px_top (v := 0) hms_e2 ?_
        refine lv_goto (tgt := 36) hx hb dX11_count_32 (by decide) ?_
        exact W.iret (v := 0) hx hb hr (fun t ht hW => ⟨⟨_, (), rfl, (by decide), trivial⟩, hS.F ht⟩) hS.2.2 dX11_count_36
      · obtain rfl : p0 = 3 := ej_4
        refine va_iald hx hb hK hP 1 1 rfl rfl (i := 3) (px_in (by decide)) dX11_count_31 ?_
        refine px_top (v := 0) hms_e3 ?_
        refine lv_goto (tgt := 36) hx hb dX11_count_32 (by decide) ?_
        exact W.iret (v := 0) hx hb hr (fun t ht hW => ⟨⟨_, (), rfl, (by decide), trivial⟩, hS.F ht⟩) hS.2.2 dX11_count_36
    · refine lv_if_eq (tgt := 35) hx hb dX11_count_23 (by decide) (fun _ => ?_) (fun c_5 => absurd c_5 (by decide))
      refine lv_iconst (v := (-1)) hx hb dX11_count_35 (by decide) ?_
      exact W.iret (v := (-1)) hx hb hr (fun t ht hW => ⟨⟨_, (), rfl, (by show _ = px_cnt p0; unfold px_cnt; simp only [Int32.lt_iff_toInt_lt, Int32.le_iff_toInt_le, ← Int32.toInt_inj] at c_1 g_2_1_0; have e0 : (0 : Int32).toInt = 0 := rfl; have e1 : (4 : Int32).toInt = 4 := rfl; first | (rw [if_pos (by omega)]; done) | (rw [if_neg (by omega)]; done)), trivial⟩, hS.F ht⟩) hS.2.2 dX11_count_36
    · refine lv_if_eq (tgt := 35) hx hb dX11_count_23 (by decide) (fun _ => ?_) (fun c_6 => absurd c_6 (by decide))
      refine lv_iconst (v := (-1)) hx hb dX11_count_35 (by decide) ?_
      exact W.iret (v := (-1)) hx hb hr (fun t ht hW => ⟨⟨_, (), rfl, (by show _ = px_cnt p0; unfold px_cnt; simp only [Int32.lt_iff_toInt_lt, Int32.le_iff_toInt_le, ← Int32.toInt_inj] at c_1 g_2_2_0; have e0 : (3 : Int32).toInt = 3 := rfl; have e1 : (4 : Int32).toInt = 4 := rfl; first | (rw [if_pos (by omega)]; done) | (rw [if_neg (by omega)]; done)), trivial⟩, hS.F ht⟩) hS.2.2 dX11_count_36
  · refine lv_aload_n hx hb dX11_count_10 rfl (lv_at hl 0 rfl) ?_
    refine va_get (D := D) (ci := 11) (v := .int 0) (C := RX11) (T := TX11) (N := 65) hx hb hg inGX11 hown hK hP 0 rfl rfl 2 (by decide) (hg _ q_6_128) (fun _ h9 => h9) (px_sn (by decide) hmo_2) dX11_count_11 ?_
    refine lv_goto (tgt := 36) hx hb dX11_count_14 (by decide) ?_
    exact W.iret (v := 0) hx hb hr (fun t ht hW => ⟨⟨_, (), rfl, (by show _ = px_cnt p0; unfold px_cnt; simp only [Int32.lt_iff_toInt_lt, Int32.le_iff_toInt_le, ← Int32.toInt_inj] at c_1; have e0 : (4 : Int32).toInt = 4 := rfl; first | (rw [if_pos (by omega)]; done) | (rw [if_neg (by omega)]; done)), trivial⟩, hS.F ht⟩) hS.2.2 dX11_count_36

set_option maxHeartbeats 4000000 in
set_option maxRecDepth 100000 in
theorem c_X11_allBooks (l : Launch) (D : va_G) (y : Nat → ClassId) (sz : Nat) (mo : Nat) (fmo : List Value) (ms : Nat) (fms : Nat → Int32) (hmo_6 : fmo[6]? = some (.ref ms)) (hms_e138 : fms 138 = 0) (hms_e139 : fms 139 = 0) (hms_e140 : fms 140 = 0) (hms_e141 : fms 141 = 0) (hms_e142 : fms 142 = 0) (hms_e143 : fms 143 = 0) (hms_e144 : fms 144 = 0) (hms_e145 : fms 145 = 0) (hms_e146 : fms 146 = 0) (hms_e147 : fms 147 = 0) (hms_e148 : fms 148 = 0) (hms_e149 : fms 149 = 0) (hms_e150 : fms 150 = 0) : Met l yX11_allBooks (px_w yX11_allBooks cX11_allBooks 3 (some .int)) ({ frames := 0, cells := 0, slots := 0, locals := 0 }) (va_Pc [.ref mo] (px_P D y sz [(mo, .inr (11, fmo)), (ms, .inl (y 1, 765, .inl fms))])) (vp_Si (fun r : Int32 => r = 0)) 0 0 (fun _ => False) := by
  refine Met.ofW (cc := cX11_allBooks) (maxL := 3) (ret := (some .int)) (by decide) rfl ?_
  intro p e s m args below meth c s₁ B hml hv
  obtain ⟨rfl, hsz, hP, hK, hD0⟩ := hv
  have hx := B.exec
  have hb := B.bytes
  have hr := B.returns
  have hts := atoms_spec (ws := px_w yX11_allBooks cX11_allBooks 3 (some .int)) B.pre
  have hg : ∀ w ∈ gw, w.before [.ref mo].toArray s = true := fun w h => hts w (List.mem_cons_of_mem _ h)
  have hown : s.vm.findClass RX11 = some m.cls := findClass_of_methodNamed B.named
  have hlocks := B.notSynchronized
  subst hsz
  have hD := hD0
  have hP : va_P D vwCl [(mo, .inr (11, fmo)), (ms, .inl (y 1, 765, .inl fms))] s.heap := hP
  have hl := lv_entry ([.ref mo]) (n := 3) (Nat.le_of_ble_eq_true rfl)
  rw [lg_entry_eq]
  generalize (lg_sl ([.ref mo]) ++ List.replicate (3 - (lg_sl ([.ref mo])).length) Slot.unset).toArray = ls at hl ⊢
  have hl : lv_has ls 3 [(0, .ref mo)] := hl
  refine lv_iconst (v := 0) hx hb dX11_allBooks_0 (by decide) ?_
  refine lv_istore_n (lv' := [(1, .int 0), (0, .ref mo)]) hx hb dX11_allBooks_1 rfl hl (by decide) rfl (fun ls hl => ?_)
  refine lv_iconst (v := 0) hx hb dX11_allBooks_2 (by decide) ?_
  refine lv_istore_n (lv' := [(2, .int 0), (1, .int 0), (0, .ref mo)]) hx hb dX11_allBooks_3 rfl hl (by decide) rfl (fun ls hl => ?_)
  refine lv_iload_n hx hb dX11_allBooks_4 rfl (lv_at hl 0 rfl) ?_
  refine lv_bipush (v := 13) hx hb dX11_allBooks_5 (by decide) ?_
  refine lv_icmp_ge (tgt := 37) hx hb dX11_allBooks_7 (by decide) (fun c_1 => absurd c_1 (by decide)) (fun _ => ?_)
  refine lv_iload_n hx hb dX11_allBooks_10 rfl (lv_at hl 1 rfl) ?_
  refine lv_aload_n hx hb dX11_allBooks_11 rfl (lv_at hl 2 rfl) ?_
  refine va_get (D := D) (ci := 11) (v := .ref ms) (C := RX11) (T := TX11) (N := 65) hx hb hg inGX11 hown hK hP 0 rfl rfl 6 (by decide) (hg _ q_6_132) (fun _ h9 => h9) hmo_6 dX11_allBooks_12 ?_
  refine lv_sipush (v := 138) hx hb dX11_allBooks_15 (by decide) ?_
  refine lv_iload_n hx hb dX11_allBooks_18 rfl (lv_at hl 0 rfl) ?_
  refine lv_iadd hx hb dX11_allBooks_19 ?_
  refine px_top (v := 138) (by decide) ?_
  refine va_iald hx hb hK hP 1 1 rfl rfl (i := 138) (px_in (by decide)) dX11_allBooks_20 ?_
  refine px_top (v := 0) hms_e138 ?_
  refine lv_if_le (tgt := 28) hx hb dX11_allBooks_21 (by decide) (fun _ => ?_) (fun c_2 => absurd c_2 (by decide))
  refine lv_iconst (v := 0) hx hb dX11_allBooks_28 (by decide) ?_
  refine lv_iadd hx hb dX11_allBooks_29 ?_
  refine px_top (v := 0) (by decide) ?_
  refine lv_istore_n (lv' := [(1, .int 0), (2, .int 0), (0, .ref mo)]) hx hb dX11_allBooks_30 rfl hl (by decide) rfl (fun ls hl => ?_)
  refine lv_iinc (v := 1) (lv' := [(2, .int 1), (1, .int 0), (0, .ref mo)]) hx hb dX11_allBooks_31 hl (k := 1) rfl (by decide) (by decide) rfl (fun ls hl => ?_)
  refine lv_goto (tgt := 4) hx hb dX11_allBooks_34 (by decide) ?_
  refine lv_iload_n hx hb dX11_allBooks_4 rfl (lv_at hl 0 rfl) ?_
  refine lv_bipush (v := 13) hx hb dX11_allBooks_5 (by decide) ?_
  refine lv_icmp_ge (tgt := 37) hx hb dX11_allBooks_7 (by decide) (fun c_3 => absurd c_3 (by decide)) (fun _ => ?_)
  refine lv_iload_n hx hb dX11_allBooks_10 rfl (lv_at hl 1 rfl) ?_
  refine lv_aload_n hx hb dX11_allBooks_11 rfl (lv_at hl 2 rfl) ?_
  refine va_get (D := D) (ci := 11) (v := .ref ms) (C := RX11) (T := TX11) (N := 65) hx hb hg inGX11 hown hK hP 0 rfl rfl 6 (by decide) (hg _ q_6_132) (fun _ h9 => h9) hmo_6 dX11_allBooks_12 ?_
  refine lv_sipush (v := 138) hx hb dX11_allBooks_15 (by decide) ?_
  refine lv_iload_n hx hb dX11_allBooks_18 rfl (lv_at hl 0 rfl) ?_
  refine lv_iadd hx hb dX11_allBooks_19 ?_
  refine px_top (v := 139) (by decide) ?_
  refine va_iald hx hb hK hP 1 1 rfl rfl (i := 139) (px_in (by decide)) dX11_allBooks_20 ?_
  refine px_top (v := 0) hms_e139 ?_
  refine lv_if_le (tgt := 28) hx hb dX11_allBooks_21 (by decide) (fun _ => ?_) (fun c_4 => absurd c_4 (by decide))
  refine lv_iconst (v := 0) hx hb dX11_allBooks_28 (by decide) ?_
  refine lv_iadd hx hb dX11_allBooks_29 ?_
  refine px_top (v := 0) (by decide) ?_
  refine lv_istore_n (lv' := [(1, .int 0), (2, .int 1), (0, .ref mo)]) hx hb dX11_allBooks_30 rfl hl (by decide) rfl (fun ls hl => ?_)
  refine lv_iinc (v := 2) (lv' := [(2, .int 2), (1, .int 0), (0, .ref mo)]) hx hb dX11_allBooks_31 hl (k := 1) rfl (by decide) (by decide) rfl (fun ls hl => ?_)
  refine lv_goto (tgt := 4) hx hb dX11_allBooks_34 (by decide) ?_
  refine lv_iload_n hx hb dX11_allBooks_4 rfl (lv_at hl 0 rfl) ?_
  refine lv_bipush (v := 13) hx hb dX11_allBooks_5 (by decide) ?_
  refine lv_icmp_ge (tgt := 37) hx hb dX11_allBooks_7 (by decide) (fun c_5 => absurd c_5 (by decide)) (fun _ => ?_)
  refine lv_iload_n hx hb dX11_allBooks_10 rfl (lv_at hl 1 rfl) ?_
  refine lv_aload_n hx hb dX11_allBooks_11 rfl (lv_at hl 2 rfl) ?_
  refine va_get (D := D) (ci := 11) (v := .ref ms) (C := RX11) (T := TX11) (N := 65) hx hb hg inGX11 hown hK hP 0 rfl rfl 6 (by decide) (hg _ q_6_132) (fun _ h9 => h9) hmo_6 dX11_allBooks_12 ?_
  refine lv_sipush (v := 138) hx hb dX11_allBooks_15 (by decide) ?_
  refine lv_iload_n hx hb dX11_allBooks_18 rfl (lv_at hl 0 rfl) ?_
  refine lv_iadd hx hb dX11_allBooks_19 ?_
  refine px_top (v := 140) (by decide) ?_
  refine va_iald hx hb hK hP 1 1 rfl rfl (i := 140) (px_in (by decide)) dX11_allBooks_20 ?_
  refine px_top (v := 0) hms_e140 ?_
  refine lv_if_le (tgt := 28) hx hb dX11_allBooks_21 (by decide) (fun _ => ?_) (fun c_6 => absurd c_6 (by decide))
  refine lv_iconst (v := 0) hx hb dX11_allBooks_28 (by decide) ?_
  refine lv_iadd hx hb dX11_allBooks_29 ?_
  refine px_top (v := 0) (by decide) ?_
  refine lv_istore_n (lv' := [(1, .int 0), (2, .int 2), (0, .ref mo)]) hx hb dX11_allBooks_30 rfl hl (by decide) rfl (fun ls hl => ?_)
  refine lv_iinc (v := 3) (lv' := [(2, .int 3), (1, .int 0), (0, .ref mo)]) hx hb dX11_allBooks_31 hl (k := 1) rfl (by decide) (by decide) rfl (fun ls hl => ?_)
  refine lv_goto (tgt := 4) hx hb dX11_allBooks_34 (by decide) ?_
  refine lv_iload_n hx hb dX11_allBooks_4 rfl (lv_at hl 0 rfl) ?_
  refine lv_bipush (v := 13) hx hb dX11_allBooks_5 (by decide) ?_
  refine lv_icmp_ge (tgt := 37) hx hb dX11_allBooks_7 (by decide) (fun c_7 => absurd c_7 (by decide)) (fun _ => ?_)
  refine lv_iload_n hx hb dX11_allBooks_10 rfl (lv_at hl 1 rfl) ?_
  refine lv_aload_n hx hb dX11_allBooks_11 rfl (lv_at hl 2 rfl) ?_
  refine va_get (D := D) (ci := 11) (v := .ref ms) (C := RX11) (T := TX11) (N := 65) hx hb hg inGX11 hown hK hP 0 rfl rfl 6 (by decide) (hg _ q_6_132) (fun _ h9 => h9) hmo_6 dX11_allBooks_12 ?_
  refine lv_sipush (v := 138) hx hb dX11_allBooks_15 (by decide) ?_
  refine lv_iload_n hx hb dX11_allBooks_18 rfl (lv_at hl 0 rfl) ?_
  refine lv_iadd hx hb dX11_allBooks_19 ?_
  refine px_top (v := 141) (by decide) ?_
  refine va_iald hx hb hK hP 1 1 rfl rfl (i := 141) (px_in (by decide)) dX11_allBooks_20 ?_
  refine px_top (v := 0) hms_e141 ?_
  refine lv_if_le (tgt := 28) hx hb dX11_allBooks_21 (by decide) (fun _ => ?_) (fun c_8 => absurd c_8 (by decide))
  refine lv_iconst (v := 0) hx hb dX11_allBooks_28 (by decide) ?_
  refine lv_iadd hx hb dX11_allBooks_29 ?_
  refine px_top (v := 0) (by decide) ?_
  refine lv_istore_n (lv' := [(1, .int 0), (2, .int 3), (0, .ref mo)]) hx hb dX11_allBooks_30 rfl hl (by decide) rfl (fun ls hl => ?_)
  refine lv_iinc (v := 4) (lv' := [(2, .int 4), (1, .int 0), (0, .ref mo)]) hx hb dX11_allBooks_31 hl (k := 1) rfl (by decide) (by decide) rfl (fun ls hl => ?_)
  refine lv_goto (tgt := 4) hx hb dX11_allBooks_34 (by decide) ?_
  refine lv_iload_n hx hb dX11_allBooks_4 rfl (lv_at hl 0 rfl) ?_
  refine lv_bipush (v := 13) hx hb dX11_allBooks_5 (by decide) ?_
  refine lv_icmp_ge (tgt := 37) hx hb dX11_allBooks_7 (by decide) (fun c_9 => absurd c_9 (by decide)) (fun _ => ?_)
  refine lv_iload_n hx hb dX11_allBooks_10 rfl (lv_at hl 1 rfl) ?_
  refine lv_aload_n hx hb dX11_allBooks_11 rfl (lv_at hl 2 rfl) ?_
  refine va_get (D := D) (ci := 11) (v := .ref ms) (C := RX11) (T := TX11) (N := 65) hx hb hg inGX11 hown hK hP 0 rfl rfl 6 (by decide) (hg _ q_6_132) (fun _ h9 => h9) hmo_6 dX11_allBooks_12 ?_
  refine lv_sipush (v := 138) hx hb dX11_allBooks_15 (by decide) ?_
  refine lv_iload_n hx hb dX11_allBooks_18 rfl (lv_at hl 0 rfl) ?_
  refine lv_iadd hx hb dX11_allBooks_19 ?_
  refine px_top (v := 142) (by decide) ?_
  refine va_iald hx hb hK hP 1 1 rfl rfl (i := 142) (px_in (by decide)) dX11_allBooks_20 ?_
  refine px_top (v := 0) hms_e142 ?_
  refine lv_if_le (tgt := 28) hx hb dX11_allBooks_21 (by decide) (fun _ => ?_) (fun c_10 => absurd c_10 (by decide))
  refine lv_iconst (v := 0) hx hb dX11_allBooks_28 (by decide) ?_
  refine lv_iadd hx hb dX11_allBooks_29 ?_
  refine px_top (v := 0) (by decide) ?_
  refine lv_istore_n (lv' := [(1, .int 0), (2, .int 4), (0, .ref mo)]) hx hb dX11_allBooks_30 rfl hl (by decide) rfl (fun ls hl => ?_)
  refine lv_iinc (v := 5) (lv' := [(2, .int 5), (1, .int 0), (0, .ref mo)]) hx hb dX11_allBooks_31 hl (k := 1) rfl (by decide) (by decide) rfl (fun ls hl => ?_)
  refine lv_goto (tgt := 4) hx hb dX11_allBooks_34 (by decide) ?_
  refine lv_iload_n hx hb dX11_allBooks_4 rfl (lv_at hl 0 rfl) ?_
  refine lv_bipush (v := 13) hx hb dX11_allBooks_5 (by decide) ?_
  refine lv_icmp_ge (tgt := 37) hx hb dX11_allBooks_7 (by decide) (fun c_11 => absurd c_11 (by decide)) (fun _ => ?_)
  refine lv_iload_n hx hb dX11_allBooks_10 rfl (lv_at hl 1 rfl) ?_
  refine lv_aload_n hx hb dX11_allBooks_11 rfl (lv_at hl 2 rfl) ?_
  refine va_get (D := D) (ci := 11) (v := .ref ms) (C := RX11) (T := TX11) (N := 65) hx hb hg inGX11 hown hK hP 0 rfl rfl 6 (by decide) (hg _ q_6_132) (fun _ h9 => h9) hmo_6 dX11_allBooks_12 ?_
  refine lv_sipush (v := 138) hx hb dX11_allBooks_15 (by decide) ?_
  refine lv_iload_n hx hb dX11_allBooks_18 rfl (lv_at hl 0 rfl) ?_
  refine lv_iadd hx hb dX11_allBooks_19 ?_
  refine px_top (v := 143) (by decide) ?_
  refine va_iald hx hb hK hP 1 1 rfl rfl (i := 143) (px_in (by decide)) dX11_allBooks_20 ?_
  refine px_top (v := 0) hms_e143 ?_
  refine lv_if_le (tgt := 28) hx hb dX11_allBooks_21 (by decide) (fun _ => ?_) (fun c_12 => absurd c_12 (by decide))
  refine lv_iconst (v := 0) hx hb dX11_allBooks_28 (by decide) ?_
  refine lv_iadd hx hb dX11_allBooks_29 ?_
  refine px_top (v := 0) (by decide) ?_
  refine lv_istore_n (lv' := [(1, .int 0), (2, .int 5), (0, .ref mo)]) hx hb dX11_allBooks_30 rfl hl (by decide) rfl (fun ls hl => ?_)
  refine lv_iinc (v := 6) (lv' := [(2, .int 6), (1, .int 0), (0, .ref mo)]) hx hb dX11_allBooks_31 hl (k := 1) rfl (by decide) (by decide) rfl (fun ls hl => ?_)
  refine lv_goto (tgt := 4) hx hb dX11_allBooks_34 (by decide) ?_
  refine lv_iload_n hx hb dX11_allBooks_4 rfl (lv_at hl 0 rfl) ?_
  refine lv_bipush (v := 13) hx hb dX11_allBooks_5 (by decide) ?_
  refine lv_icmp_ge (tgt := 37) hx hb dX11_allBooks_7 (by decide) (fun c_13 => absurd c_13 (by decide)) (fun _ => ?_)
  refine lv_iload_n hx hb dX11_allBooks_10 rfl (lv_at hl 1 rfl) ?_
  refine lv_aload_n hx hb dX11_allBooks_11 rfl (lv_at hl 2 rfl) ?_
  refine va_get (D := D) (ci := 11) (v := .ref ms) (C := RX11) (T := TX11) (N := 65) hx hb hg inGX11 hown hK hP 0 rfl rfl 6 (by decide) (hg _ q_6_132) (fun _ h9 => h9) hmo_6 dX11_allBooks_12 ?_
  refine lv_sipush (v := 138) hx hb dX11_allBooks_15 (by decide) ?_
  refine lv_iload_n hx hb dX11_allBooks_18 rfl (lv_at hl 0 rfl) ?_
  refine lv_iadd hx hb dX11_allBooks_19 ?_
  refine px_top (v := 144) (by decide) ?_
  refine va_iald hx hb hK hP 1 1 rfl rfl (i := 144) (px_in (by decide)) dX11_allBooks_20 ?_
  refine px_top (v := 0) hms_e144 ?_
  refine lv_if_le (tgt := 28) hx hb dX11_allBooks_21 (by decide) (fun _ => ?_) (fun c_14 => absurd c_14 (by decide))
  refine lv_iconst (v := 0) hx hb dX11_allBooks_28 (by decide) ?_
  refine lv_iadd hx hb dX11_allBooks_29 ?_
  refine px_top (v := 0) (by decide) ?_
  refine lv_istore_n (lv' := [(1, .int 0), (2, .int 6), (0, .ref mo)]) hx hb dX11_allBooks_30 rfl hl (by decide) rfl (fun ls hl => ?_)
  refine lv_iinc (v := 7) (lv' := [(2, .int 7), (1, .int 0), (0, .ref mo)]) hx hb dX11_allBooks_31 hl (k := 1) rfl (by decide) (by decide) rfl (fun ls hl => ?_)
  refine lv_goto (tgt := 4) hx hb dX11_allBooks_34 (by decide) ?_
  refine lv_iload_n hx hb dX11_allBooks_4 rfl (lv_at hl 0 rfl) ?_
  refine lv_bipush (v := 13) hx hb dX11_allBooks_5 (by decide) ?_
  refine lv_icmp_ge (tgt := 37) hx hb dX11_allBooks_7 (by decide) (fun c_15 => absurd c_15 (by decide)) (fun _ => ?_)
  refine lv_iload_n hx hb dX11_allBooks_10 rfl (lv_at hl 1 rfl) ?_
  refine lv_aload_n hx hb dX11_allBooks_11 rfl (lv_at hl 2 rfl) ?_
  refine va_get (D := D) (ci := 11) (v := .ref ms) (C := RX11) (T := TX11) (N := 65) hx hb hg inGX11 hown hK hP 0 rfl rfl 6 (by decide) (hg _ q_6_132) (fun _ h9 => h9) hmo_6 dX11_allBooks_12 ?_
  refine lv_sipush (v := 138) hx hb dX11_allBooks_15 (by decide) ?_
  refine lv_iload_n hx hb dX11_allBooks_18 rfl (lv_at hl 0 rfl) ?_
  refine lv_iadd hx hb dX11_allBooks_19 ?_
  refine px_top (v := 145) (by decide) ?_
  refine va_iald hx hb hK hP 1 1 rfl rfl (i := 145) (px_in (by decide)) dX11_allBooks_20 ?_
  refine px_top (v := 0) hms_e145 ?_
  refine lv_if_le (tgt := 28) hx hb dX11_allBooks_21 (by decide) (fun _ => ?_) (fun c_16 => absurd c_16 (by decide))
  refine lv_iconst (v := 0) hx hb dX11_allBooks_28 (by decide) ?_
  refine lv_iadd hx hb dX11_allBooks_29 ?_
  refine px_top (v := 0) (by decide) ?_
  refine lv_istore_n (lv' := [(1, .int 0), (2, .int 7), (0, .ref mo)]) hx hb dX11_allBooks_30 rfl hl (by decide) rfl (fun ls hl => ?_)
  refine lv_iinc (v := 8) (lv' := [(2, .int 8), (1, .int 0), (0, .ref mo)]) hx hb dX11_allBooks_31 hl (k := 1) rfl (by decide) (by decide) rfl (fun ls hl => ?_)
  refine lv_goto (tgt := 4) hx hb dX11_allBooks_34 (by decide) ?_
  refine lv_iload_n hx hb dX11_allBooks_4 rfl (lv_at hl 0 rfl) ?_
  refine lv_bipush (v := 13) hx hb dX11_allBooks_5 (by decide) ?_
  refine lv_icmp_ge (tgt := 37) hx hb dX11_allBooks_7 (by decide) (fun c_17 => absurd c_17 (by decide)) (fun _ => ?_)
  refine lv_iload_n hx hb dX11_allBooks_10 rfl (lv_at hl 1 rfl) ?_
  refine lv_aload_n hx hb dX11_allBooks_11 rfl (lv_at hl 2 rfl) ?_
  refine va_get (D := D) (ci := 11) (v := .ref ms) (C := RX11) (T := TX11) (N := 65) hx hb hg inGX11 hown hK hP 0 rfl rfl 6 (by decide) (hg _ q_6_132) (fun _ h9 => h9) hmo_6 dX11_allBooks_12 ?_
  refine lv_sipush (v := 138) hx hb dX11_allBooks_15 (by decide) ?_
  refine lv_iload_n hx hb dX11_allBooks_18 rfl (lv_at hl 0 rfl) ?_
  refine lv_iadd hx hb dX11_allBooks_19 ?_
  refine px_top (v := 146) (by decide) ?_
  refine va_iald hx hb hK hP 1 1 rfl rfl (i := 146) (px_in (by decide)) dX11_allBooks_20 ?_
  refine px_top (v := 0) hms_e146 ?_
  refine lv_if_le (tgt := 28) hx hb dX11_allBooks_21 (by decide) (fun _ => ?_) (fun c_18 => absurd c_18 (by decide))
  refine lv_iconst (v := 0) hx hb dX11_allBooks_28 (by decide) ?_
  refine lv_iadd hx hb dX11_allBooks_29 ?_
  refine px_top (v := 0) (by decide) ?_
  refine lv_istore_n (lv' := [(1, .int 0), (2, .int 8), (0, .ref mo)]) hx hb dX11_allBooks_30 rfl hl (by decide) rfl (fun ls hl => ?_)
  refine lv_iinc (v := 9) (lv' := [(2, .int 9), (1, .int 0), (0, .ref mo)]) hx hb dX11_allBooks_31 hl (k := 1) rfl (by decide) (by decide) rfl (fun ls hl => ?_)
  refine lv_goto (tgt := 4) hx hb dX11_allBooks_34 (by decide) ?_
  refine lv_iload_n hx hb dX11_allBooks_4 rfl (lv_at hl 0 rfl) ?_
  refine lv_bipush (v := 13) hx hb dX11_allBooks_5 (by decide) ?_
  refine lv_icmp_ge (tgt := 37) hx hb dX11_allBooks_7 (by decide) (fun c_19 => absurd c_19 (by decide)) (fun _ => ?_)
  refine lv_iload_n hx hb dX11_allBooks_10 rfl (lv_at hl 1 rfl) ?_
  refine lv_aload_n hx hb dX11_allBooks_11 rfl (lv_at hl 2 rfl) ?_
  refine va_get (D := D) (ci := 11) (v := .ref ms) (C := RX11) (T := TX11) (N := 65) hx hb hg inGX11 hown hK hP 0 rfl rfl 6 (by decide) (hg _ q_6_132) (fun _ h9 => h9) hmo_6 dX11_allBooks_12 ?_
  refine lv_sipush (v := 138) hx hb dX11_allBooks_15 (by decide) ?_
  refine lv_iload_n hx hb dX11_allBooks_18 rfl (lv_at hl 0 rfl) ?_
  refine lv_iadd hx hb dX11_allBooks_19 ?_
  refine px_top (v := 147) (by decide) ?_
  refine va_iald hx hb hK hP 1 1 rfl rfl (i := 147) (px_in (by decide)) dX11_allBooks_20 ?_
  refine px_top (v := 0) hms_e147 ?_
  refine lv_if_le (tgt := 28) hx hb dX11_allBooks_21 (by decide) (fun _ => ?_) (fun c_20 => absurd c_20 (by decide))
  refine lv_iconst (v := 0) hx hb dX11_allBooks_28 (by decide) ?_
  refine lv_iadd hx hb dX11_allBooks_29 ?_
  refine px_top (v := 0) (by decide) ?_
  refine lv_istore_n (lv' := [(1, .int 0), (2, .int 9), (0, .ref mo)]) hx hb dX11_allBooks_30 rfl hl (by decide) rfl (fun ls hl => ?_)
  refine lv_iinc (v := 10) (lv' := [(2, .int 10), (1, .int 0), (0, .ref mo)]) hx hb dX11_allBooks_31 hl (k := 1) rfl (by decide) (by decide) rfl (fun ls hl => ?_)
  refine lv_goto (tgt := 4) hx hb dX11_allBooks_34 (by decide) ?_
  refine lv_iload_n hx hb dX11_allBooks_4 rfl (lv_at hl 0 rfl) ?_
  refine lv_bipush (v := 13) hx hb dX11_allBooks_5 (by decide) ?_
  refine lv_icmp_ge (tgt := 37) hx hb dX11_allBooks_7 (by decide) (fun c_21 => absurd c_21 (by decide)) (fun _ => ?_)
  refine lv_iload_n hx hb dX11_allBooks_10 rfl (lv_at hl 1 rfl) ?_
  refine lv_aload_n hx hb dX11_allBooks_11 rfl (lv_at hl 2 rfl) ?_
  refine va_get (D := D) (ci := 11) (v := .ref ms) (C := RX11) (T := TX11) (N := 65) hx hb hg inGX11 hown hK hP 0 rfl rfl 6 (by decide) (hg _ q_6_132) (fun _ h9 => h9) hmo_6 dX11_allBooks_12 ?_
  refine lv_sipush (v := 138) hx hb dX11_allBooks_15 (by decide) ?_
  refine lv_iload_n hx hb dX11_allBooks_18 rfl (lv_at hl 0 rfl) ?_
  refine lv_iadd hx hb dX11_allBooks_19 ?_
  refine px_top (v := 148) (by decide) ?_
  refine va_iald hx hb hK hP 1 1 rfl rfl (i := 148) (px_in (by decide)) dX11_allBooks_20 ?_
  refine px_top (v := 0) hms_e148 ?_
  refine lv_if_le (tgt := 28) hx hb dX11_allBooks_21 (by decide) (fun _ => ?_) (fun c_22 => absurd c_22 (by decide))
  refine lv_iconst (v := 0) hx hb dX11_allBooks_28 (by decide) ?_
  refine lv_iadd hx hb dX11_allBooks_29 ?_
  refine px_top (v := 0) (by decide) ?_
  refine lv_istore_n (lv' := [(1, .int 0), (2, .int 10), (0, .ref mo)]) hx hb dX11_allBooks_30 rfl hl (by decide) rfl (fun ls hl => ?_)
  refine lv_iinc (v := 11) (lv' := [(2, .int 11), (1, .int 0), (0, .ref mo)]) hx hb dX11_allBooks_31 hl (k := 1) rfl (by decide) (by decide) rfl (fun ls hl => ?_)
  refine lv_goto (tgt := 4) hx hb dX11_allBooks_34 (by decide) ?_
  refine lv_iload_n hx hb dX11_allBooks_4 rfl (lv_at hl 0 rfl) ?_
  refine lv_bipush (v := 13) hx hb dX11_allBooks_5 (by decide) ?_
  refine lv_icmp_ge (tgt := 37) hx hb dX11_allBooks_7 (by decide) (fun c_23 => absurd c_23 (by decide)) (fun _ => ?_)
  refine lv_iload_n hx hb dX11_allBooks_10 rfl (lv_at hl 1 rfl) ?_
  refine lv_aload_n hx hb dX11_allBooks_11 rfl (lv_at hl 2 rfl) ?_
  refine va_get (D := D) (ci := 11) (v := .ref ms) (C := RX11) (T := TX11) (N := 65) hx hb hg inGX11 hown hK hP 0 rfl rfl 6 (by decide) (hg _ q_6_132) (fun _ h9 => h9) hmo_6 dX11_allBooks_12 ?_
  refine lv_sipush (v := 138) hx hb dX11_allBooks_15 (by decide) ?_
  refine lv_iload_n hx hb dX11_allBooks_18 rfl (lv_at hl 0 rfl) ?_
  refine lv_iadd hx hb dX11_allBooks_19 ?_
  refine px_top (v := 149) (by decide) ?_
  refine va_iald hx hb hK hP 1 1 rfl rfl (i := 149) (px_in (by decide)) dX11_allBooks_20 ?_
  refine px_top (v := 0) hms_e149 ?_
  refine lv_if_le (tgt := 28) hx hb dX11_allBooks_21 (by decide) (fun _ => ?_) (fun c_24 => absurd c_24 (by decide))
  refine lv_iconst (v := 0) hx hb dX11_allBooks_28 (by decide) ?_
  refine lv_iadd hx hb dX11_allBooks_29 ?_
  refine px_top (v := 0) (by decide) ?_
  refine lv_istore_n (lv' := [(1, .int 0), (2, .int 11), (0, .ref mo)]) hx hb dX11_allBooks_30 rfl hl (by decide) rfl (fun ls hl => ?_)
  refine lv_iinc (v := 12) (lv' := [(2, .int 12), (1, .int 0), (0, .ref mo)]) hx hb dX11_allBooks_31 hl (k := 1) rfl (by decide) (by decide) rfl (fun ls hl => ?_)
  refine lv_goto (tgt := 4) hx hb dX11_allBooks_34 (by decide) ?_
  refine lv_iload_n hx hb dX11_allBooks_4 rfl (lv_at hl 0 rfl) ?_
  refine lv_bipush (v := 13) hx hb dX11_allBooks_5 (by decide) ?_
  refine lv_icmp_ge (tgt := 37) hx hb dX11_allBooks_7 (by decide) (fun c_25 => absurd c_25 (by decide)) (fun _ => ?_)
  refine lv_iload_n hx hb dX11_allBooks_10 rfl (lv_at hl 1 rfl) ?_
  refine lv_aload_n hx hb dX11_allBooks_11 rfl (lv_at hl 2 rfl) ?_
  refine va_get (D := D) (ci := 11) (v := .ref ms) (C := RX11) (T := TX11) (N := 65) hx hb hg inGX11 hown hK hP 0 rfl rfl 6 (by decide) (hg _ q_6_132) (fun _ h9 => h9) hmo_6 dX11_allBooks_12 ?_
  refine lv_sipush (v := 138) hx hb dX11_allBooks_15 (by decide) ?_
  refine lv_iload_n hx hb dX11_allBooks_18 rfl (lv_at hl 0 rfl) ?_
  refine lv_iadd hx hb dX11_allBooks_19 ?_
  refine px_top (v := 150) (by decide) ?_
  refine va_iald hx hb hK hP 1 1 rfl rfl (i := 150) (px_in (by decide)) dX11_allBooks_20 ?_
  refine px_top (v := 0) hms_e150 ?_
  refine lv_if_le (tgt := 28) hx hb dX11_allBooks_21 (by decide) (fun _ => ?_) (fun c_26 => absurd c_26 (by decide))
  refine lv_iconst (v := 0) hx hb dX11_allBooks_28 (by decide) ?_
  refine lv_iadd hx hb dX11_allBooks_29 ?_
  refine px_top (v := 0) (by decide) ?_
  refine lv_istore_n (lv' := [(1, .int 0), (2, .int 12), (0, .ref mo)]) hx hb dX11_allBooks_30 rfl hl (by decide) rfl (fun ls hl => ?_)
  refine lv_iinc (v := 13) (lv' := [(2, .int 13), (1, .int 0), (0, .ref mo)]) hx hb dX11_allBooks_31 hl (k := 1) rfl (by decide) (by decide) rfl (fun ls hl => ?_)
  refine lv_goto (tgt := 4) hx hb dX11_allBooks_34 (by decide) ?_
  refine lv_iload_n hx hb dX11_allBooks_4 rfl (lv_at hl 0 rfl) ?_
  refine lv_bipush (v := 13) hx hb dX11_allBooks_5 (by decide) ?_
  refine lv_icmp_ge (tgt := 37) hx hb dX11_allBooks_7 (by decide) (fun _ => ?_) (fun c_27 => absurd c_27 (by decide))
  refine lv_iload_n hx hb dX11_allBooks_37 rfl (lv_at hl 1 rfl) ?_
  exact W.iret (v := 0) hx hb hr (fun t ht hW => ⟨_, rfl, rfl, ht⟩) (fun q h => by cases h) dX11_allBooks_38

set_option maxHeartbeats 4000000 in
set_option maxRecDepth 100000 in
theorem c_X11_now (l : Launch) (D : va_G) (y : Nat → ClassId) (sz : Nat) (mo : Nat) (fmo : List Value) (ms : Nat) (fms : Nat → Int32) (p0 : Int32) (hmo_0 : fmo[0]? = some (.int 0)) (hmo_6 : fmo[6]? = some (.ref ms)) (hms_e1 : fms 1 = 0) (hms_e4 : fms 4 = (-1)) (hms_e5 : fms 5 = 0) (hms_e6 : fms 6 = 0) (hms_e7 : fms 7 = 0) (hms_e138 : fms 138 = 0) (hms_e139 : fms 139 = 0) (hms_e140 : fms 140 = 0) (hms_e141 : fms 141 = 0) (hms_e142 : fms 142 = 0) (hms_e143 : fms 143 = 0) (hms_e144 : fms 144 = 0) (hms_e145 : fms 145 = 0) (hms_e146 : fms 146 = 0) (hms_e147 : fms 147 = 0) (hms_e148 : fms 148 = 0) (hms_e149 : fms 149 = 0) (hms_e150 : fms 150 = 0) : Met l yX11_now (px_w yX11_now cX11_now 4 (some .int)) ({ frames := 1, cells := 0, slots := 0, locals := 22 }) (va_Pc [.ref mo, .int p0] (px_P D y sz [(mo, .inr (11, fmo)), (ms, .inl (y 1, 765, .inl fms))])) (va_Qi (fun (r : Int32) (u : Unit) => r = px_now p0) (fun (u : Unit) t => True) (va_A [(mo, .inr (11, fmo)), (ms, .inl (y 1, 765, .inl fms))] sz)) 0 0 (va_A [(mo, .inr (11, fmo)), (ms, .inl (y 1, 765, .inl fms))] sz) := by
  refine Met.ofW (cc := cX11_now) (maxL := 4) (ret := (some .int)) (by decide) rfl ?_
  intro p e s m args below meth c s₁ B hml hv
  obtain ⟨rfl, hsz, hP, hK, hD0⟩ := hv
  have hx := B.exec
  have hb := B.bytes
  have hr := B.returns
  have hts := atoms_spec (ws := px_w yX11_now cX11_now 4 (some .int)) B.pre
  have hg : ∀ w ∈ gw, w.before [.ref mo, .int p0].toArray s = true := fun w h => hts w (List.mem_cons_of_mem _ h)
  have hown : s.vm.findClass RX11 = some m.cls := findClass_of_methodNamed B.named
  have hlocks := B.notSynchronized
  subst hsz
  have hD := hD0.self (sz := s.heap.size)
  generalize hAe : va_A [(mo, .inr (11, fmo)), (ms, .inl (y 1, 765, .inl fms))] s.heap.size = A at hD ⊢
  have hA : ∀ q : Nat, s.heap.size ≤ q → A q := fun q h => by rw [← hAe]; exact Or.inr h
  have hS : va_S A s.heap s.heap [] := va_S.rf
  have hP : va_P D vwCl [(mo, .inr (11, fmo)), (ms, .inl (y 1, 765, .inl fms))] s.heap := hP
  have hl := lv_entry ([.ref mo, .int p0]) (n := 4) (Nat.le_of_ble_eq_true rfl)
  rw [lg_entry_eq]
  generalize (lg_sl ([.ref mo, .int p0]) ++ List.replicate (4 - (lg_sl ([.ref mo, .int p0])).length) Slot.unset).toArray = ls at hl ⊢
  have hl : lv_has ls 4 [(0, .ref mo), (1, .int p0)] := hl
  refine lv_aload_n hx hb dX11_now_0 rfl (lv_at hl 0 rfl) ?_
  refine lv_iconst (v := 0) hx hb dX11_now_1 (by decide) ?_
  refine va_put (D := D) (ci := 11) (v := .int 0) (ty := .int) (C := RX11) (T := TX11) (N := 65) hx hb hg inGX11 tyX11 tyX11_ok nmX11 hown hK hP hD hS 0 rfl rfl 0 (by decide) (hg _ q_6_126) (fun _ h9 => h9) rfl (by decide +kernel) rfl rfl (px_len hmo_0) dX11_now_2 (fun H locs hP hD hS => ?_)
  have hP : va_P D vwCl [(mo, .inr (11, (fmo.set 0 (.int 0)))), (ms, .inl (y 1, 765, .inl fms))] H := hP
  have hD : va_D A [(mo, .inr (11, (fmo.set 0 (.int 0)))), (ms, .inl (y 1, 765, .inl fms))] := hD
  refine lv_aload_n hx hb dX11_now_5 rfl (lv_at hl 0 rfl) ?_
  refine va_get (D := D) (ci := 11) (v := .ref ms) (C := RX11) (T := TX11) (N := 65) hx hb hg inGX11 hown hK hP 0 rfl rfl 6 (by decide) (hg _ q_6_132) (fun _ h9 => h9) (px_sn (by decide) hmo_6) dX11_now_6 ?_
  refine lv_bipush (v := 7) hx hb dX11_now_9 (by decide) ?_
  refine va_iald hx hb hK hP 1 1 rfl rfl (i := 7) (px_in (by decide)) dX11_now_11 ?_
  refine px_top (v := 0) hms_e7 ?_
  refine lv_istore_n (lv' := [(2, .int 0), (0, .ref mo), (1, .int p0)]) hx hb dX11_now_12 rfl hl (by decide) rfl (fun ls hl => ?_)
  refine lv_iconst (v := 0) hx hb dX11_now_13 (by decide) ?_
  refine lv_istore_n (lv' := [(3, .int 0), (2, .int 0), (0, .ref mo), (1, .int p0)]) hx hb dX11_now_14 rfl hl (by decide) rfl (fun ls hl => ?_)
  refine lv_iload_n hx hb dX11_now_15 rfl (lv_at hl 0 rfl) ?_
  refine lv_aload_n hx hb dX11_now_16 rfl (lv_at hl 2 rfl) ?_
  refine va_get (D := D) (ci := 11) (v := .ref ms) (C := RX11) (T := TX11) (N := 65) hx hb hg inGX11 hown hK hP 0 rfl rfl 6 (by decide) (hg _ q_6_132) (fun _ h9 => h9) (px_sn (by decide) hmo_6) dX11_now_17 ?_
  refine lv_iconst (v := 1) hx hb dX11_now_20 (by decide) ?_
  refine va_iald hx hb hK hP 1 1 rfl rfl (i := 1) (px_in (by decide)) dX11_now_21 ?_
  refine px_top (v := 0) hms_e1 ?_
  refine lv_icmp_ge (tgt := 39) hx hb dX11_now_22 (by decide) (fun _ => ?_) (fun c_1 => absurd c_1 (by decide))
  refine lv_iload_n hx hb dX11_now_39 rfl (lv_at hl 3 rfl) ?_
  rcases pk_ix p0 (n := 6) (by decide) with h_2 | h_2 | ⟨j_h_2, hh_2, h_2⟩
  · refine lv_tableOut (tgt := 117) hx hb dX11_now_40 (Or.inl (Int32.lt_iff_toInt_lt.mp h_2)) (by decide) ?_
    refine lv_iconst (v := (-1)) hx hb dX11_now_117 (by decide) ?_
    exact W.iret (v := (-1)) hx hb hr (fun t ht hW => ⟨⟨_, (), rfl, (by show _ = px_now p0; unfold px_now; simp only [Int32.lt_iff_toInt_lt, Int32.le_iff_toInt_le, ← Int32.toInt_inj] at h_2; have e0 : (0 : Int32).toInt = 0 := rfl; first | (rw [if_pos (by omega)]; done) | (rw [if_neg (by omega)]; done)), trivial⟩, hS.F ht⟩) hS.2.2 dX11_now_118
  · refine lv_tableOut (tgt := 117) hx hb dX11_now_40 (Or.inr (Int.lt_of_lt_of_le (by decide : (5 : Int) < (nI 6).toInt) (Int32.le_iff_toInt_le.mp h_2))) (by decide) ?_
    have h_2 : (6 : Int32) ≤ p0 := h_2
    refine lv_iconst (v := (-1)) hx hb dX11_now_117 (by decide) ?_
    exact W.iret (v := (-1)) hx hb hr (fun t ht hW => ⟨⟨_, (), rfl, (by show _ = px_now p0; unfold px_now; simp only [Int32.lt_iff_toInt_lt, Int32.le_iff_toInt_le, ← Int32.toInt_inj] at h_2; have e0 : (6 : Int32).toInt = 6 := rfl; first | (rw [if_pos (by omega)]; done) | (rw [if_neg (by omega)]; done)), trivial⟩, hS.F ht⟩) hS.2.2 dX11_now_118
  · rcases (show j_h_2 = 0 ∨ j_h_2 = 1 ∨ j_h_2 = 2 ∨ j_h_2 = 3 ∨ j_h_2 = 4 ∨ j_h_2 = 5 by omega) with rfl | rfl | rfl | rfl | rfl | rfl
    · obtain rfl : p0 = 0 := h_2
      refine lv_tableIn (off := 40) (tgt := 80) hx hb dX11_now_40 (by decide) (by decide) (by decide) (by decide) ?_
      refine lv_aload_n hx hb dX11_now_80 rfl (lv_at hl 2 rfl) ?_
      refine va_get (D := D) (ci := 11) (v := .ref ms) (C := RX11) (T := TX11) (N := 65) hx hb hg inGX11 hown hK hP 0 rfl rfl 6 (by decide) (hg _ q_6_132) (fun _ h9 => h9) (px_sn (by decide) hmo_6) dX11_now_81 ?_
      refine lv_iconst (v := 4) hx hb dX11_now_84 (by decide) ?_
      refine va_iald hx hb hK hP 1 1 rfl rfl (i := 4) (px_in (by decide)) dX11_now_85 ?_
      refine px_top (v := (-1)) hms_e4 ?_
      exact W.iret (v := (-1)) hx hb hr (fun t ht hW => ⟨⟨_, (), rfl, (by decide), trivial⟩, hS.F ht⟩) hS.2.2 dX11_now_86
    · obtain rfl : p0 = 1 := h_2
      refine lv_tableIn (off := 47) (tgt := 87) hx hb dX11_now_40 (by decide) (by decide) (by decide) (by decide) ?_
      refine lv_aload_n hx hb dX11_now_87 rfl (lv_at hl 2 rfl) ?_
      refine va_get (D := D) (ci := 11) (v := .ref ms) (C := RX11) (T := TX11) (N := 65) hx hb hg inGX11 hown hK hP 0 rfl rfl 6 (by decide) (hg _ q_6_132) (fun _ h9 => h9) (px_sn (by decide) hmo_6) dX11_now_88 ?_
      refine lv_bipush (v := 7) hx hb dX11_now_91 (by decide) ?_
      refine va_iald hx hb hK hP 1 1 rfl rfl (i := 7) (px_in (by decide)) dX11_now_93 ?_
      refine px_top (v := 0) hms_e7 ?_
      exact W.iret (v := 0) hx hb hr (fun t ht hW => ⟨⟨_, (), rfl, (by decide), trivial⟩, hS.F ht⟩) hS.2.2 dX11_now_94
    · obtain rfl : p0 = 2 := h_2
      refine lv_tableIn (off := 55) (tgt := 95) hx hb dX11_now_40 (by decide) (by decide) (by decide) (by decide) ?_
      refine lv_aload_n hx hb dX11_now_95 rfl (lv_at hl 2 rfl) ?_
      refine va_get (D := D) (ci := 11) (v := .ref ms) (C := RX11) (T := TX11) (N := 65) hx hb hg inGX11 hown hK hP 0 rfl rfl 6 (by decide) (hg _ q_6_132) (fun _ h9 => h9) (px_sn (by decide) hmo_6) dX11_now_96 ?_
      refine lv_iconst (v := 5) hx hb dX11_now_99 (by decide) ?_
      refine va_iald hx hb hK hP 1 1 rfl rfl (i := 5) (px_in (by decide)) dX11_now_100 ?_
      refine px_top (v := 0) hms_e5 ?_
      exact W.iret (v := 0) hx hb hr (fun t ht hW => ⟨⟨_, (), rfl, (by decide), trivial⟩, hS.F ht⟩) hS.2.2 dX11_now_101
    · obtain rfl : p0 = 3 := h_2
      refine lv_tableIn (off := 62) (tgt := 102) hx hb dX11_now_40 (by decide) (by decide) (by decide) (by decide) ?_
      refine lv_aload_n hx hb dX11_now_102 rfl (lv_at hl 2 rfl) ?_
      have hPc_3 := hP.sub (ws' := [(mo, .inr (11, (fmo.set 0 (.int 0)))), (ms, .inl (y 1, 765, .inl fms))]) [0, 1] rfl
      have hDc_3 := hD.sub (ws' := [(mo, .inr (11, (fmo.set 0 (.int 0)))), (ms, .inl (y 1, 765, .inl fms))]) [0, 1] (by decide +kernel) rfl
      refine vp_callSi (va_Run.run (va_runV (As := []) (rest := []) ⟨hx, hb, hml, hown, hg⟩ (c_X11_allBooks l D y H.size mo (fmo.set 0 (.int 0)) ms fms (px_sn (by decide) hmo_6) hms_e138 hms_e139 hms_e140 hms_e141 hms_e142 hms_e143 hms_e144 hms_e145 hms_e146 hms_e147 hms_e148 hms_e149 hms_e150) (cwV 0 hg (px_gV q_7_227 q_7_229 q_p_85 q_1_15 q_7_230) rfl rfl rfl (by decide +kernel) ⟨Nat.le_of_ble_eq_true rfl, Nat.le_of_ble_eq_true rfl⟩) (px_preV hK hPc_3 hDc_3 (ci := 11) (q0 := 0) rfl rfl) rfl rfl hl.1 rfl (lv_room (Nat.le_of_ble_eq_true rfl)) dX11_now_103 ⟨Nat.le_of_ble_eq_true rfl, Nat.le_of_ble_eq_true rfl⟩)) (fun r_3 hw_3 => ?_)
      obtain rfl : r_3 = 0 := hw_3
      exact W.iret (v := 0) hx hb hr (fun t ht hW => ⟨⟨_, (), rfl, (by decide), trivial⟩, hS.F ht⟩) hS.2.2 dX11_now_106
    · obtain rfl : p0 = 4 := h_2
      refine lv_tableIn (off := 67) (tgt := 107) hx hb dX11_now_40 (by decide) (by decide) (by decide) (by decide) ?_
      refine lv_aload_n hx hb dX11_now_107 rfl (lv_at hl 2 rfl) ?_
      refine va_get (D := D) (ci := 11) (v := .ref ms) (C := RX11) (T := TX11) (N := 65) hx hb hg inGX11 hown hK hP 0 rfl rfl 6 (by decide) (hg _ q_6_132) (fun _ h9 => h9) (px_sn (by decide) hmo_6) dX11_now_108 ?_
      refine lv_bipush (v := 6) hx hb dX11_now_111 (by decide) ?_
      refine va_iald hx hb hK hP 1 1 rfl rfl (i := 6) (px_in (by decide)) dX11_now_113 ?_
      refine px_top (v := 0) hms_e6 ?_
      exact W.iret (v := 0) hx hb hr (fun t ht hW => ⟨⟨_, (), rfl, (by decide), trivial⟩, hS.F ht⟩) hS.2.2 dX11_now_114
    · obtain rfl : p0 = 5 := h_2
      refine lv_tableIn (off := 75) (tgt := 115) hx hb dX11_now_40 (by decide) (by decide) (by decide) (by decide) ?_
      refine lv_iload_n hx hb dX11_now_115 rfl (lv_at hl 1 rfl) ?_
      exact W.iret (v := 0) hx hb hr (fun t ht hW => ⟨⟨_, (), rfl, (by decide), trivial⟩, hS.F ht⟩) hS.2.2 dX11_now_116

set_option maxHeartbeats 4000000 in
set_option maxRecDepth 100000 in
theorem c_X11_taken (l : Launch) (D : va_G) (y : Nat → ClassId) (sz : Nat) (mo : Nat) (fmo : List Value) (p0 : Int32) (hmo_2 : fmo[2]? = some (.int 0)) (hmo_3 : fmo[3]? = some (.int 0)) (hmo_4 : fmo[4]? = some (.int 0)) (hmo_5 : fmo[5]? = some (.int 0)) : Met l yX11_taken (px_w yX11_taken cX11_taken 2 none) ({ frames := 0, cells := 0, slots := 0, locals := 0 }) (va_Pc [.ref mo, .int p0] (px_P D y sz [(mo, .inr (11, fmo))])) (va_Qv (fun (u : Unit) => True) (fun (u : Unit) t => va_P D vwCl [(mo, .inr (11, ((((fmo.set 3 (.int 0)).set 2 (.int 0)).set 4 (.int 0)).set 5 (.int p0))))] t.heap ∧ va_D (va_A [(mo, .inr (11, fmo))] sz) [(mo, .inr (11, ((((fmo.set 3 (.int 0)).set 2 (.int 0)).set 4 (.int 0)).set 5 (.int p0))))]) (va_A [(mo, .inr (11, fmo))] sz)) 0 0 (va_A [(mo, .inr (11, fmo))] sz) := by
  refine Met.ofW (cc := cX11_taken) (maxL := 2) (ret := none) (by decide) rfl ?_
  intro p e s m args below meth c s₁ B hml hv
  obtain ⟨rfl, hsz, hP, hK, hD0⟩ := hv
  have hx := B.exec
  have hb := B.bytes
  have hr := B.returns
  have hts := atoms_spec (ws := px_w yX11_taken cX11_taken 2 none) B.pre
  have hg : ∀ w ∈ gw, w.before [.ref mo, .int p0].toArray s = true := fun w h => hts w (List.mem_cons_of_mem _ h)
  have hown : s.vm.findClass RX11 = some m.cls := findClass_of_methodNamed B.named
  have hlocks := B.notSynchronized
  subst hsz
  have hD := hD0.self (sz := s.heap.size)
  generalize hAe : va_A [(mo, .inr (11, fmo))] s.heap.size = A at hD ⊢
  have hA : ∀ q : Nat, s.heap.size ≤ q → A q := fun q h => by rw [← hAe]; exact Or.inr h
  have hS : va_S A s.heap s.heap [] := va_S.rf
  have hP : va_P D vwCl [(mo, .inr (11, fmo))] s.heap := hP
  have hl := lv_entry ([.ref mo, .int p0]) (n := 2) (Nat.le_of_ble_eq_true rfl)
  rw [lg_entry_eq]
  generalize (lg_sl ([.ref mo, .int p0]) ++ List.replicate (2 - (lg_sl ([.ref mo, .int p0])).length) Slot.unset).toArray = ls at hl ⊢
  have hl : lv_has ls 2 [(0, .ref mo), (1, .int p0)] := hl
  refine lv_aload_n hx hb dX11_taken_0 rfl (lv_at hl 0 rfl) ?_
  refine lv_aload_n hx hb dX11_taken_1 rfl (lv_at hl 0 rfl) ?_
  refine va_get (D := D) (ci := 11) (v := .int 0) (C := RX11) (T := TX11) (N := 65) hx hb hg inGX11 hown hK hP 0 rfl rfl 2 (by decide) (hg _ q_6_128) (fun _ h9 => h9) hmo_2 dX11_taken_2 ?_
  refine va_put (D := D) (ci := 11) (v := .int 0) (ty := .int) (C := RX11) (T := TX11) (N := 65) hx hb hg inGX11 tyX11 tyX11_ok nmX11 hown hK hP hD hS 0 rfl rfl 3 (by decide) (hg _ q_6_129) (fun _ h9 => h9) rfl (by decide +kernel) rfl rfl (px_len hmo_3) dX11_taken_5 (fun H locs hP hD hS => ?_)
  have hP : va_P D vwCl [(mo, .inr (11, (fmo.set 3 (.int 0))))] H := hP
  have hD : va_D A [(mo, .inr (11, (fmo.set 3 (.int 0))))] := hD
  refine lv_aload_n hx hb dX11_taken_8 rfl (lv_at hl 0 rfl) ?_
  refine lv_iconst (v := 0) hx hb dX11_taken_9 (by decide) ?_
  refine va_put (D := D) (ci := 11) (v := .int 0) (ty := .int) (C := RX11) (T := TX11) (N := 65) hx hb hg inGX11 tyX11 tyX11_ok nmX11 hown hK hP hD hS 0 rfl rfl 2 (by decide) (hg _ q_6_128) (fun _ h9 => h9) rfl (by decide +kernel) rfl rfl (px_len (px_sn (by decide) hmo_2)) dX11_taken_10 (fun H locs hP hD hS => ?_)
  have hP : va_P D vwCl [(mo, .inr (11, ((fmo.set 3 (.int 0)).set 2 (.int 0))))] H := hP
  have hD : va_D A [(mo, .inr (11, ((fmo.set 3 (.int 0)).set 2 (.int 0))))] := hD
  refine lv_aload_n hx hb dX11_taken_13 rfl (lv_at hl 0 rfl) ?_
  refine lv_iconst (v := 0) hx hb dX11_taken_14 (by decide) ?_
  refine va_put (D := D) (ci := 11) (v := .int 0) (ty := .int) (C := RX11) (T := TX11) (N := 65) hx hb hg inGX11 tyX11 tyX11_ok nmX11 hown hK hP hD hS 0 rfl rfl 4 (by decide) (hg _ q_6_130) (fun _ h9 => h9) rfl (by decide +kernel) rfl rfl (px_len (px_sn (by decide) (px_sn (by decide) hmo_4))) dX11_taken_15 (fun H locs hP hD hS => ?_)
  have hP : va_P D vwCl [(mo, .inr (11, (((fmo.set 3 (.int 0)).set 2 (.int 0)).set 4 (.int 0))))] H := hP
  have hD : va_D A [(mo, .inr (11, (((fmo.set 3 (.int 0)).set 2 (.int 0)).set 4 (.int 0))))] := hD
  refine lv_aload_n hx hb dX11_taken_18 rfl (lv_at hl 0 rfl) ?_
  refine lv_iload_n hx hb dX11_taken_19 rfl (lv_at hl 1 rfl) ?_
  refine va_put (D := D) (ci := 11) (v := .int p0) (ty := .int) (C := RX11) (T := TX11) (N := 65) hx hb hg inGX11 tyX11 tyX11_ok nmX11 hown hK hP hD hS 0 rfl rfl 5 (by decide) (hg _ q_6_131) (fun _ h9 => h9) rfl (by decide +kernel) rfl rfl (px_len (px_sn (by decide) (px_sn (by decide) (px_sn (by decide) hmo_5)))) dX11_taken_20 (fun H locs hP hD hS => ?_)
  have hP : va_P D vwCl [(mo, .inr (11, ((((fmo.set 3 (.int 0)).set 2 (.int 0)).set 4 (.int 0)).set 5 (.int p0))))] H := hP
  have hD : va_D A [(mo, .inr (11, ((((fmo.set 3 (.int 0)).set 2 (.int 0)).set 4 (.int 0)).set 5 (.int p0))))] := hD
  have hP9 := hP.sub (ws' := [(mo, .inr (11, ((((fmo.set 3 (.int 0)).set 2 (.int 0)).set 4 (.int 0)).set 5 (.int p0))))]) [0] rfl
  have hD9 := hD.sub (ws' := [(mo, .inr (11, ((((fmo.set 3 (.int 0)).set 2 (.int 0)).set 4 (.int 0)).set 5 (.int p0))))]) [0] (by decide +kernel) rfl
  exact W.vret hx hb hr (fun t ht hW => ⟨⟨(), rfl, trivial, by rw [ht]; exact hP9, hD9⟩, hS.F ht⟩) hS.2.2 dX11_taken_23

set_option maxHeartbeats 4000000 in
set_option maxRecDepth 100000 in
theorem c_X11_play (l : Launch) (D : va_G) (y : Nat → ClassId) (sz : Nat) (mo : Nat) (fmo : List Value) (ms : Nat) (fms : Nat → Int32) (p0 : Int32) (hmo_0 : fmo[0]? = some (.int 0)) (hmo_2 : fmo[2]? = some (.int 0)) (hmo_3 : fmo[3]? = some (.int 0)) (hmo_4 : fmo[4]? = some (.int 0)) (hmo_5 : fmo[5]? = some (.int 0)) (hmo_6 : fmo[6]? = some (.ref ms)) (hms_e1 : fms 1 = 0) : Met l yX11_play (px_w yX11_play cX11_play 3 (some .int)) ({ frames := 1, cells := 0, slots := 0, locals := 22 }) (va_Pc [.ref mo, .int p0] (px_P D y sz [(mo, .inr (11, fmo)), (ms, .inl (y 1, 765, .inl fms))])) (va_Qi (fun (r : Int32) (u : Unit) => r = (-1)) (fun (u : Unit) t => True) (va_A [(mo, .inr (11, fmo)), (ms, .inl (y 1, 765, .inl fms))] sz)) 0 0 (va_A [(mo, .inr (11, fmo)), (ms, .inl (y 1, 765, .inl fms))] sz) := by
  refine Met.ofW (cc := cX11_play) (maxL := 3) (ret := (some .int)) (by decide) rfl ?_
  intro p e s m args below meth c s₁ B hml hv
  obtain ⟨rfl, hsz, hP, hK, hD0⟩ := hv
  have hx := B.exec
  have hb := B.bytes
  have hr := B.returns
  have hts := atoms_spec (ws := px_w yX11_play cX11_play 3 (some .int)) B.pre
  have hg : ∀ w ∈ gw, w.before [.ref mo, .int p0].toArray s = true := fun w h => hts w (List.mem_cons_of_mem _ h)
  have hown : s.vm.findClass RX11 = some m.cls := findClass_of_methodNamed B.named
  have hlocks := B.notSynchronized
  subst hsz
  have hD := hD0.self (sz := s.heap.size)
  generalize hAe : va_A [(mo, .inr (11, fmo)), (ms, .inl (y 1, 765, .inl fms))] s.heap.size = A at hD ⊢
  have hA : ∀ q : Nat, s.heap.size ≤ q → A q := fun q h => by rw [← hAe]; exact Or.inr h
  have hS : va_S A s.heap s.heap [] := va_S.rf
  have hP : va_P D vwCl [(mo, .inr (11, fmo)), (ms, .inl (y 1, 765, .inl fms))] s.heap := hP
  have hl := lv_entry ([.ref mo, .int p0]) (n := 3) (Nat.le_of_ble_eq_true rfl)
  rw [lg_entry_eq]
  generalize (lg_sl ([.ref mo, .int p0]) ++ List.replicate (3 - (lg_sl ([.ref mo, .int p0])).length) Slot.unset).toArray = ls at hl ⊢
  have hl : lv_has ls 3 [(0, .ref mo), (1, .int p0)] := hl
  refine lv_aload_n hx hb dX11_play_0 rfl (lv_at hl 0 rfl) ?_
  refine lv_iconst (v := 0) hx hb dX11_play_1 (by decide) ?_
  refine va_put (D := D) (ci := 11) (v := .int 0) (ty := .int) (C := RX11) (T := TX11) (N := 65) hx hb hg inGX11 tyX11 tyX11_ok nmX11 hown hK hP hD hS 0 rfl rfl 0 (by decide) (hg _ q_6_126) (fun _ h9 => h9) rfl (by decide +kernel) rfl rfl (px_len hmo_0) dX11_play_2 (fun H locs hP hD hS => ?_)
  have hP : va_P D vwCl [(mo, .inr (11, (fmo.set 0 (.int 0)))), (ms, .inl (y 1, 765, .inl fms))] H := hP
  have hD : va_D A [(mo, .inr (11, (fmo.set 0 (.int 0)))), (ms, .inl (y 1, 765, .inl fms))] := hD
  refine lv_aload_n hx hb dX11_play_5 rfl (lv_at hl 0 rfl) ?_
  refine lv_sipush (v := 940) hx hb dX11_play_6 (by decide) ?_
  have hPc_1 := hP.sub (ws' := [(mo, .inr (11, (fmo.set 0 (.int 0))))]) [0] rfl
  have hDc_1 := hD.sub (ws' := [(mo, .inr (11, (fmo.set 0 (.int 0))))]) [0] (by decide +kernel) rfl
  have hFc_1 := va_free (wc := [(mo, .inr (11, (fmo.set 0 (.int 0))))]) hD hS hA [0] rfl
  refine va_callv (va_runV (As := [.int 940]) (rest := []) ⟨hx, hb, hml, hown, hg⟩ (c_X11_taken l D y H.size mo (fmo.set 0 (.int 0)) 940 (px_sn (by decide) hmo_2) (px_sn (by decide) hmo_3) (px_sn (by decide) hmo_4) (px_sn (by decide) hmo_5)) (cwV 1 hg (px_gV q_7_87 q_7_89 q_p_59 q_1_15 q_7_90) rfl rfl rfl (by decide +kernel) ⟨Nat.le_of_ble_eq_true rfl, Nat.le_of_ble_eq_true rfl⟩) (px_preV hK hPc_1 hDc_1 (ci := 11) (q0 := 0) rfl rfl) rfl rfl hl.1 rfl (lv_room (Nat.le_of_ble_eq_true rfl)) dX11_play_9 ⟨Nat.le_of_ble_eq_true rfl, Nat.le_of_ble_eq_true rfl⟩) hS (fun q _ h => hFc_1 q h) hFc_1 (fun u_1 t_1 H1 locs ht_1 hvm_1 hw_1 hB_1 hz_1 hk_1 hS => ?_)
  refine W.cs (cells' := 0) (slots' := 0) rfl rfl ?_
  obtain ⟨hP1_1, hD1_1⟩ := hB_1
  rw [ht_1] at hP1_1
  obtain ⟨hP, hD⟩ := va_join (wr := [(ms, .inl (y 1, 765, .inl fms))]) (w1 := [(mo, .inr (11, (((((fmo.set 0 (.int 0)).set 3 (.int 0)).set 2 (.int 0)).set 4 (.int 0)).set 5 (.int 940))))]) hP hD [0] [1] rfl rfl (by decide +kernel) (by decide +kernel) hk_1 hFc_1 hP1_1 hD1_1
  generalize H1 = H at hP hS ⊢
  have hP : va_P D vwCl [(ms, .inl (y 1, 765, .inl fms)), (mo, .inr (11, (((((fmo.set 0 (.int 0)).set 3 (.int 0)).set 2 (.int 0)).set 4 (.int 0)).set 5 (.int 940))))] H := hP
  have hD : va_D A [(ms, .inl (y 1, 765, .inl fms)), (mo, .inr (11, (((((fmo.set 0 (.int 0)).set 3 (.int 0)).set 2 (.int 0)).set 4 (.int 0)).set 5 (.int 940))))] := hD
  refine lv_iload_n hx hb dX11_play_12 rfl (lv_at hl 1 rfl) ?_
  refine lv_iconst (v := 1) hx hb dX11_play_13 (by decide) ?_
  refine lv_sipush (v := 400) hx hb dX11_play_14 (by decide) ?_
  have hPc_2 := hP.sub (ws' := []) [] rfl
  have hDc_2 := hD.sub (ws' := []) [] (by decide +kernel) rfl
  refine vp_callSi (va_Run.run (va_runS (As := [.int p0, .int 1, .int 400]) (rest := []) ⟨hx, hb, hml, hown, hg⟩ (c_X11_isIn l D y H.size p0 1 400 ) (va_cwS 3 hg (px_gS q_7_121 q_7_122 q_1_15 q_7_123) rfl rfl rfl (by decide +kernel) ⟨Nat.le_of_ble_eq_true rfl, Nat.le_of_ble_eq_true rfl⟩) (px_preS hK hPc_2 hDc_2) rfl rfl hl.1 rfl (lv_room (Nat.le_of_ble_eq_true rfl)) dX11_play_17 ⟨Nat.le_of_ble_eq_true rfl, Nat.le_of_ble_eq_true rfl⟩)) (fun r_2 hw_2 => ?_)
  rcases hw_2 with ⟨rfl, g_2_0_0, g_2_0_1⟩ | ⟨rfl, g_2_1_0⟩ | ⟨rfl, g_2_2_0⟩
  · refine lv_if_eq (tgt := 46) hx hb dX11_play_20 (by decide) (fun c_3 => absurd c_3 (by decide)) (fun _ => ?_)
    refine lv_aload_n hx hb dX11_play_23 rfl (lv_at hl 0 rfl) ?_
    refine va_get (D := D) (ci := 11) (v := .ref ms) (C := RX11) (T := TX11) (N := 65) hx hb hg inGX11 hown hK hP 1 rfl rfl 6 (by decide) (hg _ q_6_132) (fun _ h9 => h9) (px_sn (by decide) (px_sn (by decide) (px_sn (by decide) (px_sn (by decide) (px_sn (by decide) hmo_6))))) dX11_play_24 ?_
    refine lv_iconst (v := 1) hx hb dX11_play_27 (by decide) ?_
    refine va_iald hx hb hK hP 0 1 rfl rfl (i := 1) (px_in (by decide)) dX11_play_28 ?_
    refine px_top (v := 0) hms_e1 ?_
    refine lv_iconst (v := 2) hx hb dX11_play_29 (by decide) ?_
    refine lv_icmp_lt (tgt := 46) hx hb dX11_play_30 (by decide) (fun _ => ?_) (fun c_4 => absurd c_4 (by decide))
    refine lv_iconst (v := (-1)) hx hb dX11_play_46 (by decide) ?_
    exact W.iret (v := (-1)) hx hb hr (fun t ht hW => ⟨⟨_, (), rfl, rfl, trivial⟩, hS.F ht⟩) hS.2.2 dX11_play_47
  · refine lv_if_eq (tgt := 46) hx hb dX11_play_20 (by decide) (fun _ => ?_) (fun c_5 => absurd c_5 (by decide))
    refine lv_iconst (v := (-1)) hx hb dX11_play_46 (by decide) ?_
    exact W.iret (v := (-1)) hx hb hr (fun t ht hW => ⟨⟨_, (), rfl, rfl, trivial⟩, hS.F ht⟩) hS.2.2 dX11_play_47
  · refine lv_if_eq (tgt := 46) hx hb dX11_play_20 (by decide) (fun _ => ?_) (fun c_6 => absurd c_6 (by decide))
    refine lv_iconst (v := (-1)) hx hb dX11_play_46 (by decide) ?_
    exact W.iret (v := (-1)) hx hb hr (fun t ht hW => ⟨⟨_, (), rfl, rfl, trivial⟩, hS.F ht⟩) hS.2.2 dX11_play_47

set_option maxHeartbeats 4000000 in
set_option maxRecDepth 100000 in
theorem c_X11_four_0 (l : Launch) (D : va_G) (y : Nat → ClassId) (sz : Nat) (mo : Nat) (fmo : List Value) (mt : Nat) (fmt : Nat → Int32) (p0 : Int32) (hmo_1 : fmo[1]? = some (.ref mt)) (hmo_2 : fmo[2]? = some (.int 0)) : Met l yX11_four (px_w yX11_four cX11_four 3 none) ({ frames := 0, cells := 0, slots := 0, locals := 0 }) (va_Pc [.ref mo, .int p0] (px_P D y sz [(mo, .inr (11, fmo)), (mt, .inl (y 0, 940, .inl fmt))])) (va_Qv (fun (u : px_U) => True) (fun (u : px_U) t => va_P D vwCl [(mo, .inr (11, ((((fmo.set 2 (.int 1)).set 2 (.int 2)).set 2 (.int 3)).set 2 (.int 4)))), (mt, .inl (y 0, 940, .inl (u.2.1 0)))] t.heap ∧ va_D (va_A [(mo, .inr (11, fmo)), (mt, .inl (y 0, 940, .inl fmt))] sz) [(mo, .inr (11, ((((fmo.set 2 (.int 1)).set 2 (.int 2)).set 2 (.int 3)).set 2 (.int 4)))), (mt, .inl (y 0, 940, .inl (u.2.1 0)))]) (va_A [(mo, .inr (11, fmo)), (mt, .inl (y 0, 940, .inl fmt))] sz)) 0 0 (va_A [(mo, .inr (11, fmo)), (mt, .inl (y 0, 940, .inl fmt))] sz) := by
  refine Met.ofW (cc := cX11_four) (maxL := 3) (ret := none) (by decide) rfl ?_
  intro p e s m args below meth c s₁ B hml hv
  obtain ⟨rfl, hsz, hP, hK, hD0⟩ := hv
  have hx := B.exec
  have hb := B.bytes
  have hr := B.returns
  have hts := atoms_spec (ws := px_w yX11_four cX11_four 3 none) B.pre
  have hg : ∀ w ∈ gw, w.before [.ref mo, .int p0].toArray s = true := fun w h => hts w (List.mem_cons_of_mem _ h)
  have hown : s.vm.findClass RX11 = some m.cls := findClass_of_methodNamed B.named
  have hlocks := B.notSynchronized
  subst hsz
  have hD := hD0.self (sz := s.heap.size)
  generalize hAe : va_A [(mo, .inr (11, fmo)), (mt, .inl (y 0, 940, .inl fmt))] s.heap.size = A at hD ⊢
  have hA : ∀ q : Nat, s.heap.size ≤ q → A q := fun q h => by rw [← hAe]; exact Or.inr h
  have hS : va_S A s.heap s.heap [] := va_S.rf
  have hP : va_P D vwCl [(mo, .inr (11, fmo)), (mt, .inl (y 0, 940, .inl fmt))] s.heap := hP
  have hl := lv_entry ([.ref mo, .int p0]) (n := 3) (Nat.le_of_ble_eq_true rfl)
  rw [lg_entry_eq]
  generalize (lg_sl ([.ref mo, .int p0]) ++ List.replicate (3 - (lg_sl ([.ref mo, .int p0])).length) Slot.unset).toArray = ls at hl ⊢
  have hl : lv_has ls 3 [(0, .ref mo), (1, .int p0)] := hl
  refine lv_bipush (v := 24) hx hb dX11_four_0 (by decide) ?_
  refine lv_istore_n (lv' := [(2, .int 24), (0, .ref mo), (1, .int p0)]) hx hb dX11_four_2 rfl hl (by decide) rfl (fun ls hl => ?_)
  refine lv_iload_n hx hb dX11_four_3 rfl (lv_at hl 0 rfl) ?_
  refine lv_if_lt (tgt := 36) hx hb dX11_four_4 (by decide) (fun c_1 => absurd c_1 (by decide)) (fun _ => ?_)
  refine lv_aload_n hx hb dX11_four_7 rfl (lv_at hl 1 rfl) ?_
  refine va_get (D := D) (ci := 11) (v := .ref mt) (C := RX11) (T := TX11) (N := 65) hx hb hg inGX11 hown hK hP 0 rfl rfl 1 (by decide) (hg _ q_6_127) (fun _ h9 => h9) hmo_1 dX11_four_8 ?_
  refine lv_aload_n hx hb dX11_four_11 rfl (lv_at hl 1 rfl) ?_
  refine va_get (D := D) (ci := 11) (v := .int 0) (C := RX11) (T := TX11) (N := 65) hx hb hg inGX11 hown hK hP 0 rfl rfl 2 (by decide) (hg _ q_6_128) (fun _ h9 => h9) hmo_2 dX11_four_12 ?_
  refine lv_iload_n hx hb dX11_four_15 rfl (lv_at hl 2 rfl) ?_
  refine lv_iload_n hx hb dX11_four_16 rfl (lv_at hl 0 rfl) ?_
  refine lv_ishr hx hb dX11_four_17 ?_
  refine lv_i2b hx hb dX11_four_18 rfl ?_
  refine va_bast hx hb hK hP hD hS 1 0 rfl rfl (i := 0) (px_in (by decide)) dX11_four_19 (fun H locs hP hD hS => ?_)
  have hP : va_P D vwCl [(mo, .inr (11, fmo)), (mt, .inl (y 0, 940, .inl (upd fmt 0 (vp_nar .byte ((Int32.toInt8 (p0 >>> (24 &&& 31))).toInt32)))))] H := hP
  have hD : va_D A [(mo, .inr (11, fmo)), (mt, .inl (y 0, 940, .inl (upd fmt 0 (vp_nar .byte ((Int32.toInt8 (p0 >>> (24 &&& 31))).toInt32)))))] := hD
  refine lv_aload_n hx hb dX11_four_20 rfl (lv_at hl 1 rfl) ?_
  refine lv_dup hx hb dX11_four_21 rfl ?_
  refine va_get (D := D) (ci := 11) (v := .int 0) (C := RX11) (T := TX11) (N := 65) hx hb hg inGX11 hown hK hP 0 rfl rfl 2 (by decide) (hg _ q_6_128) (fun _ h9 => h9) hmo_2 dX11_four_22 ?_
  refine lv_iconst (v := 1) hx hb dX11_four_25 (by decide) ?_
  refine lv_iadd hx hb dX11_four_26 ?_
  refine px_top (v := 1) (by decide) ?_
  refine va_put (D := D) (ci := 11) (v := .int 1) (ty := .int) (C := RX11) (T := TX11) (N := 65) hx hb hg inGX11 tyX11 tyX11_ok nmX11 hown hK hP hD hS 0 rfl rfl 2 (by decide) (hg _ q_6_128) (fun _ h9 => h9) rfl (by decide +kernel) rfl rfl (px_len hmo_2) dX11_four_27 (fun H locs hP hD hS => ?_)
  have hP : va_P D vwCl [(mo, .inr (11, (fmo.set 2 (.int 1)))), (mt, .inl (y 0, 940, .inl (upd fmt 0 (vp_nar .byte ((Int32.toInt8 (p0 >>> (24 &&& 31))).toInt32)))))] H := hP
  have hD : va_D A [(mo, .inr (11, (fmo.set 2 (.int 1)))), (mt, .inl (y 0, 940, .inl (upd fmt 0 (vp_nar .byte ((Int32.toInt8 (p0 >>> (24 &&& 31))).toInt32)))))] := hD
  refine lv_iinc (v := 16) (lv' := [(2, .int 16), (0, .ref mo), (1, .int p0)]) hx hb dX11_four_30 hl (k := 0) rfl (by decide) (by decide) rfl (fun ls hl => ?_)
  refine lv_goto (tgt := 3) hx hb dX11_four_33 (by decide) ?_
  refine lv_iload_n hx hb dX11_four_3 rfl (lv_at hl 0 rfl) ?_
  refine lv_if_lt (tgt := 36) hx hb dX11_four_4 (by decide) (fun c_2 => absurd c_2 (by decide)) (fun _ => ?_)
  refine lv_aload_n hx hb dX11_four_7 rfl (lv_at hl 1 rfl) ?_
  refine va_get (D := D) (ci := 11) (v := .ref mt) (C := RX11) (T := TX11) (N := 65) hx hb hg inGX11 hown hK hP 0 rfl rfl 1 (by decide) (hg _ q_6_127) (fun _ h9 => h9) (px_sn (by decide) hmo_1) dX11_four_8 ?_
  refine lv_aload_n hx hb dX11_four_11 rfl (lv_at hl 1 rfl) ?_
  refine va_get (D := D) (ci := 11) (v := .int 1) (C := RX11) (T := TX11) (N := 65) hx hb hg inGX11 hown hK hP 0 rfl rfl 2 (by decide) (hg _ q_6_128) (fun _ h9 => h9) (px_ss hmo_2) dX11_four_12 ?_
  refine lv_iload_n hx hb dX11_four_15 rfl (lv_at hl 2 rfl) ?_
  refine lv_iload_n hx hb dX11_four_16 rfl (lv_at hl 0 rfl) ?_
  refine lv_ishr hx hb dX11_four_17 ?_
  refine lv_i2b hx hb dX11_four_18 rfl ?_
  refine va_bast hx hb hK hP hD hS 1 0 rfl rfl (i := 1) (px_in (by decide)) dX11_four_19 (fun H locs hP hD hS => ?_)
  have hP : va_P D vwCl [(mo, .inr (11, (fmo.set 2 (.int 1)))), (mt, .inl (y 0, 940, .inl (upd (upd fmt 0 (vp_nar .byte ((Int32.toInt8 (p0 >>> (24 &&& 31))).toInt32))) 1 (vp_nar .byte ((Int32.toInt8 (p0 >>> (16 &&& 31))).toInt32)))))] H := hP
  have hD : va_D A [(mo, .inr (11, (fmo.set 2 (.int 1)))), (mt, .inl (y 0, 940, .inl (upd (upd fmt 0 (vp_nar .byte ((Int32.toInt8 (p0 >>> (24 &&& 31))).toInt32))) 1 (vp_nar .byte ((Int32.toInt8 (p0 >>> (16 &&& 31))).toInt32)))))] := hD
  refine lv_aload_n hx hb dX11_four_20 rfl (lv_at hl 1 rfl) ?_
  refine lv_dup hx hb dX11_four_21 rfl ?_
  refine va_get (D := D) (ci := 11) (v := .int 1) (C := RX11) (T := TX11) (N := 65) hx hb hg inGX11 hown hK hP 0 rfl rfl 2 (by decide) (hg _ q_6_128) (fun _ h9 => h9) (px_ss hmo_2) dX11_four_22 ?_
  refine lv_iconst (v := 1) hx hb dX11_four_25 (by decide) ?_
  refine lv_iadd hx hb dX11_four_26 ?_
  refine px_top (v := 2) (by decide) ?_
  refine va_put (D := D) (ci := 11) (v := .int 2) (ty := .int) (C := RX11) (T := TX11) (N := 65) hx hb hg inGX11 tyX11 tyX11_ok nmX11 hown hK hP hD hS 0 rfl rfl 2 (by decide) (hg _ q_6_128) (fun _ h9 => h9) rfl (by decide +kernel) rfl rfl (px_len (px_ss hmo_2)) dX11_four_27 (fun H locs hP hD hS => ?_)
  have hP : va_P D vwCl [(mo, .inr (11, ((fmo.set 2 (.int 1)).set 2 (.int 2)))), (mt, .inl (y 0, 940, .inl (upd (upd fmt 0 (vp_nar .byte ((Int32.toInt8 (p0 >>> (24 &&& 31))).toInt32))) 1 (vp_nar .byte ((Int32.toInt8 (p0 >>> (16 &&& 31))).toInt32)))))] H := hP
  have hD : va_D A [(mo, .inr (11, ((fmo.set 2 (.int 1)).set 2 (.int 2)))), (mt, .inl (y 0, 940, .inl (upd (upd fmt 0 (vp_nar .byte ((Int32.toInt8 (p0 >>> (24 &&& 31))).toInt32))) 1 (vp_nar .byte ((Int32.toInt8 (p0 >>> (16 &&& 31))).toInt32)))))] := hD
  refine lv_iinc (v := 8) (lv' := [(2, .int 8), (0, .ref mo), (1, .int p0)]) hx hb dX11_four_30 hl (k := 0) rfl (by decide) (by decide) rfl (fun ls hl => ?_)
  refine lv_goto (tgt := 3) hx hb dX11_four_33 (by decide) ?_
  refine lv_iload_n hx hb dX11_four_3 rfl (lv_at hl 0 rfl) ?_
  refine lv_if_lt (tgt := 36) hx hb dX11_four_4 (by decide) (fun c_3 => absurd c_3 (by decide)) (fun _ => ?_)
  refine lv_aload_n hx hb dX11_four_7 rfl (lv_at hl 1 rfl) ?_
  refine va_get (D := D) (ci := 11) (v := .ref mt) (C := RX11) (T := TX11) (N := 65) hx hb hg inGX11 hown hK hP 0 rfl rfl 1 (by decide) (hg _ q_6_127) (fun _ h9 => h9) (px_sn (by decide) (px_sn (by decide) hmo_1)) dX11_four_8 ?_
  refine lv_aload_n hx hb dX11_four_11 rfl (lv_at hl 1 rfl) ?_
  refine va_get (D := D) (ci := 11) (v := .int 2) (C := RX11) (T := TX11) (N := 65) hx hb hg inGX11 hown hK hP 0 rfl rfl 2 (by decide) (hg _ q_6_128) (fun _ h9 => h9) (px_ss (px_ss hmo_2)) dX11_four_12 ?_
  refine lv_iload_n hx hb dX11_four_15 rfl (lv_at hl 2 rfl) ?_
  refine lv_iload_n hx hb dX11_four_16 rfl (lv_at hl 0 rfl) ?_
  refine lv_ishr hx hb dX11_four_17 ?_
  refine lv_i2b hx hb dX11_four_18 rfl ?_
  refine va_bast hx hb hK hP hD hS 1 0 rfl rfl (i := 2) (px_in (by decide)) dX11_four_19 (fun H locs hP hD hS => ?_)
  have hP : va_P D vwCl [(mo, .inr (11, ((fmo.set 2 (.int 1)).set 2 (.int 2)))), (mt, .inl (y 0, 940, .inl (upd (upd (upd fmt 0 (vp_nar .byte ((Int32.toInt8 (p0 >>> (24 &&& 31))).toInt32))) 1 (vp_nar .byte ((Int32.toInt8 (p0 >>> (16 &&& 31))).toInt32))) 2 (vp_nar .byte ((Int32.toInt8 (p0 >>> (8 &&& 31))).toInt32)))))] H := hP
  have hD : va_D A [(mo, .inr (11, ((fmo.set 2 (.int 1)).set 2 (.int 2)))), (mt, .inl (y 0, 940, .inl (upd (upd (upd fmt 0 (vp_nar .byte ((Int32.toInt8 (p0 >>> (24 &&& 31))).toInt32))) 1 (vp_nar .byte ((Int32.toInt8 (p0 >>> (16 &&& 31))).toInt32))) 2 (vp_nar .byte ((Int32.toInt8 (p0 >>> (8 &&& 31))).toInt32)))))] := hD
  refine lv_aload_n hx hb dX11_four_20 rfl (lv_at hl 1 rfl) ?_
  refine lv_dup hx hb dX11_four_21 rfl ?_
  refine va_get (D := D) (ci := 11) (v := .int 2) (C := RX11) (T := TX11) (N := 65) hx hb hg inGX11 hown hK hP 0 rfl rfl 2 (by decide) (hg _ q_6_128) (fun _ h9 => h9) (px_ss (px_ss hmo_2)) dX11_four_22 ?_
  refine lv_iconst (v := 1) hx hb dX11_four_25 (by decide) ?_
  refine lv_iadd hx hb dX11_four_26 ?_
  refine px_top (v := 3) (by decide) ?_
  refine va_put (D := D) (ci := 11) (v := .int 3) (ty := .int) (C := RX11) (T := TX11) (N := 65) hx hb hg inGX11 tyX11 tyX11_ok nmX11 hown hK hP hD hS 0 rfl rfl 2 (by decide) (hg _ q_6_128) (fun _ h9 => h9) rfl (by decide +kernel) rfl rfl (px_len (px_ss (px_ss hmo_2))) dX11_four_27 (fun H locs hP hD hS => ?_)
  have hP : va_P D vwCl [(mo, .inr (11, (((fmo.set 2 (.int 1)).set 2 (.int 2)).set 2 (.int 3)))), (mt, .inl (y 0, 940, .inl (upd (upd (upd fmt 0 (vp_nar .byte ((Int32.toInt8 (p0 >>> (24 &&& 31))).toInt32))) 1 (vp_nar .byte ((Int32.toInt8 (p0 >>> (16 &&& 31))).toInt32))) 2 (vp_nar .byte ((Int32.toInt8 (p0 >>> (8 &&& 31))).toInt32)))))] H := hP
  have hD : va_D A [(mo, .inr (11, (((fmo.set 2 (.int 1)).set 2 (.int 2)).set 2 (.int 3)))), (mt, .inl (y 0, 940, .inl (upd (upd (upd fmt 0 (vp_nar .byte ((Int32.toInt8 (p0 >>> (24 &&& 31))).toInt32))) 1 (vp_nar .byte ((Int32.toInt8 (p0 >>> (16 &&& 31))).toInt32))) 2 (vp_nar .byte ((Int32.toInt8 (p0 >>> (8 &&& 31))).toInt32)))))] := hD
  refine lv_iinc (v := 0) (lv' := [(2, .int 0), (0, .ref mo), (1, .int p0)]) hx hb dX11_four_30 hl (k := 0) rfl (by decide) (by decide) rfl (fun ls hl => ?_)
  refine lv_goto (tgt := 3) hx hb dX11_four_33 (by decide) ?_
  refine lv_iload_n hx hb dX11_four_3 rfl (lv_at hl 0 rfl) ?_
  refine lv_if_lt (tgt := 36) hx hb dX11_four_4 (by decide) (fun c_4 => absurd c_4 (by decide)) (fun _ => ?_)
  refine lv_aload_n hx hb dX11_four_7 rfl (lv_at hl 1 rfl) ?_
  refine va_get (D := D) (ci := 11) (v := .ref mt) (C := RX11) (T := TX11) (N := 65) hx hb hg inGX11 hown hK hP 0 rfl rfl 1 (by decide) (hg _ q_6_127) (fun _ h9 => h9) (px_sn (by decide) (px_sn (by decide) (px_sn (by decide) hmo_1))) dX11_four_8 ?_
  refine lv_aload_n hx hb dX11_four_11 rfl (lv_at hl 1 rfl) ?_
  refine va_get (D := D) (ci := 11) (v := .int 3) (C := RX11) (T := TX11) (N := 65) hx hb hg inGX11 hown hK hP 0 rfl rfl 2 (by decide) (hg _ q_6_128) (fun _ h9 => h9) (px_ss (px_ss (px_ss hmo_2))) dX11_four_12 ?_
  refine lv_iload_n hx hb dX11_four_15 rfl (lv_at hl 2 rfl) ?_
  refine lv_iload_n hx hb dX11_four_16 rfl (lv_at hl 0 rfl) ?_
  refine lv_ishr hx hb dX11_four_17 ?_
  refine lv_i2b hx hb dX11_four_18 rfl ?_
  refine va_bast hx hb hK hP hD hS 1 0 rfl rfl (i := 3) (px_in (by decide)) dX11_four_19 (fun H locs hP hD hS => ?_)
  have hP : va_P D vwCl [(mo, .inr (11, (((fmo.set 2 (.int 1)).set 2 (.int 2)).set 2 (.int 3)))), (mt, .inl (y 0, 940, .inl (upd (upd (upd (upd fmt 0 (vp_nar .byte ((Int32.toInt8 (p0 >>> (24 &&& 31))).toInt32))) 1 (vp_nar .byte ((Int32.toInt8 (p0 >>> (16 &&& 31))).toInt32))) 2 (vp_nar .byte ((Int32.toInt8 (p0 >>> (8 &&& 31))).toInt32))) 3 (vp_nar .byte ((Int32.toInt8 (p0 >>> (0 &&& 31))).toInt32)))))] H := hP
  have hD : va_D A [(mo, .inr (11, (((fmo.set 2 (.int 1)).set 2 (.int 2)).set 2 (.int 3)))), (mt, .inl (y 0, 940, .inl (upd (upd (upd (upd fmt 0 (vp_nar .byte ((Int32.toInt8 (p0 >>> (24 &&& 31))).toInt32))) 1 (vp_nar .byte ((Int32.toInt8 (p0 >>> (16 &&& 31))).toInt32))) 2 (vp_nar .byte ((Int32.toInt8 (p0 >>> (8 &&& 31))).toInt32))) 3 (vp_nar .byte ((Int32.toInt8 (p0 >>> (0 &&& 31))).toInt32)))))] := hD
  refine lv_aload_n hx hb dX11_four_20 rfl (lv_at hl 1 rfl) ?_
  refine lv_dup hx hb dX11_four_21 rfl ?_
  refine va_get (D := D) (ci := 11) (v := .int 3) (C := RX11) (T := TX11) (N := 65) hx hb hg inGX11 hown hK hP 0 rfl rfl 2 (by decide) (hg _ q_6_128) (fun _ h9 => h9) (px_ss (px_ss (px_ss hmo_2))) dX11_four_22 ?_
  refine lv_iconst (v := 1) hx hb dX11_four_25 (by decide) ?_
  refine lv_iadd hx hb dX11_four_26 ?_
  refine px_top (v := 4) (by decide) ?_
  refine va_put (D := D) (ci := 11) (v := .int 4) (ty := .int) (C := RX11) (T := TX11) (N := 65) hx hb hg inGX11 tyX11 tyX11_ok nmX11 hown hK hP hD hS 0 rfl rfl 2 (by decide) (hg _ q_6_128) (fun _ h9 => h9) rfl (by decide +kernel) rfl rfl (px_len (px_ss (px_ss (px_ss hmo_2)))) dX11_four_27 (fun H locs hP hD hS => ?_)
  have hP : va_P D vwCl [(mo, .inr (11, ((((fmo.set 2 (.int 1)).set 2 (.int 2)).set 2 (.int 3)).set 2 (.int 4)))), (mt, .inl (y 0, 940, .inl (upd (upd (upd (upd fmt 0 (vp_nar .byte ((Int32.toInt8 (p0 >>> (24 &&& 31))).toInt32))) 1 (vp_nar .byte ((Int32.toInt8 (p0 >>> (16 &&& 31))).toInt32))) 2 (vp_nar .byte ((Int32.toInt8 (p0 >>> (8 &&& 31))).toInt32))) 3 (vp_nar .byte ((Int32.toInt8 (p0 >>> (0 &&& 31))).toInt32)))))] H := hP
  have hD : va_D A [(mo, .inr (11, ((((fmo.set 2 (.int 1)).set 2 (.int 2)).set 2 (.int 3)).set 2 (.int 4)))), (mt, .inl (y 0, 940, .inl (upd (upd (upd (upd fmt 0 (vp_nar .byte ((Int32.toInt8 (p0 >>> (24 &&& 31))).toInt32))) 1 (vp_nar .byte ((Int32.toInt8 (p0 >>> (16 &&& 31))).toInt32))) 2 (vp_nar .byte ((Int32.toInt8 (p0 >>> (8 &&& 31))).toInt32))) 3 (vp_nar .byte ((Int32.toInt8 (p0 >>> (0 &&& 31))).toInt32)))))] := hD
  refine lv_iinc (v := (-8)) (lv' := [(2, .int (-8)), (0, .ref mo), (1, .int p0)]) hx hb dX11_four_30 hl (k := 0) rfl (by decide) (by decide) rfl (fun ls hl => ?_)
  refine lv_goto (tgt := 3) hx hb dX11_four_33 (by decide) ?_
  refine lv_iload_n hx hb dX11_four_3 rfl (lv_at hl 0 rfl) ?_
  refine lv_if_lt (tgt := 36) hx hb dX11_four_4 (by decide) (fun _ => ?_) (fun c_5 => absurd c_5 (by decide))
  have hP9 := hP.sub (ws' := [(mo, .inr (11, ((((fmo.set 2 (.int 1)).set 2 (.int 2)).set 2 (.int 3)).set 2 (.int 4)))), (mt, .inl (y 0, 940, .inl (upd (upd (upd (upd fmt 0 (vp_nar .byte ((Int32.toInt8 (p0 >>> (24 &&& 31))).toInt32))) 1 (vp_nar .byte ((Int32.toInt8 (p0 >>> (16 &&& 31))).toInt32))) 2 (vp_nar .byte ((Int32.toInt8 (p0 >>> (8 &&& 31))).toInt32))) 3 (vp_nar .byte ((Int32.toInt8 (p0 >>> (0 &&& 31))).toInt32)))))]) [0, 1] rfl
  have hD9 := hD.sub (ws' := [(mo, .inr (11, ((((fmo.set 2 (.int 1)).set 2 (.int 2)).set 2 (.int 3)).set 2 (.int 4)))), (mt, .inl (y 0, 940, .inl (upd (upd (upd (upd fmt 0 (vp_nar .byte ((Int32.toInt8 (p0 >>> (24 &&& 31))).toInt32))) 1 (vp_nar .byte ((Int32.toInt8 (p0 >>> (16 &&& 31))).toInt32))) 2 (vp_nar .byte ((Int32.toInt8 (p0 >>> (8 &&& 31))).toInt32))) 3 (vp_nar .byte ((Int32.toInt8 (p0 >>> (0 &&& 31))).toInt32)))))]) [0, 1] (by decide +kernel) rfl
  exact W.vret hx hb hr (fun t ht hW => ⟨⟨(px_v [], px_vi [(upd (upd (upd (upd fmt 0 (vp_nar .byte ((Int32.toInt8 (p0 >>> (24 &&& 31))).toInt32))) 1 (vp_nar .byte ((Int32.toInt8 (p0 >>> (16 &&& 31))).toInt32))) 2 (vp_nar .byte ((Int32.toInt8 (p0 >>> (8 &&& 31))).toInt32))) 3 (vp_nar .byte ((Int32.toInt8 (p0 >>> (0 &&& 31))).toInt32)))], px_vl []), rfl, trivial, by rw [ht]; exact hP9, hD9⟩, hS.F ht⟩) hS.2.2 dX11_four_36

set_option maxHeartbeats 4000000 in
set_option maxRecDepth 100000 in
theorem c_X11_four_4 (l : Launch) (D : va_G) (y : Nat → ClassId) (sz : Nat) (mo : Nat) (fmo : List Value) (mt : Nat) (fmt : Nat → Int32) (p0 : Int32) (hmo_1 : fmo[1]? = some (.ref mt)) (hmo_2 : fmo[2]? = some (.int 4)) : Met l yX11_four (px_w yX11_four cX11_four 3 none) ({ frames := 0, cells := 0, slots := 0, locals := 0 }) (va_Pc [.ref mo, .int p0] (px_P D y sz [(mo, .inr (11, fmo)), (mt, .inl (y 0, 940, .inl fmt))])) (va_Qv (fun (u : px_U) => True) (fun (u : px_U) t => va_P D vwCl [(mo, .inr (11, ((((fmo.set 2 (.int 5)).set 2 (.int 6)).set 2 (.int 7)).set 2 (.int 8)))), (mt, .inl (y 0, 940, .inl (u.2.1 0)))] t.heap ∧ va_D (va_A [(mo, .inr (11, fmo)), (mt, .inl (y 0, 940, .inl fmt))] sz) [(mo, .inr (11, ((((fmo.set 2 (.int 5)).set 2 (.int 6)).set 2 (.int 7)).set 2 (.int 8)))), (mt, .inl (y 0, 940, .inl (u.2.1 0)))]) (va_A [(mo, .inr (11, fmo)), (mt, .inl (y 0, 940, .inl fmt))] sz)) 0 0 (va_A [(mo, .inr (11, fmo)), (mt, .inl (y 0, 940, .inl fmt))] sz) := by
  refine Met.ofW (cc := cX11_four) (maxL := 3) (ret := none) (by decide) rfl ?_
  intro p e s m args below meth c s₁ B hml hv
  obtain ⟨rfl, hsz, hP, hK, hD0⟩ := hv
  have hx := B.exec
  have hb := B.bytes
  have hr := B.returns
  have hts := atoms_spec (ws := px_w yX11_four cX11_four 3 none) B.pre
  have hg : ∀ w ∈ gw, w.before [.ref mo, .int p0].toArray s = true := fun w h => hts w (List.mem_cons_of_mem _ h)
  have hown : s.vm.findClass RX11 = some m.cls := findClass_of_methodNamed B.named
  have hlocks := B.notSynchronized
  subst hsz
  have hD := hD0.self (sz := s.heap.size)
  generalize hAe : va_A [(mo, .inr (11, fmo)), (mt, .inl (y 0, 940, .inl fmt))] s.heap.size = A at hD ⊢
  have hA : ∀ q : Nat, s.heap.size ≤ q → A q := fun q h => by rw [← hAe]; exact Or.inr h
  have hS : va_S A s.heap s.heap [] := va_S.rf
  have hP : va_P D vwCl [(mo, .inr (11, fmo)), (mt, .inl (y 0, 940, .inl fmt))] s.heap := hP
  have hl := lv_entry ([.ref mo, .int p0]) (n := 3) (Nat.le_of_ble_eq_true rfl)
  rw [lg_entry_eq]
  generalize (lg_sl ([.ref mo, .int p0]) ++ List.replicate (3 - (lg_sl ([.ref mo, .int p0])).length) Slot.unset).toArray = ls at hl ⊢
  have hl : lv_has ls 3 [(0, .ref mo), (1, .int p0)] := hl
  refine lv_bipush (v := 24) hx hb dX11_four_0 (by decide) ?_
  refine lv_istore_n (lv' := [(2, .int 24), (0, .ref mo), (1, .int p0)]) hx hb dX11_four_2 rfl hl (by decide) rfl (fun ls hl => ?_)
  refine lv_iload_n hx hb dX11_four_3 rfl (lv_at hl 0 rfl) ?_
  refine lv_if_lt (tgt := 36) hx hb dX11_four_4 (by decide) (fun c_1 => absurd c_1 (by decide)) (fun _ => ?_)
  refine lv_aload_n hx hb dX11_four_7 rfl (lv_at hl 1 rfl) ?_
  refine va_get (D := D) (ci := 11) (v := .ref mt) (C := RX11) (T := TX11) (N := 65) hx hb hg inGX11 hown hK hP 0 rfl rfl 1 (by decide) (hg _ q_6_127) (fun _ h9 => h9) hmo_1 dX11_four_8 ?_
  refine lv_aload_n hx hb dX11_four_11 rfl (lv_at hl 1 rfl) ?_
  refine va_get (D := D) (ci := 11) (v := .int 4) (C := RX11) (T := TX11) (N := 65) hx hb hg inGX11 hown hK hP 0 rfl rfl 2 (by decide) (hg _ q_6_128) (fun _ h9 => h9) hmo_2 dX11_four_12 ?_
  refine lv_iload_n hx hb dX11_four_15 rfl (lv_at hl 2 rfl) ?_
  refine lv_iload_n hx hb dX11_four_16 rfl (lv_at hl 0 rfl) ?_
  refine lv_ishr hx hb dX11_four_17 ?_
  refine lv_i2b hx hb dX11_four_18 rfl ?_
  refine va_bast hx hb hK hP hD hS 1 0 rfl rfl (i := 4) (px_in (by decide)) dX11_four_19 (fun H locs hP hD hS => ?_)
  have hP : va_P D vwCl [(mo, .inr (11, fmo)), (mt, .inl (y 0, 940, .inl (upd fmt 4 (vp_nar .byte ((Int32.toInt8 (p0 >>> (24 &&& 31))).toInt32)))))] H := hP
  have hD : va_D A [(mo, .inr (11, fmo)), (mt, .inl (y 0, 940, .inl (upd fmt 4 (vp_nar .byte ((Int32.toInt8 (p0 >>> (24 &&& 31))).toInt32)))))] := hD
  refine lv_aload_n hx hb dX11_four_20 rfl (lv_at hl 1 rfl) ?_
  refine lv_dup hx hb dX11_four_21 rfl ?_
  refine va_get (D := D) (ci := 11) (v := .int 4) (C := RX11) (T := TX11) (N := 65) hx hb hg inGX11 hown hK hP 0 rfl rfl 2 (by decide) (hg _ q_6_128) (fun _ h9 => h9) hmo_2 dX11_four_22 ?_
  refine lv_iconst (v := 1) hx hb dX11_four_25 (by decide) ?_
  refine lv_iadd hx hb dX11_four_26 ?_
  refine px_top (v := 5) (by decide) ?_
  refine va_put (D := D) (ci := 11) (v := .int 5) (ty := .int) (C := RX11) (T := TX11) (N := 65) hx hb hg inGX11 tyX11 tyX11_ok nmX11 hown hK hP hD hS 0 rfl rfl 2 (by decide) (hg _ q_6_128) (fun _ h9 => h9) rfl (by decide +kernel) rfl rfl (px_len hmo_2) dX11_four_27 (fun H locs hP hD hS => ?_)
  have hP : va_P D vwCl [(mo, .inr (11, (fmo.set 2 (.int 5)))), (mt, .inl (y 0, 940, .inl (upd fmt 4 (vp_nar .byte ((Int32.toInt8 (p0 >>> (24 &&& 31))).toInt32)))))] H := hP
  have hD : va_D A [(mo, .inr (11, (fmo.set 2 (.int 5)))), (mt, .inl (y 0, 940, .inl (upd fmt 4 (vp_nar .byte ((Int32.toInt8 (p0 >>> (24 &&& 31))).toInt32)))))] := hD
  refine lv_iinc (v := 16) (lv' := [(2, .int 16), (0, .ref mo), (1, .int p0)]) hx hb dX11_four_30 hl (k := 0) rfl (by decide) (by decide) rfl (fun ls hl => ?_)
  refine lv_goto (tgt := 3) hx hb dX11_four_33 (by decide) ?_
  refine lv_iload_n hx hb dX11_four_3 rfl (lv_at hl 0 rfl) ?_
  refine lv_if_lt (tgt := 36) hx hb dX11_four_4 (by decide) (fun c_2 => absurd c_2 (by decide)) (fun _ => ?_)
  refine lv_aload_n hx hb dX11_four_7 rfl (lv_at hl 1 rfl) ?_
  refine va_get (D := D) (ci := 11) (v := .ref mt) (C := RX11) (T := TX11) (N := 65) hx hb hg inGX11 hown hK hP 0 rfl rfl 1 (by decide) (hg _ q_6_127) (fun _ h9 => h9) (px_sn (by decide) hmo_1) dX11_four_8 ?_
  refine lv_aload_n hx hb dX11_four_11 rfl (lv_at hl 1 rfl) ?_
  refine va_get (D := D) (ci := 11) (v := .int 5) (C := RX11) (T := TX11) (N := 65) hx hb hg inGX11 hown hK hP 0 rfl rfl 2 (by decide) (hg _ q_6_128) (fun _ h9 => h9) (px_ss hmo_2) dX11_four_12 ?_
  refine lv_iload_n hx hb dX11_four_15 rfl (lv_at hl 2 rfl) ?_
  refine lv_iload_n hx hb dX11_four_16 rfl (lv_at hl 0 rfl) ?_
  refine lv_ishr hx hb dX11_four_17 ?_
  refine lv_i2b hx hb dX11_four_18 rfl ?_
  refine va_bast hx hb hK hP hD hS 1 0 rfl rfl (i := 5) (px_in (by decide)) dX11_four_19 (fun H locs hP hD hS => ?_)
  have hP : va_P D vwCl [(mo, .inr (11, (fmo.set 2 (.int 5)))), (mt, .inl (y 0, 940, .inl (upd (upd fmt 4 (vp_nar .byte ((Int32.toInt8 (p0 >>> (24 &&& 31))).toInt32))) 5 (vp_nar .byte ((Int32.toInt8 (p0 >>> (16 &&& 31))).toInt32)))))] H := hP
  have hD : va_D A [(mo, .inr (11, (fmo.set 2 (.int 5)))), (mt, .inl (y 0, 940, .inl (upd (upd fmt 4 (vp_nar .byte ((Int32.toInt8 (p0 >>> (24 &&& 31))).toInt32))) 5 (vp_nar .byte ((Int32.toInt8 (p0 >>> (16 &&& 31))).toInt32)))))] := hD
  refine lv_aload_n hx hb dX11_four_20 rfl (lv_at hl 1 rfl) ?_
  refine lv_dup hx hb dX11_four_21 rfl ?_
  refine va_get (D := D) (ci := 11) (v := .int 5) (C := RX11) (T := TX11) (N := 65) hx hb hg inGX11 hown hK hP 0 rfl rfl 2 (by decide) (hg _ q_6_128) (fun _ h9 => h9) (px_ss hmo_2) dX11_four_22 ?_
  refine lv_iconst (v := 1) hx hb dX11_four_25 (by decide) ?_
  refine lv_iadd hx hb dX11_four_26 ?_
  refine px_top (v := 6) (by decide) ?_
  refine va_put (D := D) (ci := 11) (v := .int 6) (ty := .int) (C := RX11) (T := TX11) (N := 65) hx hb hg inGX11 tyX11 tyX11_ok nmX11 hown hK hP hD hS 0 rfl rfl 2 (by decide) (hg _ q_6_128) (fun _ h9 => h9) rfl (by decide +kernel) rfl rfl (px_len (px_ss hmo_2)) dX11_four_27 (fun H locs hP hD hS => ?_)
  have hP : va_P D vwCl [(mo, .inr (11, ((fmo.set 2 (.int 5)).set 2 (.int 6)))), (mt, .inl (y 0, 940, .inl (upd (upd fmt 4 (vp_nar .byte ((Int32.toInt8 (p0 >>> (24 &&& 31))).toInt32))) 5 (vp_nar .byte ((Int32.toInt8 (p0 >>> (16 &&& 31))).toInt32)))))] H := hP
  have hD : va_D A [(mo, .inr (11, ((fmo.set 2 (.int 5)).set 2 (.int 6)))), (mt, .inl (y 0, 940, .inl (upd (upd fmt 4 (vp_nar .byte ((Int32.toInt8 (p0 >>> (24 &&& 31))).toInt32))) 5 (vp_nar .byte ((Int32.toInt8 (p0 >>> (16 &&& 31))).toInt32)))))] := hD
  refine lv_iinc (v := 8) (lv' := [(2, .int 8), (0, .ref mo), (1, .int p0)]) hx hb dX11_four_30 hl (k := 0) rfl (by decide) (by decide) rfl (fun ls hl => ?_)
  refine lv_goto (tgt := 3) hx hb dX11_four_33 (by decide) ?_
  refine lv_iload_n hx hb dX11_four_3 rfl (lv_at hl 0 rfl) ?_
  refine lv_if_lt (tgt := 36) hx hb dX11_four_4 (by decide) (fun c_3 => absurd c_3 (by decide)) (fun _ => ?_)
  refine lv_aload_n hx hb dX11_four_7 rfl (lv_at hl 1 rfl) ?_
  refine va_get (D := D) (ci := 11) (v := .ref mt) (C := RX11) (T := TX11) (N := 65) hx hb hg inGX11 hown hK hP 0 rfl rfl 1 (by decide) (hg _ q_6_127) (fun _ h9 => h9) (px_sn (by decide) (px_sn (by decide) hmo_1)) dX11_four_8 ?_
  refine lv_aload_n hx hb dX11_four_11 rfl (lv_at hl 1 rfl) ?_
  refine va_get (D := D) (ci := 11) (v := .int 6) (C := RX11) (T := TX11) (N := 65) hx hb hg inGX11 hown hK hP 0 rfl rfl 2 (by decide) (hg _ q_6_128) (fun _ h9 => h9) (px_ss (px_ss hmo_2)) dX11_four_12 ?_
  refine lv_iload_n hx hb dX11_four_15 rfl (lv_at hl 2 rfl) ?_
  refine lv_iload_n hx hb dX11_four_16 rfl (lv_at hl 0 rfl) ?_
  refine lv_ishr hx hb dX11_four_17 ?_
  refine lv_i2b hx hb dX11_four_18 rfl ?_
  refine va_bast hx hb hK hP hD hS 1 0 rfl rfl (i := 6) (px_in (by decide)) dX11_four_19 (fun H locs hP hD hS => ?_)
  have hP : va_P D vwCl [(mo, .inr (11, ((fmo.set 2 (.int 5)).set 2 (.int 6)))), (mt, .inl (y 0, 940, .inl (upd (upd (upd fmt 4 (vp_nar .byte ((Int32.toInt8 (p0 >>> (24 &&& 31))).toInt32))) 5 (vp_nar .byte ((Int32.toInt8 (p0 >>> (16 &&& 31))).toInt32))) 6 (vp_nar .byte ((Int32.toInt8 (p0 >>> (8 &&& 31))).toInt32)))))] H := hP
  have hD : va_D A [(mo, .inr (11, ((fmo.set 2 (.int 5)).set 2 (.int 6)))), (mt, .inl (y 0, 940, .inl (upd (upd (upd fmt 4 (vp_nar .byte ((Int32.toInt8 (p0 >>> (24 &&& 31))).toInt32))) 5 (vp_nar .byte ((Int32.toInt8 (p0 >>> (16 &&& 31))).toInt32))) 6 (vp_nar .byte ((Int32.toInt8 (p0 >>> (8 &&& 31))).toInt32)))))] := hD
  refine lv_aload_n hx hb dX11_four_20 rfl (lv_at hl 1 rfl) ?_
  refine lv_dup hx hb dX11_four_21 rfl ?_
  refine va_get (D := D) (ci := 11) (v := .int 6) (C := RX11) (T := TX11) (N := 65) hx hb hg inGX11 hown hK hP 0 rfl rfl 2 (by decide) (hg _ q_6_128) (fun _ h9 => h9) (px_ss (px_ss hmo_2)) dX11_four_22 ?_
  refine lv_iconst (v := 1) hx hb dX11_four_25 (by decide) ?_
  refine lv_iadd hx hb dX11_four_26 ?_
  refine px_top (v := 7) (by decide) ?_
  refine va_put (D := D) (ci := 11) (v := .int 7) (ty := .int) (C := RX11) (T := TX11) (N := 65) hx hb hg inGX11 tyX11 tyX11_ok nmX11 hown hK hP hD hS 0 rfl rfl 2 (by decide) (hg _ q_6_128) (fun _ h9 => h9) rfl (by decide +kernel) rfl rfl (px_len (px_ss (px_ss hmo_2))) dX11_four_27 (fun H locs hP hD hS => ?_)
  have hP : va_P D vwCl [(mo, .inr (11, (((fmo.set 2 (.int 5)).set 2 (.int 6)).set 2 (.int 7)))), (mt, .inl (y 0, 940, .inl (upd (upd (upd fmt 4 (vp_nar .byte ((Int32.toInt8 (p0 >>> (24 &&& 31))).toInt32))) 5 (vp_nar .byte ((Int32.toInt8 (p0 >>> (16 &&& 31))).toInt32))) 6 (vp_nar .byte ((Int32.toInt8 (p0 >>> (8 &&& 31))).toInt32)))))] H := hP
  have hD : va_D A [(mo, .inr (11, (((fmo.set 2 (.int 5)).set 2 (.int 6)).set 2 (.int 7)))), (mt, .inl (y 0, 940, .inl (upd (upd (upd fmt 4 (vp_nar .byte ((Int32.toInt8 (p0 >>> (24 &&& 31))).toInt32))) 5 (vp_nar .byte ((Int32.toInt8 (p0 >>> (16 &&& 31))).toInt32))) 6 (vp_nar .byte ((Int32.toInt8 (p0 >>> (8 &&& 31))).toInt32)))))] := hD
  refine lv_iinc (v := 0) (lv' := [(2, .int 0), (0, .ref mo), (1, .int p0)]) hx hb dX11_four_30 hl (k := 0) rfl (by decide) (by decide) rfl (fun ls hl => ?_)
  refine lv_goto (tgt := 3) hx hb dX11_four_33 (by decide) ?_
  refine lv_iload_n hx hb dX11_four_3 rfl (lv_at hl 0 rfl) ?_
  refine lv_if_lt (tgt := 36) hx hb dX11_four_4 (by decide) (fun c_4 => absurd c_4 (by decide)) (fun _ => ?_)
  refine lv_aload_n hx hb dX11_four_7 rfl (lv_at hl 1 rfl) ?_
  refine va_get (D := D) (ci := 11) (v := .ref mt) (C := RX11) (T := TX11) (N := 65) hx hb hg inGX11 hown hK hP 0 rfl rfl 1 (by decide) (hg _ q_6_127) (fun _ h9 => h9) (px_sn (by decide) (px_sn (by decide) (px_sn (by decide) hmo_1))) dX11_four_8 ?_
  refine lv_aload_n hx hb dX11_four_11 rfl (lv_at hl 1 rfl) ?_
  refine va_get (D := D) (ci := 11) (v := .int 7) (C := RX11) (T := TX11) (N := 65) hx hb hg inGX11 hown hK hP 0 rfl rfl 2 (by decide) (hg _ q_6_128) (fun _ h9 => h9) (px_ss (px_ss (px_ss hmo_2))) dX11_four_12 ?_
  refine lv_iload_n hx hb dX11_four_15 rfl (lv_at hl 2 rfl) ?_
  refine lv_iload_n hx hb dX11_four_16 rfl (lv_at hl 0 rfl) ?_
  refine lv_ishr hx hb dX11_four_17 ?_
  refine lv_i2b hx hb dX11_four_18 rfl ?_
  refine va_bast hx hb hK hP hD hS 1 0 rfl rfl (i := 7) (px_in (by decide)) dX11_four_19 (fun H locs hP hD hS => ?_)
  have hP : va_P D vwCl [(mo, .inr (11, (((fmo.set 2 (.int 5)).set 2 (.int 6)).set 2 (.int 7)))), (mt, .inl (y 0, 940, .inl (upd (upd (upd (upd fmt 4 (vp_nar .byte ((Int32.toInt8 (p0 >>> (24 &&& 31))).toInt32))) 5 (vp_nar .byte ((Int32.toInt8 (p0 >>> (16 &&& 31))).toInt32))) 6 (vp_nar .byte ((Int32.toInt8 (p0 >>> (8 &&& 31))).toInt32))) 7 (vp_nar .byte ((Int32.toInt8 (p0 >>> (0 &&& 31))).toInt32)))))] H := hP
  have hD : va_D A [(mo, .inr (11, (((fmo.set 2 (.int 5)).set 2 (.int 6)).set 2 (.int 7)))), (mt, .inl (y 0, 940, .inl (upd (upd (upd (upd fmt 4 (vp_nar .byte ((Int32.toInt8 (p0 >>> (24 &&& 31))).toInt32))) 5 (vp_nar .byte ((Int32.toInt8 (p0 >>> (16 &&& 31))).toInt32))) 6 (vp_nar .byte ((Int32.toInt8 (p0 >>> (8 &&& 31))).toInt32))) 7 (vp_nar .byte ((Int32.toInt8 (p0 >>> (0 &&& 31))).toInt32)))))] := hD
  refine lv_aload_n hx hb dX11_four_20 rfl (lv_at hl 1 rfl) ?_
  refine lv_dup hx hb dX11_four_21 rfl ?_
  refine va_get (D := D) (ci := 11) (v := .int 7) (C := RX11) (T := TX11) (N := 65) hx hb hg inGX11 hown hK hP 0 rfl rfl 2 (by decide) (hg _ q_6_128) (fun _ h9 => h9) (px_ss (px_ss (px_ss hmo_2))) dX11_four_22 ?_
  refine lv_iconst (v := 1) hx hb dX11_four_25 (by decide) ?_
  refine lv_iadd hx hb dX11_four_26 ?_
  refine px_top (v := 8) (by decide) ?_
  refine va_put (D := D) (ci := 11) (v := .int 8) (ty := .int) (C := RX11) (T := TX11) (N := 65) hx hb hg inGX11 tyX11 tyX11_ok nmX11 hown hK hP hD hS 0 rfl rfl 2 (by decide) (hg _ q_6_128) (fun _ h9 => h9) rfl (by decide +kernel) rfl rfl (px_len (px_ss (px_ss (px_ss hmo_2)))) dX11_four_27 (fun H locs hP hD hS => ?_)
  have hP : va_P D vwCl [(mo, .inr (11, ((((fmo.set 2 (.int 5)).set 2 (.int 6)).set 2 (.int 7)).set 2 (.int 8)))), (mt, .inl (y 0, 940, .inl (upd (upd (upd (upd fmt 4 (vp_nar .byte ((Int32.toInt8 (p0 >>> (24 &&& 31))).toInt32))) 5 (vp_nar .byte ((Int32.toInt8 (p0 >>> (16 &&& 31))).toInt32))) 6 (vp_nar .byte ((Int32.toInt8 (p0 >>> (8 &&& 31))).toInt32))) 7 (vp_nar .byte ((Int32.toInt8 (p0 >>> (0 &&& 31))).toInt32)))))] H := hP
  have hD : va_D A [(mo, .inr (11, ((((fmo.set 2 (.int 5)).set 2 (.int 6)).set 2 (.int 7)).set 2 (.int 8)))), (mt, .inl (y 0, 940, .inl (upd (upd (upd (upd fmt 4 (vp_nar .byte ((Int32.toInt8 (p0 >>> (24 &&& 31))).toInt32))) 5 (vp_nar .byte ((Int32.toInt8 (p0 >>> (16 &&& 31))).toInt32))) 6 (vp_nar .byte ((Int32.toInt8 (p0 >>> (8 &&& 31))).toInt32))) 7 (vp_nar .byte ((Int32.toInt8 (p0 >>> (0 &&& 31))).toInt32)))))] := hD
  refine lv_iinc (v := (-8)) (lv' := [(2, .int (-8)), (0, .ref mo), (1, .int p0)]) hx hb dX11_four_30 hl (k := 0) rfl (by decide) (by decide) rfl (fun ls hl => ?_)
  refine lv_goto (tgt := 3) hx hb dX11_four_33 (by decide) ?_
  refine lv_iload_n hx hb dX11_four_3 rfl (lv_at hl 0 rfl) ?_
  refine lv_if_lt (tgt := 36) hx hb dX11_four_4 (by decide) (fun _ => ?_) (fun c_5 => absurd c_5 (by decide))
  have hP9 := hP.sub (ws' := [(mo, .inr (11, ((((fmo.set 2 (.int 5)).set 2 (.int 6)).set 2 (.int 7)).set 2 (.int 8)))), (mt, .inl (y 0, 940, .inl (upd (upd (upd (upd fmt 4 (vp_nar .byte ((Int32.toInt8 (p0 >>> (24 &&& 31))).toInt32))) 5 (vp_nar .byte ((Int32.toInt8 (p0 >>> (16 &&& 31))).toInt32))) 6 (vp_nar .byte ((Int32.toInt8 (p0 >>> (8 &&& 31))).toInt32))) 7 (vp_nar .byte ((Int32.toInt8 (p0 >>> (0 &&& 31))).toInt32)))))]) [0, 1] rfl
  have hD9 := hD.sub (ws' := [(mo, .inr (11, ((((fmo.set 2 (.int 5)).set 2 (.int 6)).set 2 (.int 7)).set 2 (.int 8)))), (mt, .inl (y 0, 940, .inl (upd (upd (upd (upd fmt 4 (vp_nar .byte ((Int32.toInt8 (p0 >>> (24 &&& 31))).toInt32))) 5 (vp_nar .byte ((Int32.toInt8 (p0 >>> (16 &&& 31))).toInt32))) 6 (vp_nar .byte ((Int32.toInt8 (p0 >>> (8 &&& 31))).toInt32))) 7 (vp_nar .byte ((Int32.toInt8 (p0 >>> (0 &&& 31))).toInt32)))))]) [0, 1] (by decide +kernel) rfl
  exact W.vret hx hb hr (fun t ht hW => ⟨⟨(px_v [], px_vi [(upd (upd (upd (upd fmt 4 (vp_nar .byte ((Int32.toInt8 (p0 >>> (24 &&& 31))).toInt32))) 5 (vp_nar .byte ((Int32.toInt8 (p0 >>> (16 &&& 31))).toInt32))) 6 (vp_nar .byte ((Int32.toInt8 (p0 >>> (8 &&& 31))).toInt32))) 7 (vp_nar .byte ((Int32.toInt8 (p0 >>> (0 &&& 31))).toInt32)))], px_vl []), rfl, trivial, by rw [ht]; exact hP9, hD9⟩, hS.F ht⟩) hS.2.2 dX11_four_36

set_option maxHeartbeats 4000000 in
set_option maxRecDepth 100000 in
theorem c_X11_four_8 (l : Launch) (D : va_G) (y : Nat → ClassId) (sz : Nat) (mo : Nat) (fmo : List Value) (mt : Nat) (fmt : Nat → Int32) (p0 : Int32) (hmo_1 : fmo[1]? = some (.ref mt)) (hmo_2 : fmo[2]? = some (.int 8)) : Met l yX11_four (px_w yX11_four cX11_four 3 none) ({ frames := 0, cells := 0, slots := 0, locals := 0 }) (va_Pc [.ref mo, .int p0] (px_P D y sz [(mo, .inr (11, fmo)), (mt, .inl (y 0, 940, .inl fmt))])) (va_Qv (fun (u : px_U) => True) (fun (u : px_U) t => va_P D vwCl [(mo, .inr (11, ((((fmo.set 2 (.int 9)).set 2 (.int 10)).set 2 (.int 11)).set 2 (.int 12)))), (mt, .inl (y 0, 940, .inl (u.2.1 0)))] t.heap ∧ va_D (va_A [(mo, .inr (11, fmo)), (mt, .inl (y 0, 940, .inl fmt))] sz) [(mo, .inr (11, ((((fmo.set 2 (.int 9)).set 2 (.int 10)).set 2 (.int 11)).set 2 (.int 12)))), (mt, .inl (y 0, 940, .inl (u.2.1 0)))]) (va_A [(mo, .inr (11, fmo)), (mt, .inl (y 0, 940, .inl fmt))] sz)) 0 0 (va_A [(mo, .inr (11, fmo)), (mt, .inl (y 0, 940, .inl fmt))] sz) := by
  refine Met.ofW (cc := cX11_four) (maxL := 3) (ret := none) (by decide) rfl ?_
  intro p e s m args below meth c s₁ B hml hv
  obtain ⟨rfl, hsz, hP, hK, hD0⟩ := hv
  have hx := B.exec
  have hb := B.bytes
  have hr := B.returns
  have hts := atoms_spec (ws := px_w yX11_four cX11_four 3 none) B.pre
  have hg : ∀ w ∈ gw, w.before [.ref mo, .int p0].toArray s = true := fun w h => hts w (List.mem_cons_of_mem _ h)
  have hown : s.vm.findClass RX11 = some m.cls := findClass_of_methodNamed B.named
  have hlocks := B.notSynchronized
  subst hsz
  have hD := hD0.self (sz := s.heap.size)
  generalize hAe : va_A [(mo, .inr (11, fmo)), (mt, .inl (y 0, 940, .inl fmt))] s.heap.size = A at hD ⊢
  have hA : ∀ q : Nat, s.heap.size ≤ q → A q := fun q h => by rw [← hAe]; exact Or.inr h
  have hS : va_S A s.heap s.heap [] := va_S.rf
  have hP : va_P D vwCl [(mo, .inr (11, fmo)), (mt, .inl (y 0, 940, .inl fmt))] s.heap := hP
  have hl := lv_entry ([.ref mo, .int p0]) (n := 3) (Nat.le_of_ble_eq_true rfl)
  rw [lg_entry_eq]
  generalize (lg_sl ([.ref mo, .int p0]) ++ List.replicate (3 - (lg_sl ([.ref mo, .int p0])).length) Slot.unset).toArray = ls at hl ⊢
  have hl : lv_has ls 3 [(0, .ref mo), (1, .int p0)] := hl
  refine lv_bipush (v := 24) hx hb dX11_four_0 (by decide) ?_
  refine lv_istore_n (lv' := [(2, .int 24), (0, .ref mo), (1, .int p0)]) hx hb dX11_four_2 rfl hl (by decide) rfl (fun ls hl => ?_)
  refine lv_iload_n hx hb dX11_four_3 rfl (lv_at hl 0 rfl) ?_
  refine lv_if_lt (tgt := 36) hx hb dX11_four_4 (by decide) (fun c_1 => absurd c_1 (by decide)) (fun _ => ?_)
  refine lv_aload_n hx hb dX11_four_7 rfl (lv_at hl 1 rfl) ?_
  refine va_get (D := D) (ci := 11) (v := .ref mt) (C := RX11) (T := TX11) (N := 65) hx hb hg inGX11 hown hK hP 0 rfl rfl 1 (by decide) (hg _ q_6_127) (fun _ h9 => h9) hmo_1 dX11_four_8 ?_
  refine lv_aload_n hx hb dX11_four_11 rfl (lv_at hl 1 rfl) ?_
  refine va_get (D := D) (ci := 11) (v := .int 8) (C := RX11) (T := TX11) (N := 65) hx hb hg inGX11 hown hK hP 0 rfl rfl 2 (by decide) (hg _ q_6_128) (fun _ h9 => h9) hmo_2 dX11_four_12 ?_
  refine lv_iload_n hx hb dX11_four_15 rfl (lv_at hl 2 rfl) ?_
  refine lv_iload_n hx hb dX11_four_16 rfl (lv_at hl 0 rfl) ?_
  refine lv_ishr hx hb dX11_four_17 ?_
  refine lv_i2b hx hb dX11_four_18 rfl ?_
  refine va_bast hx hb hK hP hD hS 1 0 rfl rfl (i := 8) (px_in (by decide)) dX11_four_19 (fun H locs hP hD hS => ?_)
  have hP : va_P D vwCl [(mo, .inr (11, fmo)), (mt, .inl (y 0, 940, .inl (upd fmt 8 (vp_nar .byte ((Int32.toInt8 (p0 >>> (24 &&& 31))).toInt32)))))] H := hP
  have hD : va_D A [(mo, .inr (11, fmo)), (mt, .inl (y 0, 940, .inl (upd fmt 8 (vp_nar .byte ((Int32.toInt8 (p0 >>> (24 &&& 31))).toInt32)))))] := hD
  refine lv_aload_n hx hb dX11_four_20 rfl (lv_at hl 1 rfl) ?_
  refine lv_dup hx hb dX11_four_21 rfl ?_
  refine va_get (D := D) (ci := 11) (v := .int 8) (C := RX11) (T := TX11) (N := 65) hx hb hg inGX11 hown hK hP 0 rfl rfl 2 (by decide) (hg _ q_6_128) (fun _ h9 => h9) hmo_2 dX11_four_22 ?_
  refine lv_iconst (v := 1) hx hb dX11_four_25 (by decide) ?_
  refine lv_iadd hx hb dX11_four_26 ?_
  refine px_top (v := 9) (by decide) ?_
  refine va_put (D := D) (ci := 11) (v := .int 9) (ty := .int) (C := RX11) (T := TX11) (N := 65) hx hb hg inGX11 tyX11 tyX11_ok nmX11 hown hK hP hD hS 0 rfl rfl 2 (by decide) (hg _ q_6_128) (fun _ h9 => h9) rfl (by decide +kernel) rfl rfl (px_len hmo_2) dX11_four_27 (fun H locs hP hD hS => ?_)
  have hP : va_P D vwCl [(mo, .inr (11, (fmo.set 2 (.int 9)))), (mt, .inl (y 0, 940, .inl (upd fmt 8 (vp_nar .byte ((Int32.toInt8 (p0 >>> (24 &&& 31))).toInt32)))))] H := hP
  have hD : va_D A [(mo, .inr (11, (fmo.set 2 (.int 9)))), (mt, .inl (y 0, 940, .inl (upd fmt 8 (vp_nar .byte ((Int32.toInt8 (p0 >>> (24 &&& 31))).toInt32)))))] := hD
  refine lv_iinc (v := 16) (lv' := [(2, .int 16), (0, .ref mo), (1, .int p0)]) hx hb dX11_four_30 hl (k := 0) rfl (by decide) (by decide) rfl (fun ls hl => ?_)
  refine lv_goto (tgt := 3) hx hb dX11_four_33 (by decide) ?_
  refine lv_iload_n hx hb dX11_four_3 rfl (lv_at hl 0 rfl) ?_
  refine lv_if_lt (tgt := 36) hx hb dX11_four_4 (by decide) (fun c_2 => absurd c_2 (by decide)) (fun _ => ?_)
  refine lv_aload_n hx hb dX11_four_7 rfl (lv_at hl 1 rfl) ?_
  refine va_get (D := D) (ci := 11) (v := .ref mt) (C := RX11) (T := TX11) (N := 65) hx hb hg inGX11 hown hK hP 0 rfl rfl 1 (by decide) (hg _ q_6_127) (fun _ h9 => h9) (px_sn (by decide) hmo_1) dX11_four_8 ?_
  refine lv_aload_n hx hb dX11_four_11 rfl (lv_at hl 1 rfl) ?_
  refine va_get (D := D) (ci := 11) (v := .int 9) (C := RX11) (T := TX11) (N := 65) hx hb hg inGX11 hown hK hP 0 rfl rfl 2 (by decide) (hg _ q_6_128) (fun _ h9 => h9) (px_ss hmo_2) dX11_four_12 ?_
  refine lv_iload_n hx hb dX11_four_15 rfl (lv_at hl 2 rfl) ?_
  refine lv_iload_n hx hb dX11_four_16 rfl (lv_at hl 0 rfl) ?_
  refine lv_ishr hx hb dX11_four_17 ?_
  refine lv_i2b hx hb dX11_four_18 rfl ?_
  refine va_bast hx hb hK hP hD hS 1 0 rfl rfl (i := 9) (px_in (by decide)) dX11_four_19 (fun H locs hP hD hS => ?_)
  have hP : va_P D vwCl [(mo, .inr (11, (fmo.set 2 (.int 9)))), (mt, .inl (y 0, 940, .inl (upd (upd fmt 8 (vp_nar .byte ((Int32.toInt8 (p0 >>> (24 &&& 31))).toInt32))) 9 (vp_nar .byte ((Int32.toInt8 (p0 >>> (16 &&& 31))).toInt32)))))] H := hP
  have hD : va_D A [(mo, .inr (11, (fmo.set 2 (.int 9)))), (mt, .inl (y 0, 940, .inl (upd (upd fmt 8 (vp_nar .byte ((Int32.toInt8 (p0 >>> (24 &&& 31))).toInt32))) 9 (vp_nar .byte ((Int32.toInt8 (p0 >>> (16 &&& 31))).toInt32)))))] := hD
  refine lv_aload_n hx hb dX11_four_20 rfl (lv_at hl 1 rfl) ?_
  refine lv_dup hx hb dX11_four_21 rfl ?_
  refine va_get (D := D) (ci := 11) (v := .int 9) (C := RX11) (T := TX11) (N := 65) hx hb hg inGX11 hown hK hP 0 rfl rfl 2 (by decide) (hg _ q_6_128) (fun _ h9 => h9) (px_ss hmo_2) dX11_four_22 ?_
  refine lv_iconst (v := 1) hx hb dX11_four_25 (by decide) ?_
  refine lv_iadd hx hb dX11_four_26 ?_
  refine px_top (v := 10) (by decide) ?_
  refine va_put (D := D) (ci := 11) (v := .int 10) (ty := .int) (C := RX11) (T := TX11) (N := 65) hx hb hg inGX11 tyX11 tyX11_ok nmX11 hown hK hP hD hS 0 rfl rfl 2 (by decide) (hg _ q_6_128) (fun _ h9 => h9) rfl (by decide +kernel) rfl rfl (px_len (px_ss hmo_2)) dX11_four_27 (fun H locs hP hD hS => ?_)
  have hP : va_P D vwCl [(mo, .inr (11, ((fmo.set 2 (.int 9)).set 2 (.int 10)))), (mt, .inl (y 0, 940, .inl (upd (upd fmt 8 (vp_nar .byte ((Int32.toInt8 (p0 >>> (24 &&& 31))).toInt32))) 9 (vp_nar .byte ((Int32.toInt8 (p0 >>> (16 &&& 31))).toInt32)))))] H := hP
  have hD : va_D A [(mo, .inr (11, ((fmo.set 2 (.int 9)).set 2 (.int 10)))), (mt, .inl (y 0, 940, .inl (upd (upd fmt 8 (vp_nar .byte ((Int32.toInt8 (p0 >>> (24 &&& 31))).toInt32))) 9 (vp_nar .byte ((Int32.toInt8 (p0 >>> (16 &&& 31))).toInt32)))))] := hD
  refine lv_iinc (v := 8) (lv' := [(2, .int 8), (0, .ref mo), (1, .int p0)]) hx hb dX11_four_30 hl (k := 0) rfl (by decide) (by decide) rfl (fun ls hl => ?_)
  refine lv_goto (tgt := 3) hx hb dX11_four_33 (by decide) ?_
  refine lv_iload_n hx hb dX11_four_3 rfl (lv_at hl 0 rfl) ?_
  refine lv_if_lt (tgt := 36) hx hb dX11_four_4 (by decide) (fun c_3 => absurd c_3 (by decide)) (fun _ => ?_)
  refine lv_aload_n hx hb dX11_four_7 rfl (lv_at hl 1 rfl) ?_
  refine va_get (D := D) (ci := 11) (v := .ref mt) (C := RX11) (T := TX11) (N := 65) hx hb hg inGX11 hown hK hP 0 rfl rfl 1 (by decide) (hg _ q_6_127) (fun _ h9 => h9) (px_sn (by decide) (px_sn (by decide) hmo_1)) dX11_four_8 ?_
  refine lv_aload_n hx hb dX11_four_11 rfl (lv_at hl 1 rfl) ?_
  refine va_get (D := D) (ci := 11) (v := .int 10) (C := RX11) (T := TX11) (N := 65) hx hb hg inGX11 hown hK hP 0 rfl rfl 2 (by decide) (hg _ q_6_128) (fun _ h9 => h9) (px_ss (px_ss hmo_2)) dX11_four_12 ?_
  refine lv_iload_n hx hb dX11_four_15 rfl (lv_at hl 2 rfl) ?_
  refine lv_iload_n hx hb dX11_four_16 rfl (lv_at hl 0 rfl) ?_
  refine lv_ishr hx hb dX11_four_17 ?_
  refine lv_i2b hx hb dX11_four_18 rfl ?_
  refine va_bast hx hb hK hP hD hS 1 0 rfl rfl (i := 10) (px_in (by decide)) dX11_four_19 (fun H locs hP hD hS => ?_)
  have hP : va_P D vwCl [(mo, .inr (11, ((fmo.set 2 (.int 9)).set 2 (.int 10)))), (mt, .inl (y 0, 940, .inl (upd (upd (upd fmt 8 (vp_nar .byte ((Int32.toInt8 (p0 >>> (24 &&& 31))).toInt32))) 9 (vp_nar .byte ((Int32.toInt8 (p0 >>> (16 &&& 31))).toInt32))) 10 (vp_nar .byte ((Int32.toInt8 (p0 >>> (8 &&& 31))).toInt32)))))] H := hP
  have hD : va_D A [(mo, .inr (11, ((fmo.set 2 (.int 9)).set 2 (.int 10)))), (mt, .inl (y 0, 940, .inl (upd (upd (upd fmt 8 (vp_nar .byte ((Int32.toInt8 (p0 >>> (24 &&& 31))).toInt32))) 9 (vp_nar .byte ((Int32.toInt8 (p0 >>> (16 &&& 31))).toInt32))) 10 (vp_nar .byte ((Int32.toInt8 (p0 >>> (8 &&& 31))).toInt32)))))] := hD
  refine lv_aload_n hx hb dX11_four_20 rfl (lv_at hl 1 rfl) ?_
  refine lv_dup hx hb dX11_four_21 rfl ?_
  refine va_get (D := D) (ci := 11) (v := .int 10) (C := RX11) (T := TX11) (N := 65) hx hb hg inGX11 hown hK hP 0 rfl rfl 2 (by decide) (hg _ q_6_128) (fun _ h9 => h9) (px_ss (px_ss hmo_2)) dX11_four_22 ?_
  refine lv_iconst (v := 1) hx hb dX11_four_25 (by decide) ?_
  refine lv_iadd hx hb dX11_four_26 ?_
  refine px_top (v := 11) (by decide) ?_
  refine va_put (D := D) (ci := 11) (v := .int 11) (ty := .int) (C := RX11) (T := TX11) (N := 65) hx hb hg inGX11 tyX11 tyX11_ok nmX11 hown hK hP hD hS 0 rfl rfl 2 (by decide) (hg _ q_6_128) (fun _ h9 => h9) rfl (by decide +kernel) rfl rfl (px_len (px_ss (px_ss hmo_2))) dX11_four_27 (fun H locs hP hD hS => ?_)
  have hP : va_P D vwCl [(mo, .inr (11, (((fmo.set 2 (.int 9)).set 2 (.int 10)).set 2 (.int 11)))), (mt, .inl (y 0, 940, .inl (upd (upd (upd fmt 8 (vp_nar .byte ((Int32.toInt8 (p0 >>> (24 &&& 31))).toInt32))) 9 (vp_nar .byte ((Int32.toInt8 (p0 >>> (16 &&& 31))).toInt32))) 10 (vp_nar .byte ((Int32.toInt8 (p0 >>> (8 &&& 31))).toInt32)))))] H := hP
  have hD : va_D A [(mo, .inr (11, (((fmo.set 2 (.int 9)).set 2 (.int 10)).set 2 (.int 11)))), (mt, .inl (y 0, 940, .inl (upd (upd (upd fmt 8 (vp_nar .byte ((Int32.toInt8 (p0 >>> (24 &&& 31))).toInt32))) 9 (vp_nar .byte ((Int32.toInt8 (p0 >>> (16 &&& 31))).toInt32))) 10 (vp_nar .byte ((Int32.toInt8 (p0 >>> (8 &&& 31))).toInt32)))))] := hD
  refine lv_iinc (v := 0) (lv' := [(2, .int 0), (0, .ref mo), (1, .int p0)]) hx hb dX11_four_30 hl (k := 0) rfl (by decide) (by decide) rfl (fun ls hl => ?_)
  refine lv_goto (tgt := 3) hx hb dX11_four_33 (by decide) ?_
  refine lv_iload_n hx hb dX11_four_3 rfl (lv_at hl 0 rfl) ?_
  refine lv_if_lt (tgt := 36) hx hb dX11_four_4 (by decide) (fun c_4 => absurd c_4 (by decide)) (fun _ => ?_)
  refine lv_aload_n hx hb dX11_four_7 rfl (lv_at hl 1 rfl) ?_
  refine va_get (D := D) (ci := 11) (v := .ref mt) (C := RX11) (T := TX11) (N := 65) hx hb hg inGX11 hown hK hP 0 rfl rfl 1 (by decide) (hg _ q_6_127) (fun _ h9 => h9) (px_sn (by decide) (px_sn (by decide) (px_sn (by decide) hmo_1))) dX11_four_8 ?_
  refine lv_aload_n hx hb dX11_four_11 rfl (lv_at hl 1 rfl) ?_
  refine va_get (D := D) (ci := 11) (v := .int 11) (C := RX11) (T := TX11) (N := 65) hx hb hg inGX11 hown hK hP 0 rfl rfl 2 (by decide) (hg _ q_6_128) (fun _ h9 => h9) (px_ss (px_ss (px_ss hmo_2))) dX11_four_12 ?_
  refine lv_iload_n hx hb dX11_four_15 rfl (lv_at hl 2 rfl) ?_
  refine lv_iload_n hx hb dX11_four_16 rfl (lv_at hl 0 rfl) ?_
  refine lv_ishr hx hb dX11_four_17 ?_
  refine lv_i2b hx hb dX11_four_18 rfl ?_
  refine va_bast hx hb hK hP hD hS 1 0 rfl rfl (i := 11) (px_in (by decide)) dX11_four_19 (fun H locs hP hD hS => ?_)
  have hP : va_P D vwCl [(mo, .inr (11, (((fmo.set 2 (.int 9)).set 2 (.int 10)).set 2 (.int 11)))), (mt, .inl (y 0, 940, .inl (upd (upd (upd (upd fmt 8 (vp_nar .byte ((Int32.toInt8 (p0 >>> (24 &&& 31))).toInt32))) 9 (vp_nar .byte ((Int32.toInt8 (p0 >>> (16 &&& 31))).toInt32))) 10 (vp_nar .byte ((Int32.toInt8 (p0 >>> (8 &&& 31))).toInt32))) 11 (vp_nar .byte ((Int32.toInt8 (p0 >>> (0 &&& 31))).toInt32)))))] H := hP
  have hD : va_D A [(mo, .inr (11, (((fmo.set 2 (.int 9)).set 2 (.int 10)).set 2 (.int 11)))), (mt, .inl (y 0, 940, .inl (upd (upd (upd (upd fmt 8 (vp_nar .byte ((Int32.toInt8 (p0 >>> (24 &&& 31))).toInt32))) 9 (vp_nar .byte ((Int32.toInt8 (p0 >>> (16 &&& 31))).toInt32))) 10 (vp_nar .byte ((Int32.toInt8 (p0 >>> (8 &&& 31))).toInt32))) 11 (vp_nar .byte ((Int32.toInt8 (p0 >>> (0 &&& 31))).toInt32)))))] := hD
  refine lv_aload_n hx hb dX11_four_20 rfl (lv_at hl 1 rfl) ?_
  refine lv_dup hx hb dX11_four_21 rfl ?_
  refine va_get (D := D) (ci := 11) (v := .int 11) (C := RX11) (T := TX11) (N := 65) hx hb hg inGX11 hown hK hP 0 rfl rfl 2 (by decide) (hg _ q_6_128) (fun _ h9 => h9) (px_ss (px_ss (px_ss hmo_2))) dX11_four_22 ?_
  refine lv_iconst (v := 1) hx hb dX11_four_25 (by decide) ?_
  refine lv_iadd hx hb dX11_four_26 ?_
  refine px_top (v := 12) (by decide) ?_
  refine va_put (D := D) (ci := 11) (v := .int 12) (ty := .int) (C := RX11) (T := TX11) (N := 65) hx hb hg inGX11 tyX11 tyX11_ok nmX11 hown hK hP hD hS 0 rfl rfl 2 (by decide) (hg _ q_6_128) (fun _ h9 => h9) rfl (by decide +kernel) rfl rfl (px_len (px_ss (px_ss (px_ss hmo_2)))) dX11_four_27 (fun H locs hP hD hS => ?_)
  have hP : va_P D vwCl [(mo, .inr (11, ((((fmo.set 2 (.int 9)).set 2 (.int 10)).set 2 (.int 11)).set 2 (.int 12)))), (mt, .inl (y 0, 940, .inl (upd (upd (upd (upd fmt 8 (vp_nar .byte ((Int32.toInt8 (p0 >>> (24 &&& 31))).toInt32))) 9 (vp_nar .byte ((Int32.toInt8 (p0 >>> (16 &&& 31))).toInt32))) 10 (vp_nar .byte ((Int32.toInt8 (p0 >>> (8 &&& 31))).toInt32))) 11 (vp_nar .byte ((Int32.toInt8 (p0 >>> (0 &&& 31))).toInt32)))))] H := hP
  have hD : va_D A [(mo, .inr (11, ((((fmo.set 2 (.int 9)).set 2 (.int 10)).set 2 (.int 11)).set 2 (.int 12)))), (mt, .inl (y 0, 940, .inl (upd (upd (upd (upd fmt 8 (vp_nar .byte ((Int32.toInt8 (p0 >>> (24 &&& 31))).toInt32))) 9 (vp_nar .byte ((Int32.toInt8 (p0 >>> (16 &&& 31))).toInt32))) 10 (vp_nar .byte ((Int32.toInt8 (p0 >>> (8 &&& 31))).toInt32))) 11 (vp_nar .byte ((Int32.toInt8 (p0 >>> (0 &&& 31))).toInt32)))))] := hD
  refine lv_iinc (v := (-8)) (lv' := [(2, .int (-8)), (0, .ref mo), (1, .int p0)]) hx hb dX11_four_30 hl (k := 0) rfl (by decide) (by decide) rfl (fun ls hl => ?_)
  refine lv_goto (tgt := 3) hx hb dX11_four_33 (by decide) ?_
  refine lv_iload_n hx hb dX11_four_3 rfl (lv_at hl 0 rfl) ?_
  refine lv_if_lt (tgt := 36) hx hb dX11_four_4 (by decide) (fun _ => ?_) (fun c_5 => absurd c_5 (by decide))
  have hP9 := hP.sub (ws' := [(mo, .inr (11, ((((fmo.set 2 (.int 9)).set 2 (.int 10)).set 2 (.int 11)).set 2 (.int 12)))), (mt, .inl (y 0, 940, .inl (upd (upd (upd (upd fmt 8 (vp_nar .byte ((Int32.toInt8 (p0 >>> (24 &&& 31))).toInt32))) 9 (vp_nar .byte ((Int32.toInt8 (p0 >>> (16 &&& 31))).toInt32))) 10 (vp_nar .byte ((Int32.toInt8 (p0 >>> (8 &&& 31))).toInt32))) 11 (vp_nar .byte ((Int32.toInt8 (p0 >>> (0 &&& 31))).toInt32)))))]) [0, 1] rfl
  have hD9 := hD.sub (ws' := [(mo, .inr (11, ((((fmo.set 2 (.int 9)).set 2 (.int 10)).set 2 (.int 11)).set 2 (.int 12)))), (mt, .inl (y 0, 940, .inl (upd (upd (upd (upd fmt 8 (vp_nar .byte ((Int32.toInt8 (p0 >>> (24 &&& 31))).toInt32))) 9 (vp_nar .byte ((Int32.toInt8 (p0 >>> (16 &&& 31))).toInt32))) 10 (vp_nar .byte ((Int32.toInt8 (p0 >>> (8 &&& 31))).toInt32))) 11 (vp_nar .byte ((Int32.toInt8 (p0 >>> (0 &&& 31))).toInt32)))))]) [0, 1] (by decide +kernel) rfl
  exact W.vret hx hb hr (fun t ht hW => ⟨⟨(px_v [], px_vi [(upd (upd (upd (upd fmt 8 (vp_nar .byte ((Int32.toInt8 (p0 >>> (24 &&& 31))).toInt32))) 9 (vp_nar .byte ((Int32.toInt8 (p0 >>> (16 &&& 31))).toInt32))) 10 (vp_nar .byte ((Int32.toInt8 (p0 >>> (8 &&& 31))).toInt32))) 11 (vp_nar .byte ((Int32.toInt8 (p0 >>> (0 &&& 31))).toInt32)))], px_vl []), rfl, trivial, by rw [ht]; exact hP9, hD9⟩, hS.F ht⟩) hS.2.2 dX11_four_36

set_option maxHeartbeats 4000000 in
set_option maxRecDepth 100000 in
theorem c_X11_four_12 (l : Launch) (D : va_G) (y : Nat → ClassId) (sz : Nat) (mo : Nat) (fmo : List Value) (mt : Nat) (fmt : Nat → Int32) (p0 : Int32) (hmo_1 : fmo[1]? = some (.ref mt)) (hmo_2 : fmo[2]? = some (.int 12)) : Met l yX11_four (px_w yX11_four cX11_four 3 none) ({ frames := 0, cells := 0, slots := 0, locals := 0 }) (va_Pc [.ref mo, .int p0] (px_P D y sz [(mo, .inr (11, fmo)), (mt, .inl (y 0, 940, .inl fmt))])) (va_Qv (fun (u : px_U) => True) (fun (u : px_U) t => va_P D vwCl [(mo, .inr (11, ((((fmo.set 2 (.int 13)).set 2 (.int 14)).set 2 (.int 15)).set 2 (.int 16)))), (mt, .inl (y 0, 940, .inl (u.2.1 0)))] t.heap ∧ va_D (va_A [(mo, .inr (11, fmo)), (mt, .inl (y 0, 940, .inl fmt))] sz) [(mo, .inr (11, ((((fmo.set 2 (.int 13)).set 2 (.int 14)).set 2 (.int 15)).set 2 (.int 16)))), (mt, .inl (y 0, 940, .inl (u.2.1 0)))]) (va_A [(mo, .inr (11, fmo)), (mt, .inl (y 0, 940, .inl fmt))] sz)) 0 0 (va_A [(mo, .inr (11, fmo)), (mt, .inl (y 0, 940, .inl fmt))] sz) := by
  refine Met.ofW (cc := cX11_four) (maxL := 3) (ret := none) (by decide) rfl ?_
  intro p e s m args below meth c s₁ B hml hv
  obtain ⟨rfl, hsz, hP, hK, hD0⟩ := hv
  have hx := B.exec
  have hb := B.bytes
  have hr := B.returns
  have hts := atoms_spec (ws := px_w yX11_four cX11_four 3 none) B.pre
  have hg : ∀ w ∈ gw, w.before [.ref mo, .int p0].toArray s = true := fun w h => hts w (List.mem_cons_of_mem _ h)
  have hown : s.vm.findClass RX11 = some m.cls := findClass_of_methodNamed B.named
  have hlocks := B.notSynchronized
  subst hsz
  have hD := hD0.self (sz := s.heap.size)
  generalize hAe : va_A [(mo, .inr (11, fmo)), (mt, .inl (y 0, 940, .inl fmt))] s.heap.size = A at hD ⊢
  have hA : ∀ q : Nat, s.heap.size ≤ q → A q := fun q h => by rw [← hAe]; exact Or.inr h
  have hS : va_S A s.heap s.heap [] := va_S.rf
  have hP : va_P D vwCl [(mo, .inr (11, fmo)), (mt, .inl (y 0, 940, .inl fmt))] s.heap := hP
  have hl := lv_entry ([.ref mo, .int p0]) (n := 3) (Nat.le_of_ble_eq_true rfl)
  rw [lg_entry_eq]
  generalize (lg_sl ([.ref mo, .int p0]) ++ List.replicate (3 - (lg_sl ([.ref mo, .int p0])).length) Slot.unset).toArray = ls at hl ⊢
  have hl : lv_has ls 3 [(0, .ref mo), (1, .int p0)] := hl
  refine lv_bipush (v := 24) hx hb dX11_four_0 (by decide) ?_
  refine lv_istore_n (lv' := [(2, .int 24), (0, .ref mo), (1, .int p0)]) hx hb dX11_four_2 rfl hl (by decide) rfl (fun ls hl => ?_)
  refine lv_iload_n hx hb dX11_four_3 rfl (lv_at hl 0 rfl) ?_
  refine lv_if_lt (tgt := 36) hx hb dX11_four_4 (by decide) (fun c_1 => absurd c_1 (by decide)) (fun _ => ?_)
  refine lv_aload_n hx hb dX11_four_7 rfl (lv_at hl 1 rfl) ?_
  refine va_get (D := D) (ci := 11) (v := .ref mt) (C := RX11) (T := TX11) (N := 65) hx hb hg inGX11 hown hK hP 0 rfl rfl 1 (by decide) (hg _ q_6_127) (fun _ h9 => h9) hmo_1 dX11_four_8 ?_
  refine lv_aload_n hx hb dX11_four_11 rfl (lv_at hl 1 rfl) ?_
  refine va_get (D := D) (ci := 11) (v := .int 12) (C := RX11) (T := TX11) (N := 65) hx hb hg inGX11 hown hK hP 0 rfl rfl 2 (by decide) (hg _ q_6_128) (fun _ h9 => h9) hmo_2 dX11_four_12 ?_
  refine lv_iload_n hx hb dX11_four_15 rfl (lv_at hl 2 rfl) ?_
  refine lv_iload_n hx hb dX11_four_16 rfl (lv_at hl 0 rfl) ?_
  refine lv_ishr hx hb dX11_four_17 ?_
  refine lv_i2b hx hb dX11_four_18 rfl ?_
  refine va_bast hx hb hK hP hD hS 1 0 rfl rfl (i := 12) (px_in (by decide)) dX11_four_19 (fun H locs hP hD hS => ?_)
  have hP : va_P D vwCl [(mo, .inr (11, fmo)), (mt, .inl (y 0, 940, .inl (upd fmt 12 (vp_nar .byte ((Int32.toInt8 (p0 >>> (24 &&& 31))).toInt32)))))] H := hP
  have hD : va_D A [(mo, .inr (11, fmo)), (mt, .inl (y 0, 940, .inl (upd fmt 12 (vp_nar .byte ((Int32.toInt8 (p0 >>> (24 &&& 31))).toInt32)))))] := hD
  refine lv_aload_n hx hb dX11_four_20 rfl (lv_at hl 1 rfl) ?_
  refine lv_dup hx hb dX11_four_21 rfl ?_
  refine va_get (D := D) (ci := 11) (v := .int 12) (C := RX11) (T := TX11) (N := 65) hx hb hg inGX11 hown hK hP 0 rfl rfl 2 (by decide) (hg _ q_6_128) (fun _ h9 => h9) hmo_2 dX11_four_22 ?_
  refine lv_iconst (v := 1) hx hb dX11_four_25 (by decide) ?_
  refine lv_iadd hx hb dX11_four_26 ?_
  refine px_top (v := 13) (by decide) ?_
  refine va_put (D := D) (ci := 11) (v := .int 13) (ty := .int) (C := RX11) (T := TX11) (N := 65) hx hb hg inGX11 tyX11 tyX11_ok nmX11 hown hK hP hD hS 0 rfl rfl 2 (by decide) (hg _ q_6_128) (fun _ h9 => h9) rfl (by decide +kernel) rfl rfl (px_len hmo_2) dX11_four_27 (fun H locs hP hD hS => ?_)
  have hP : va_P D vwCl [(mo, .inr (11, (fmo.set 2 (.int 13)))), (mt, .inl (y 0, 940, .inl (upd fmt 12 (vp_nar .byte ((Int32.toInt8 (p0 >>> (24 &&& 31))).toInt32)))))] H := hP
  have hD : va_D A [(mo, .inr (11, (fmo.set 2 (.int 13)))), (mt, .inl (y 0, 940, .inl (upd fmt 12 (vp_nar .byte ((Int32.toInt8 (p0 >>> (24 &&& 31))).toInt32)))))] := hD
  refine lv_iinc (v := 16) (lv' := [(2, .int 16), (0, .ref mo), (1, .int p0)]) hx hb dX11_four_30 hl (k := 0) rfl (by decide) (by decide) rfl (fun ls hl => ?_)
  refine lv_goto (tgt := 3) hx hb dX11_four_33 (by decide) ?_
  refine lv_iload_n hx hb dX11_four_3 rfl (lv_at hl 0 rfl) ?_
  refine lv_if_lt (tgt := 36) hx hb dX11_four_4 (by decide) (fun c_2 => absurd c_2 (by decide)) (fun _ => ?_)
  refine lv_aload_n hx hb dX11_four_7 rfl (lv_at hl 1 rfl) ?_
  refine va_get (D := D) (ci := 11) (v := .ref mt) (C := RX11) (T := TX11) (N := 65) hx hb hg inGX11 hown hK hP 0 rfl rfl 1 (by decide) (hg _ q_6_127) (fun _ h9 => h9) (px_sn (by decide) hmo_1) dX11_four_8 ?_
  refine lv_aload_n hx hb dX11_four_11 rfl (lv_at hl 1 rfl) ?_
  refine va_get (D := D) (ci := 11) (v := .int 13) (C := RX11) (T := TX11) (N := 65) hx hb hg inGX11 hown hK hP 0 rfl rfl 2 (by decide) (hg _ q_6_128) (fun _ h9 => h9) (px_ss hmo_2) dX11_four_12 ?_
  refine lv_iload_n hx hb dX11_four_15 rfl (lv_at hl 2 rfl) ?_
  refine lv_iload_n hx hb dX11_four_16 rfl (lv_at hl 0 rfl) ?_
  refine lv_ishr hx hb dX11_four_17 ?_
  refine lv_i2b hx hb dX11_four_18 rfl ?_
  refine va_bast hx hb hK hP hD hS 1 0 rfl rfl (i := 13) (px_in (by decide)) dX11_four_19 (fun H locs hP hD hS => ?_)
  have hP : va_P D vwCl [(mo, .inr (11, (fmo.set 2 (.int 13)))), (mt, .inl (y 0, 940, .inl (upd (upd fmt 12 (vp_nar .byte ((Int32.toInt8 (p0 >>> (24 &&& 31))).toInt32))) 13 (vp_nar .byte ((Int32.toInt8 (p0 >>> (16 &&& 31))).toInt32)))))] H := hP
  have hD : va_D A [(mo, .inr (11, (fmo.set 2 (.int 13)))), (mt, .inl (y 0, 940, .inl (upd (upd fmt 12 (vp_nar .byte ((Int32.toInt8 (p0 >>> (24 &&& 31))).toInt32))) 13 (vp_nar .byte ((Int32.toInt8 (p0 >>> (16 &&& 31))).toInt32)))))] := hD
  refine lv_aload_n hx hb dX11_four_20 rfl (lv_at hl 1 rfl) ?_
  refine lv_dup hx hb dX11_four_21 rfl ?_
  refine va_get (D := D) (ci := 11) (v := .int 13) (C := RX11) (T := TX11) (N := 65) hx hb hg inGX11 hown hK hP 0 rfl rfl 2 (by decide) (hg _ q_6_128) (fun _ h9 => h9) (px_ss hmo_2) dX11_four_22 ?_
  refine lv_iconst (v := 1) hx hb dX11_four_25 (by decide) ?_
  refine lv_iadd hx hb dX11_four_26 ?_
  refine px_top (v := 14) (by decide) ?_
  refine va_put (D := D) (ci := 11) (v := .int 14) (ty := .int) (C := RX11) (T := TX11) (N := 65) hx hb hg inGX11 tyX11 tyX11_ok nmX11 hown hK hP hD hS 0 rfl rfl 2 (by decide) (hg _ q_6_128) (fun _ h9 => h9) rfl (by decide +kernel) rfl rfl (px_len (px_ss hmo_2)) dX11_four_27 (fun H locs hP hD hS => ?_)
  have hP : va_P D vwCl [(mo, .inr (11, ((fmo.set 2 (.int 13)).set 2 (.int 14)))), (mt, .inl (y 0, 940, .inl (upd (upd fmt 12 (vp_nar .byte ((Int32.toInt8 (p0 >>> (24 &&& 31))).toInt32))) 13 (vp_nar .byte ((Int32.toInt8 (p0 >>> (16 &&& 31))).toInt32)))))] H := hP
  have hD : va_D A [(mo, .inr (11, ((fmo.set 2 (.int 13)).set 2 (.int 14)))), (mt, .inl (y 0, 940, .inl (upd (upd fmt 12 (vp_nar .byte ((Int32.toInt8 (p0 >>> (24 &&& 31))).toInt32))) 13 (vp_nar .byte ((Int32.toInt8 (p0 >>> (16 &&& 31))).toInt32)))))] := hD
  refine lv_iinc (v := 8) (lv' := [(2, .int 8), (0, .ref mo), (1, .int p0)]) hx hb dX11_four_30 hl (k := 0) rfl (by decide) (by decide) rfl (fun ls hl => ?_)
  refine lv_goto (tgt := 3) hx hb dX11_four_33 (by decide) ?_
  refine lv_iload_n hx hb dX11_four_3 rfl (lv_at hl 0 rfl) ?_
  refine lv_if_lt (tgt := 36) hx hb dX11_four_4 (by decide) (fun c_3 => absurd c_3 (by decide)) (fun _ => ?_)
  refine lv_aload_n hx hb dX11_four_7 rfl (lv_at hl 1 rfl) ?_
  refine va_get (D := D) (ci := 11) (v := .ref mt) (C := RX11) (T := TX11) (N := 65) hx hb hg inGX11 hown hK hP 0 rfl rfl 1 (by decide) (hg _ q_6_127) (fun _ h9 => h9) (px_sn (by decide) (px_sn (by decide) hmo_1)) dX11_four_8 ?_
  refine lv_aload_n hx hb dX11_four_11 rfl (lv_at hl 1 rfl) ?_
  refine va_get (D := D) (ci := 11) (v := .int 14) (C := RX11) (T := TX11) (N := 65) hx hb hg inGX11 hown hK hP 0 rfl rfl 2 (by decide) (hg _ q_6_128) (fun _ h9 => h9) (px_ss (px_ss hmo_2)) dX11_four_12 ?_
  refine lv_iload_n hx hb dX11_four_15 rfl (lv_at hl 2 rfl) ?_
  refine lv_iload_n hx hb dX11_four_16 rfl (lv_at hl 0 rfl) ?_
  refine lv_ishr hx hb dX11_four_17 ?_
  refine lv_i2b hx hb dX11_four_18 rfl ?_
  refine va_bast hx hb hK hP hD hS 1 0 rfl rfl (i := 14) (px_in (by decide)) dX11_four_19 (fun H locs hP hD hS => ?_)
  have hP : va_P D vwCl [(mo, .inr (11, ((fmo.set 2 (.int 13)).set 2 (.int 14)))), (mt, .inl (y 0, 940, .inl (upd (upd (upd fmt 12 (vp_nar .byte ((Int32.toInt8 (p0 >>> (24 &&& 31))).toInt32))) 13 (vp_nar .byte ((Int32.toInt8 (p0 >>> (16 &&& 31))).toInt32))) 14 (vp_nar .byte ((Int32.toInt8 (p0 >>> (8 &&& 31))).toInt32)))))] H := hP
  have hD : va_D A [(mo, .inr (11, ((fmo.set 2 (.int 13)).set 2 (.int 14)))), (mt, .inl (y 0, 940, .inl (upd (upd (upd fmt 12 (vp_nar .byte ((Int32.toInt8 (p0 >>> (24 &&& 31))).toInt32))) 13 (vp_nar .byte ((Int32.toInt8 (p0 >>> (16 &&& 31))).toInt32))) 14 (vp_nar .byte ((Int32.toInt8 (p0 >>> (8 &&& 31))).toInt32)))))] := hD
  refine lv_aload_n hx hb dX11_four_20 rfl (lv_at hl 1 rfl) ?_
  refine lv_dup hx hb dX11_four_21 rfl ?_
  refine va_get (D := D) (ci := 11) (v := .int 14) (C := RX11) (T := TX11) (N := 65) hx hb hg inGX11 hown hK hP 0 rfl rfl 2 (by decide) (hg _ q_6_128) (fun _ h9 => h9) (px_ss (px_ss hmo_2)) dX11_four_22 ?_
  refine lv_iconst (v := 1) hx hb dX11_four_25 (by decide) ?_
  refine lv_iadd hx hb dX11_four_26 ?_
  refine px_top (v := 15) (by decide) ?_
  refine va_put (D := D) (ci := 11) (v := .int 15) (ty := .int) (C := RX11) (T := TX11) (N := 65) hx hb hg inGX11 tyX11 tyX11_ok nmX11 hown hK hP hD hS 0 rfl rfl 2 (by decide) (hg _ q_6_128) (fun _ h9 => h9) rfl (by decide +kernel) rfl rfl (px_len (px_ss (px_ss hmo_2))) dX11_four_27 (fun H locs hP hD hS => ?_)
  have hP : va_P D vwCl [(mo, .inr (11, (((fmo.set 2 (.int 13)).set 2 (.int 14)).set 2 (.int 15)))), (mt, .inl (y 0, 940, .inl (upd (upd (upd fmt 12 (vp_nar .byte ((Int32.toInt8 (p0 >>> (24 &&& 31))).toInt32))) 13 (vp_nar .byte ((Int32.toInt8 (p0 >>> (16 &&& 31))).toInt32))) 14 (vp_nar .byte ((Int32.toInt8 (p0 >>> (8 &&& 31))).toInt32)))))] H := hP
  have hD : va_D A [(mo, .inr (11, (((fmo.set 2 (.int 13)).set 2 (.int 14)).set 2 (.int 15)))), (mt, .inl (y 0, 940, .inl (upd (upd (upd fmt 12 (vp_nar .byte ((Int32.toInt8 (p0 >>> (24 &&& 31))).toInt32))) 13 (vp_nar .byte ((Int32.toInt8 (p0 >>> (16 &&& 31))).toInt32))) 14 (vp_nar .byte ((Int32.toInt8 (p0 >>> (8 &&& 31))).toInt32)))))] := hD
  refine lv_iinc (v := 0) (lv' := [(2, .int 0), (0, .ref mo), (1, .int p0)]) hx hb dX11_four_30 hl (k := 0) rfl (by decide) (by decide) rfl (fun ls hl => ?_)
  refine lv_goto (tgt := 3) hx hb dX11_four_33 (by decide) ?_
  refine lv_iload_n hx hb dX11_four_3 rfl (lv_at hl 0 rfl) ?_
  refine lv_if_lt (tgt := 36) hx hb dX11_four_4 (by decide) (fun c_4 => absurd c_4 (by decide)) (fun _ => ?_)
  refine lv_aload_n hx hb dX11_four_7 rfl (lv_at hl 1 rfl) ?_
  refine va_get (D := D) (ci := 11) (v := .ref mt) (C := RX11) (T := TX11) (N := 65) hx hb hg inGX11 hown hK hP 0 rfl rfl 1 (by decide) (hg _ q_6_127) (fun _ h9 => h9) (px_sn (by decide) (px_sn (by decide) (px_sn (by decide) hmo_1))) dX11_four_8 ?_
  refine lv_aload_n hx hb dX11_four_11 rfl (lv_at hl 1 rfl) ?_
  refine va_get (D := D) (ci := 11) (v := .int 15) (C := RX11) (T := TX11) (N := 65) hx hb hg inGX11 hown hK hP 0 rfl rfl 2 (by decide) (hg _ q_6_128) (fun _ h9 => h9) (px_ss (px_ss (px_ss hmo_2))) dX11_four_12 ?_
  refine lv_iload_n hx hb dX11_four_15 rfl (lv_at hl 2 rfl) ?_
  refine lv_iload_n hx hb dX11_four_16 rfl (lv_at hl 0 rfl) ?_
  refine lv_ishr hx hb dX11_four_17 ?_
  refine lv_i2b hx hb dX11_four_18 rfl ?_
  refine va_bast hx hb hK hP hD hS 1 0 rfl rfl (i := 15) (px_in (by decide)) dX11_four_19 (fun H locs hP hD hS => ?_)
  have hP : va_P D vwCl [(mo, .inr (11, (((fmo.set 2 (.int 13)).set 2 (.int 14)).set 2 (.int 15)))), (mt, .inl (y 0, 940, .inl (upd (upd (upd (upd fmt 12 (vp_nar .byte ((Int32.toInt8 (p0 >>> (24 &&& 31))).toInt32))) 13 (vp_nar .byte ((Int32.toInt8 (p0 >>> (16 &&& 31))).toInt32))) 14 (vp_nar .byte ((Int32.toInt8 (p0 >>> (8 &&& 31))).toInt32))) 15 (vp_nar .byte ((Int32.toInt8 (p0 >>> (0 &&& 31))).toInt32)))))] H := hP
  have hD : va_D A [(mo, .inr (11, (((fmo.set 2 (.int 13)).set 2 (.int 14)).set 2 (.int 15)))), (mt, .inl (y 0, 940, .inl (upd (upd (upd (upd fmt 12 (vp_nar .byte ((Int32.toInt8 (p0 >>> (24 &&& 31))).toInt32))) 13 (vp_nar .byte ((Int32.toInt8 (p0 >>> (16 &&& 31))).toInt32))) 14 (vp_nar .byte ((Int32.toInt8 (p0 >>> (8 &&& 31))).toInt32))) 15 (vp_nar .byte ((Int32.toInt8 (p0 >>> (0 &&& 31))).toInt32)))))] := hD
  refine lv_aload_n hx hb dX11_four_20 rfl (lv_at hl 1 rfl) ?_
  refine lv_dup hx hb dX11_four_21 rfl ?_
  refine va_get (D := D) (ci := 11) (v := .int 15) (C := RX11) (T := TX11) (N := 65) hx hb hg inGX11 hown hK hP 0 rfl rfl 2 (by decide) (hg _ q_6_128) (fun _ h9 => h9) (px_ss (px_ss (px_ss hmo_2))) dX11_four_22 ?_
  refine lv_iconst (v := 1) hx hb dX11_four_25 (by decide) ?_
  refine lv_iadd hx hb dX11_four_26 ?_
  refine px_top (v := 16) (by decide) ?_
  refine va_put (D := D) (ci := 11) (v := .int 16) (ty := .int) (C := RX11) (T := TX11) (N := 65) hx hb hg inGX11 tyX11 tyX11_ok nmX11 hown hK hP hD hS 0 rfl rfl 2 (by decide) (hg _ q_6_128) (fun _ h9 => h9) rfl (by decide +kernel) rfl rfl (px_len (px_ss (px_ss (px_ss hmo_2)))) dX11_four_27 (fun H locs hP hD hS => ?_)
  have hP : va_P D vwCl [(mo, .inr (11, ((((fmo.set 2 (.int 13)).set 2 (.int 14)).set 2 (.int 15)).set 2 (.int 16)))), (mt, .inl (y 0, 940, .inl (upd (upd (upd (upd fmt 12 (vp_nar .byte ((Int32.toInt8 (p0 >>> (24 &&& 31))).toInt32))) 13 (vp_nar .byte ((Int32.toInt8 (p0 >>> (16 &&& 31))).toInt32))) 14 (vp_nar .byte ((Int32.toInt8 (p0 >>> (8 &&& 31))).toInt32))) 15 (vp_nar .byte ((Int32.toInt8 (p0 >>> (0 &&& 31))).toInt32)))))] H := hP
  have hD : va_D A [(mo, .inr (11, ((((fmo.set 2 (.int 13)).set 2 (.int 14)).set 2 (.int 15)).set 2 (.int 16)))), (mt, .inl (y 0, 940, .inl (upd (upd (upd (upd fmt 12 (vp_nar .byte ((Int32.toInt8 (p0 >>> (24 &&& 31))).toInt32))) 13 (vp_nar .byte ((Int32.toInt8 (p0 >>> (16 &&& 31))).toInt32))) 14 (vp_nar .byte ((Int32.toInt8 (p0 >>> (8 &&& 31))).toInt32))) 15 (vp_nar .byte ((Int32.toInt8 (p0 >>> (0 &&& 31))).toInt32)))))] := hD
  refine lv_iinc (v := (-8)) (lv' := [(2, .int (-8)), (0, .ref mo), (1, .int p0)]) hx hb dX11_four_30 hl (k := 0) rfl (by decide) (by decide) rfl (fun ls hl => ?_)
  refine lv_goto (tgt := 3) hx hb dX11_four_33 (by decide) ?_
  refine lv_iload_n hx hb dX11_four_3 rfl (lv_at hl 0 rfl) ?_
  refine lv_if_lt (tgt := 36) hx hb dX11_four_4 (by decide) (fun _ => ?_) (fun c_5 => absurd c_5 (by decide))
  have hP9 := hP.sub (ws' := [(mo, .inr (11, ((((fmo.set 2 (.int 13)).set 2 (.int 14)).set 2 (.int 15)).set 2 (.int 16)))), (mt, .inl (y 0, 940, .inl (upd (upd (upd (upd fmt 12 (vp_nar .byte ((Int32.toInt8 (p0 >>> (24 &&& 31))).toInt32))) 13 (vp_nar .byte ((Int32.toInt8 (p0 >>> (16 &&& 31))).toInt32))) 14 (vp_nar .byte ((Int32.toInt8 (p0 >>> (8 &&& 31))).toInt32))) 15 (vp_nar .byte ((Int32.toInt8 (p0 >>> (0 &&& 31))).toInt32)))))]) [0, 1] rfl
  have hD9 := hD.sub (ws' := [(mo, .inr (11, ((((fmo.set 2 (.int 13)).set 2 (.int 14)).set 2 (.int 15)).set 2 (.int 16)))), (mt, .inl (y 0, 940, .inl (upd (upd (upd (upd fmt 12 (vp_nar .byte ((Int32.toInt8 (p0 >>> (24 &&& 31))).toInt32))) 13 (vp_nar .byte ((Int32.toInt8 (p0 >>> (16 &&& 31))).toInt32))) 14 (vp_nar .byte ((Int32.toInt8 (p0 >>> (8 &&& 31))).toInt32))) 15 (vp_nar .byte ((Int32.toInt8 (p0 >>> (0 &&& 31))).toInt32)))))]) [0, 1] (by decide +kernel) rfl
  exact W.vret hx hb hr (fun t ht hW => ⟨⟨(px_v [], px_vi [(upd (upd (upd (upd fmt 12 (vp_nar .byte ((Int32.toInt8 (p0 >>> (24 &&& 31))).toInt32))) 13 (vp_nar .byte ((Int32.toInt8 (p0 >>> (16 &&& 31))).toInt32))) 14 (vp_nar .byte ((Int32.toInt8 (p0 >>> (8 &&& 31))).toInt32))) 15 (vp_nar .byte ((Int32.toInt8 (p0 >>> (0 &&& 31))).toInt32)))], px_vl []), rfl, trivial, by rw [ht]; exact hP9, hD9⟩, hS.F ht⟩) hS.2.2 dX11_four_36

set_option maxHeartbeats 4000000 in
set_option maxRecDepth 100000 in
theorem c_X11_four_16 (l : Launch) (D : va_G) (y : Nat → ClassId) (sz : Nat) (mo : Nat) (fmo : List Value) (mt : Nat) (fmt : Nat → Int32) (p0 : Int32) (hmo_1 : fmo[1]? = some (.ref mt)) (hmo_2 : fmo[2]? = some (.int 16)) : Met l yX11_four (px_w yX11_four cX11_four 3 none) ({ frames := 0, cells := 0, slots := 0, locals := 0 }) (va_Pc [.ref mo, .int p0] (px_P D y sz [(mo, .inr (11, fmo)), (mt, .inl (y 0, 940, .inl fmt))])) (va_Qv (fun (u : px_U) => True) (fun (u : px_U) t => va_P D vwCl [(mo, .inr (11, ((((fmo.set 2 (.int 17)).set 2 (.int 18)).set 2 (.int 19)).set 2 (.int 20)))), (mt, .inl (y 0, 940, .inl (u.2.1 0)))] t.heap ∧ va_D (va_A [(mo, .inr (11, fmo)), (mt, .inl (y 0, 940, .inl fmt))] sz) [(mo, .inr (11, ((((fmo.set 2 (.int 17)).set 2 (.int 18)).set 2 (.int 19)).set 2 (.int 20)))), (mt, .inl (y 0, 940, .inl (u.2.1 0)))]) (va_A [(mo, .inr (11, fmo)), (mt, .inl (y 0, 940, .inl fmt))] sz)) 0 0 (va_A [(mo, .inr (11, fmo)), (mt, .inl (y 0, 940, .inl fmt))] sz) := by
  refine Met.ofW (cc := cX11_four) (maxL := 3) (ret := none) (by decide) rfl ?_
  intro p e s m args below meth c s₁ B hml hv
  obtain ⟨rfl, hsz, hP, hK, hD0⟩ := hv
  have hx := B.exec
  have hb := B.bytes
  have hr := B.returns
  have hts := atoms_spec (ws := px_w yX11_four cX11_four 3 none) B.pre
  have hg : ∀ w ∈ gw, w.before [.ref mo, .int p0].toArray s = true := fun w h => hts w (List.mem_cons_of_mem _ h)
  have hown : s.vm.findClass RX11 = some m.cls := findClass_of_methodNamed B.named
  have hlocks := B.notSynchronized
  subst hsz
  have hD := hD0.self (sz := s.heap.size)
  generalize hAe : va_A [(mo, .inr (11, fmo)), (mt, .inl (y 0, 940, .inl fmt))] s.heap.size = A at hD ⊢
  have hA : ∀ q : Nat, s.heap.size ≤ q → A q := fun q h => by rw [← hAe]; exact Or.inr h
  have hS : va_S A s.heap s.heap [] := va_S.rf
  have hP : va_P D vwCl [(mo, .inr (11, fmo)), (mt, .inl (y 0, 940, .inl fmt))] s.heap := hP
  have hl := lv_entry ([.ref mo, .int p0]) (n := 3) (Nat.le_of_ble_eq_true rfl)
  rw [lg_entry_eq]
  generalize (lg_sl ([.ref mo, .int p0]) ++ List.replicate (3 - (lg_sl ([.ref mo, .int p0])).length) Slot.unset).toArray = ls at hl ⊢
  have hl : lv_has ls 3 [(0, .ref mo), (1, .int p0)] := hl
  refine lv_bipush (v := 24) hx hb dX11_four_0 (by decide) ?_
  refine lv_istore_n (lv' := [(2, .int 24), (0, .ref mo), (1, .int p0)]) hx hb dX11_four_2 rfl hl (by decide) rfl (fun ls hl => ?_)
  refine lv_iload_n hx hb dX11_four_3 rfl (lv_at hl 0 rfl) ?_
  refine lv_if_lt (tgt := 36) hx hb dX11_four_4 (by decide) (fun c_1 => absurd c_1 (by decide)) (fun _ => ?_)
  refine lv_aload_n hx hb dX11_four_7 rfl (lv_at hl 1 rfl) ?_
  refine va_get (D := D) (ci := 11) (v := .ref mt) (C := RX11) (T := TX11) (N := 65) hx hb hg inGX11 hown hK hP 0 rfl rfl 1 (by decide) (hg _ q_6_127) (fun _ h9 => h9) hmo_1 dX11_four_8 ?_
  refine lv_aload_n hx hb dX11_four_11 rfl (lv_at hl 1 rfl) ?_
  refine va_get (D := D) (ci := 11) (v := .int 16) (C := RX11) (T := TX11) (N := 65) hx hb hg inGX11 hown hK hP 0 rfl rfl 2 (by decide) (hg _ q_6_128) (fun _ h9 => h9) hmo_2 dX11_four_12 ?_
  refine lv_iload_n hx hb dX11_four_15 rfl (lv_at hl 2 rfl) ?_
  refine lv_iload_n hx hb dX11_four_16 rfl (lv_at hl 0 rfl) ?_
  refine lv_ishr hx hb dX11_four_17 ?_
  refine lv_i2b hx hb dX11_four_18 rfl ?_
  refine va_bast hx hb hK hP hD hS 1 0 rfl rfl (i := 16) (px_in (by decide)) dX11_four_19 (fun H locs hP hD hS => ?_)
  have hP : va_P D vwCl [(mo, .inr (11, fmo)), (mt, .inl (y 0, 940, .inl (upd fmt 16 (vp_nar .byte ((Int32.toInt8 (p0 >>> (24 &&& 31))).toInt32)))))] H := hP
  have hD : va_D A [(mo, .inr (11, fmo)), (mt, .inl (y 0, 940, .inl (upd fmt 16 (vp_nar .byte ((Int32.toInt8 (p0 >>> (24 &&& 31))).toInt32)))))] := hD
  refine lv_aload_n hx hb dX11_four_20 rfl (lv_at hl 1 rfl) ?_
  refine lv_dup hx hb dX11_four_21 rfl ?_
  refine va_get (D := D) (ci := 11) (v := .int 16) (C := RX11) (T := TX11) (N := 65) hx hb hg inGX11 hown hK hP 0 rfl rfl 2 (by decide) (hg _ q_6_128) (fun _ h9 => h9) hmo_2 dX11_four_22 ?_
  refine lv_iconst (v := 1) hx hb dX11_four_25 (by decide) ?_
  refine lv_iadd hx hb dX11_four_26 ?_
  refine px_top (v := 17) (by decide) ?_
  refine va_put (D := D) (ci := 11) (v := .int 17) (ty := .int) (C := RX11) (T := TX11) (N := 65) hx hb hg inGX11 tyX11 tyX11_ok nmX11 hown hK hP hD hS 0 rfl rfl 2 (by decide) (hg _ q_6_128) (fun _ h9 => h9) rfl (by decide +kernel) rfl rfl (px_len hmo_2) dX11_four_27 (fun H locs hP hD hS => ?_)
  have hP : va_P D vwCl [(mo, .inr (11, (fmo.set 2 (.int 17)))), (mt, .inl (y 0, 940, .inl (upd fmt 16 (vp_nar .byte ((Int32.toInt8 (p0 >>> (24 &&& 31))).toInt32)))))] H := hP
  have hD : va_D A [(mo, .inr (11, (fmo.set 2 (.int 17)))), (mt, .inl (y 0, 940, .inl (upd fmt 16 (vp_nar .byte ((Int32.toInt8 (p0 >>> (24 &&& 31))).toInt32)))))] := hD
  refine lv_iinc (v := 16) (lv' := [(2, .int 16), (0, .ref mo), (1, .int p0)]) hx hb dX11_four_30 hl (k := 0) rfl (by decide) (by decide) rfl (fun ls hl => ?_)
  refine lv_goto (tgt := 3) hx hb dX11_four_33 (by decide) ?_
  refine lv_iload_n hx hb dX11_four_3 rfl (lv_at hl 0 rfl) ?_
  refine lv_if_lt (tgt := 36) hx hb dX11_four_4 (by decide) (fun c_2 => absurd c_2 (by decide)) (fun _ => ?_)
  refine lv_aload_n hx hb dX11_four_7 rfl (lv_at hl 1 rfl) ?_
  refine va_get (D := D) (ci := 11) (v := .ref mt) (C := RX11) (T := TX11) (N := 65) hx hb hg inGX11 hown hK hP 0 rfl rfl 1 (by decide) (hg _ q_6_127) (fun _ h9 => h9) (px_sn (by decide) hmo_1) dX11_four_8 ?_
  refine lv_aload_n hx hb dX11_four_11 rfl (lv_at hl 1 rfl) ?_
  refine va_get (D := D) (ci := 11) (v := .int 17) (C := RX11) (T := TX11) (N := 65) hx hb hg inGX11 hown hK hP 0 rfl rfl 2 (by decide) (hg _ q_6_128) (fun _ h9 => h9) (px_ss hmo_2) dX11_four_12 ?_
  refine lv_iload_n hx hb dX11_four_15 rfl (lv_at hl 2 rfl) ?_
  refine lv_iload_n hx hb dX11_four_16 rfl (lv_at hl 0 rfl) ?_
  refine lv_ishr hx hb dX11_four_17 ?_
  refine lv_i2b hx hb dX11_four_18 rfl ?_
  refine va_bast hx hb hK hP hD hS 1 0 rfl rfl (i := 17) (px_in (by decide)) dX11_four_19 (fun H locs hP hD hS => ?_)
  have hP : va_P D vwCl [(mo, .inr (11, (fmo.set 2 (.int 17)))), (mt, .inl (y 0, 940, .inl (upd (upd fmt 16 (vp_nar .byte ((Int32.toInt8 (p0 >>> (24 &&& 31))).toInt32))) 17 (vp_nar .byte ((Int32.toInt8 (p0 >>> (16 &&& 31))).toInt32)))))] H := hP
  have hD : va_D A [(mo, .inr (11, (fmo.set 2 (.int 17)))), (mt, .inl (y 0, 940, .inl (upd (upd fmt 16 (vp_nar .byte ((Int32.toInt8 (p0 >>> (24 &&& 31))).toInt32))) 17 (vp_nar .byte ((Int32.toInt8 (p0 >>> (16 &&& 31))).toInt32)))))] := hD
  refine lv_aload_n hx hb dX11_four_20 rfl (lv_at hl 1 rfl) ?_
  refine lv_dup hx hb dX11_four_21 rfl ?_
  refine va_get (D := D) (ci := 11) (v := .int 17) (C := RX11) (T := TX11) (N := 65) hx hb hg inGX11 hown hK hP 0 rfl rfl 2 (by decide) (hg _ q_6_128) (fun _ h9 => h9) (px_ss hmo_2) dX11_four_22 ?_
  refine lv_iconst (v := 1) hx hb dX11_four_25 (by decide) ?_
  refine lv_iadd hx hb dX11_four_26 ?_
  refine px_top (v := 18) (by decide) ?_
  refine va_put (D := D) (ci := 11) (v := .int 18) (ty := .int) (C := RX11) (T := TX11) (N := 65) hx hb hg inGX11 tyX11 tyX11_ok nmX11 hown hK hP hD hS 0 rfl rfl 2 (by decide) (hg _ q_6_128) (fun _ h9 => h9) rfl (by decide +kernel) rfl rfl (px_len (px_ss hmo_2)) dX11_four_27 (fun H locs hP hD hS => ?_)
  have hP : va_P D vwCl [(mo, .inr (11, ((fmo.set 2 (.int 17)).set 2 (.int 18)))), (mt, .inl (y 0, 940, .inl (upd (upd fmt 16 (vp_nar .byte ((Int32.toInt8 (p0 >>> (24 &&& 31))).toInt32))) 17 (vp_nar .byte ((Int32.toInt8 (p0 >>> (16 &&& 31))).toInt32)))))] H := hP
  have hD : va_D A [(mo, .inr (11, ((fmo.set 2 (.int 17)).set 2 (.int 18)))), (mt, .inl (y 0, 940, .inl (upd (upd fmt 16 (vp_nar .byte ((Int32.toInt8 (p0 >>> (24 &&& 31))).toInt32))) 17 (vp_nar .byte ((Int32.toInt8 (p0 >>> (16 &&& 31))).toInt32)))))] := hD
  refine lv_iinc (v := 8) (lv' := [(2, .int 8), (0, .ref mo), (1, .int p0)]) hx hb dX11_four_30 hl (k := 0) rfl (by decide) (by decide) rfl (fun ls hl => ?_)
  refine lv_goto (tgt := 3) hx hb dX11_four_33 (by decide) ?_
  refine lv_iload_n hx hb dX11_four_3 rfl (lv_at hl 0 rfl) ?_
  refine lv_if_lt (tgt := 36) hx hb dX11_four_4 (by decide) (fun c_3 => absurd c_3 (by decide)) (fun _ => ?_)
  refine lv_aload_n hx hb dX11_four_7 rfl (lv_at hl 1 rfl) ?_
  refine va_get (D := D) (ci := 11) (v := .ref mt) (C := RX11) (T := TX11) (N := 65) hx hb hg inGX11 hown hK hP 0 rfl rfl 1 (by decide) (hg _ q_6_127) (fun _ h9 => h9) (px_sn (by decide) (px_sn (by decide) hmo_1)) dX11_four_8 ?_
  refine lv_aload_n hx hb dX11_four_11 rfl (lv_at hl 1 rfl) ?_
  refine va_get (D := D) (ci := 11) (v := .int 18) (C := RX11) (T := TX11) (N := 65) hx hb hg inGX11 hown hK hP 0 rfl rfl 2 (by decide) (hg _ q_6_128) (fun _ h9 => h9) (px_ss (px_ss hmo_2)) dX11_four_12 ?_
  refine lv_iload_n hx hb dX11_four_15 rfl (lv_at hl 2 rfl) ?_
  refine lv_iload_n hx hb dX11_four_16 rfl (lv_at hl 0 rfl) ?_
  refine lv_ishr hx hb dX11_four_17 ?_
  refine lv_i2b hx hb dX11_four_18 rfl ?_
  refine va_bast hx hb hK hP hD hS 1 0 rfl rfl (i := 18) (px_in (by decide)) dX11_four_19 (fun H locs hP hD hS => ?_)
  have hP : va_P D vwCl [(mo, .inr (11, ((fmo.set 2 (.int 17)).set 2 (.int 18)))), (mt, .inl (y 0, 940, .inl (upd (upd (upd fmt 16 (vp_nar .byte ((Int32.toInt8 (p0 >>> (24 &&& 31))).toInt32))) 17 (vp_nar .byte ((Int32.toInt8 (p0 >>> (16 &&& 31))).toInt32))) 18 (vp_nar .byte ((Int32.toInt8 (p0 >>> (8 &&& 31))).toInt32)))))] H := hP
  have hD : va_D A [(mo, .inr (11, ((fmo.set 2 (.int 17)).set 2 (.int 18)))), (mt, .inl (y 0, 940, .inl (upd (upd (upd fmt 16 (vp_nar .byte ((Int32.toInt8 (p0 >>> (24 &&& 31))).toInt32))) 17 (vp_nar .byte ((Int32.toInt8 (p0 >>> (16 &&& 31))).toInt32))) 18 (vp_nar .byte ((Int32.toInt8 (p0 >>> (8 &&& 31))).toInt32)))))] := hD
  refine lv_aload_n hx hb dX11_four_20 rfl (lv_at hl 1 rfl) ?_
  refine lv_dup hx hb dX11_four_21 rfl ?_
  refine va_get (D := D) (ci := 11) (v := .int 18) (C := RX11) (T := TX11) (N := 65) hx hb hg inGX11 hown hK hP 0 rfl rfl 2 (by decide) (hg _ q_6_128) (fun _ h9 => h9) (px_ss (px_ss hmo_2)) dX11_four_22 ?_
  refine lv_iconst (v := 1) hx hb dX11_four_25 (by decide) ?_
  refine lv_iadd hx hb dX11_four_26 ?_
  refine px_top (v := 19) (by decide) ?_
  refine va_put (D := D) (ci := 11) (v := .int 19) (ty := .int) (C := RX11) (T := TX11) (N := 65) hx hb hg inGX11 tyX11 tyX11_ok nmX11 hown hK hP hD hS 0 rfl rfl 2 (by decide) (hg _ q_6_128) (fun _ h9 => h9) rfl (by decide +kernel) rfl rfl (px_len (px_ss (px_ss hmo_2))) dX11_four_27 (fun H locs hP hD hS => ?_)
  have hP : va_P D vwCl [(mo, .inr (11, (((fmo.set 2 (.int 17)).set 2 (.int 18)).set 2 (.int 19)))), (mt, .inl (y 0, 940, .inl (upd (upd (upd fmt 16 (vp_nar .byte ((Int32.toInt8 (p0 >>> (24 &&& 31))).toInt32))) 17 (vp_nar .byte ((Int32.toInt8 (p0 >>> (16 &&& 31))).toInt32))) 18 (vp_nar .byte ((Int32.toInt8 (p0 >>> (8 &&& 31))).toInt32)))))] H := hP
  have hD : va_D A [(mo, .inr (11, (((fmo.set 2 (.int 17)).set 2 (.int 18)).set 2 (.int 19)))), (mt, .inl (y 0, 940, .inl (upd (upd (upd fmt 16 (vp_nar .byte ((Int32.toInt8 (p0 >>> (24 &&& 31))).toInt32))) 17 (vp_nar .byte ((Int32.toInt8 (p0 >>> (16 &&& 31))).toInt32))) 18 (vp_nar .byte ((Int32.toInt8 (p0 >>> (8 &&& 31))).toInt32)))))] := hD
  refine lv_iinc (v := 0) (lv' := [(2, .int 0), (0, .ref mo), (1, .int p0)]) hx hb dX11_four_30 hl (k := 0) rfl (by decide) (by decide) rfl (fun ls hl => ?_)
  refine lv_goto (tgt := 3) hx hb dX11_four_33 (by decide) ?_
  refine lv_iload_n hx hb dX11_four_3 rfl (lv_at hl 0 rfl) ?_
  refine lv_if_lt (tgt := 36) hx hb dX11_four_4 (by decide) (fun c_4 => absurd c_4 (by decide)) (fun _ => ?_)
  refine lv_aload_n hx hb dX11_four_7 rfl (lv_at hl 1 rfl) ?_
  refine va_get (D := D) (ci := 11) (v := .ref mt) (C := RX11) (T := TX11) (N := 65) hx hb hg inGX11 hown hK hP 0 rfl rfl 1 (by decide) (hg _ q_6_127) (fun _ h9 => h9) (px_sn (by decide) (px_sn (by decide) (px_sn (by decide) hmo_1))) dX11_four_8 ?_
  refine lv_aload_n hx hb dX11_four_11 rfl (lv_at hl 1 rfl) ?_
  refine va_get (D := D) (ci := 11) (v := .int 19) (C := RX11) (T := TX11) (N := 65) hx hb hg inGX11 hown hK hP 0 rfl rfl 2 (by decide) (hg _ q_6_128) (fun _ h9 => h9) (px_ss (px_ss (px_ss hmo_2))) dX11_four_12 ?_
  refine lv_iload_n hx hb dX11_four_15 rfl (lv_at hl 2 rfl) ?_
  refine lv_iload_n hx hb dX11_four_16 rfl (lv_at hl 0 rfl) ?_
  refine lv_ishr hx hb dX11_four_17 ?_
  refine lv_i2b hx hb dX11_four_18 rfl ?_
  refine va_bast hx hb hK hP hD hS 1 0 rfl rfl (i := 19) (px_in (by decide)) dX11_four_19 (fun H locs hP hD hS => ?_)
  have hP : va_P D vwCl [(mo, .inr (11, (((fmo.set 2 (.int 17)).set 2 (.int 18)).set 2 (.int 19)))), (mt, .inl (y 0, 940, .inl (upd (upd (upd (upd fmt 16 (vp_nar .byte ((Int32.toInt8 (p0 >>> (24 &&& 31))).toInt32))) 17 (vp_nar .byte ((Int32.toInt8 (p0 >>> (16 &&& 31))).toInt32))) 18 (vp_nar .byte ((Int32.toInt8 (p0 >>> (8 &&& 31))).toInt32))) 19 (vp_nar .byte ((Int32.toInt8 (p0 >>> (0 &&& 31))).toInt32)))))] H := hP
  have hD : va_D A [(mo, .inr (11, (((fmo.set 2 (.int 17)).set 2 (.int 18)).set 2 (.int 19)))), (mt, .inl (y 0, 940, .inl (upd (upd (upd (upd fmt 16 (vp_nar .byte ((Int32.toInt8 (p0 >>> (24 &&& 31))).toInt32))) 17 (vp_nar .byte ((Int32.toInt8 (p0 >>> (16 &&& 31))).toInt32))) 18 (vp_nar .byte ((Int32.toInt8 (p0 >>> (8 &&& 31))).toInt32))) 19 (vp_nar .byte ((Int32.toInt8 (p0 >>> (0 &&& 31))).toInt32)))))] := hD
  refine lv_aload_n hx hb dX11_four_20 rfl (lv_at hl 1 rfl) ?_
  refine lv_dup hx hb dX11_four_21 rfl ?_
  refine va_get (D := D) (ci := 11) (v := .int 19) (C := RX11) (T := TX11) (N := 65) hx hb hg inGX11 hown hK hP 0 rfl rfl 2 (by decide) (hg _ q_6_128) (fun _ h9 => h9) (px_ss (px_ss (px_ss hmo_2))) dX11_four_22 ?_
  refine lv_iconst (v := 1) hx hb dX11_four_25 (by decide) ?_
  refine lv_iadd hx hb dX11_four_26 ?_
  refine px_top (v := 20) (by decide) ?_
  refine va_put (D := D) (ci := 11) (v := .int 20) (ty := .int) (C := RX11) (T := TX11) (N := 65) hx hb hg inGX11 tyX11 tyX11_ok nmX11 hown hK hP hD hS 0 rfl rfl 2 (by decide) (hg _ q_6_128) (fun _ h9 => h9) rfl (by decide +kernel) rfl rfl (px_len (px_ss (px_ss (px_ss hmo_2)))) dX11_four_27 (fun H locs hP hD hS => ?_)
  have hP : va_P D vwCl [(mo, .inr (11, ((((fmo.set 2 (.int 17)).set 2 (.int 18)).set 2 (.int 19)).set 2 (.int 20)))), (mt, .inl (y 0, 940, .inl (upd (upd (upd (upd fmt 16 (vp_nar .byte ((Int32.toInt8 (p0 >>> (24 &&& 31))).toInt32))) 17 (vp_nar .byte ((Int32.toInt8 (p0 >>> (16 &&& 31))).toInt32))) 18 (vp_nar .byte ((Int32.toInt8 (p0 >>> (8 &&& 31))).toInt32))) 19 (vp_nar .byte ((Int32.toInt8 (p0 >>> (0 &&& 31))).toInt32)))))] H := hP
  have hD : va_D A [(mo, .inr (11, ((((fmo.set 2 (.int 17)).set 2 (.int 18)).set 2 (.int 19)).set 2 (.int 20)))), (mt, .inl (y 0, 940, .inl (upd (upd (upd (upd fmt 16 (vp_nar .byte ((Int32.toInt8 (p0 >>> (24 &&& 31))).toInt32))) 17 (vp_nar .byte ((Int32.toInt8 (p0 >>> (16 &&& 31))).toInt32))) 18 (vp_nar .byte ((Int32.toInt8 (p0 >>> (8 &&& 31))).toInt32))) 19 (vp_nar .byte ((Int32.toInt8 (p0 >>> (0 &&& 31))).toInt32)))))] := hD
  refine lv_iinc (v := (-8)) (lv' := [(2, .int (-8)), (0, .ref mo), (1, .int p0)]) hx hb dX11_four_30 hl (k := 0) rfl (by decide) (by decide) rfl (fun ls hl => ?_)
  refine lv_goto (tgt := 3) hx hb dX11_four_33 (by decide) ?_
  refine lv_iload_n hx hb dX11_four_3 rfl (lv_at hl 0 rfl) ?_
  refine lv_if_lt (tgt := 36) hx hb dX11_four_4 (by decide) (fun _ => ?_) (fun c_5 => absurd c_5 (by decide))
  have hP9 := hP.sub (ws' := [(mo, .inr (11, ((((fmo.set 2 (.int 17)).set 2 (.int 18)).set 2 (.int 19)).set 2 (.int 20)))), (mt, .inl (y 0, 940, .inl (upd (upd (upd (upd fmt 16 (vp_nar .byte ((Int32.toInt8 (p0 >>> (24 &&& 31))).toInt32))) 17 (vp_nar .byte ((Int32.toInt8 (p0 >>> (16 &&& 31))).toInt32))) 18 (vp_nar .byte ((Int32.toInt8 (p0 >>> (8 &&& 31))).toInt32))) 19 (vp_nar .byte ((Int32.toInt8 (p0 >>> (0 &&& 31))).toInt32)))))]) [0, 1] rfl
  have hD9 := hD.sub (ws' := [(mo, .inr (11, ((((fmo.set 2 (.int 17)).set 2 (.int 18)).set 2 (.int 19)).set 2 (.int 20)))), (mt, .inl (y 0, 940, .inl (upd (upd (upd (upd fmt 16 (vp_nar .byte ((Int32.toInt8 (p0 >>> (24 &&& 31))).toInt32))) 17 (vp_nar .byte ((Int32.toInt8 (p0 >>> (16 &&& 31))).toInt32))) 18 (vp_nar .byte ((Int32.toInt8 (p0 >>> (8 &&& 31))).toInt32))) 19 (vp_nar .byte ((Int32.toInt8 (p0 >>> (0 &&& 31))).toInt32)))))]) [0, 1] (by decide +kernel) rfl
  exact W.vret hx hb hr (fun t ht hW => ⟨⟨(px_v [], px_vi [(upd (upd (upd (upd fmt 16 (vp_nar .byte ((Int32.toInt8 (p0 >>> (24 &&& 31))).toInt32))) 17 (vp_nar .byte ((Int32.toInt8 (p0 >>> (16 &&& 31))).toInt32))) 18 (vp_nar .byte ((Int32.toInt8 (p0 >>> (8 &&& 31))).toInt32))) 19 (vp_nar .byte ((Int32.toInt8 (p0 >>> (0 &&& 31))).toInt32)))], px_vl []), rfl, trivial, by rw [ht]; exact hP9, hD9⟩, hS.F ht⟩) hS.2.2 dX11_four_36

set_option maxHeartbeats 4000000 in
set_option maxRecDepth 100000 in
theorem c_X11_feed (l : Launch) (D : va_G) (y : Nat → ClassId) (sz : Nat) (mo : Nat) (fmo : List Value) (mt : Nat) (fmt : Nat → Int32) (p0 : Int32) (p1 : Int32) (p2 : Int32) (p3 : Int32) (p4 : Int32) (hmo_0 : fmo[0]? = some (.int 0)) (hmo_1 : fmo[1]? = some (.ref mt)) (hmo_2 : fmo[2]? = some (.int 0)) : Met l yX11_feed (px_w yX11_feed cX11_feed 6 (some .int)) ({ frames := 1, cells := 0, slots := 0, locals := 22 }) (va_Pc [.ref mo, .int p0, .int p1, .int p2, .int p3, .int p4] (px_P D y sz [(mo, .inr (11, fmo)), (mt, .inl (y 0, 940, .inl fmt))])) (va_Qi (fun (r : Int32) (u : Unit) => r = 20) (fun (u : Unit) t => True) (va_A [(mo, .inr (11, fmo)), (mt, .inl (y 0, 940, .inl fmt))] sz)) 0 0 (va_A [(mo, .inr (11, fmo)), (mt, .inl (y 0, 940, .inl fmt))] sz) := by
  refine Met.ofW (cc := cX11_feed) (maxL := 6) (ret := (some .int)) (by decide) rfl ?_
  intro p e s m args below meth c s₁ B hml hv
  obtain ⟨rfl, hsz, hP, hK, hD0⟩ := hv
  have hx := B.exec
  have hb := B.bytes
  have hr := B.returns
  have hts := atoms_spec (ws := px_w yX11_feed cX11_feed 6 (some .int)) B.pre
  have hg : ∀ w ∈ gw, w.before [.ref mo, .int p0, .int p1, .int p2, .int p3, .int p4].toArray s = true := fun w h => hts w (List.mem_cons_of_mem _ h)
  have hown : s.vm.findClass RX11 = some m.cls := findClass_of_methodNamed B.named
  have hlocks := B.notSynchronized
  subst hsz
  have hD := hD0.self (sz := s.heap.size)
  generalize hAe : va_A [(mo, .inr (11, fmo)), (mt, .inl (y 0, 940, .inl fmt))] s.heap.size = A at hD ⊢
  have hA : ∀ q : Nat, s.heap.size ≤ q → A q := fun q h => by rw [← hAe]; exact Or.inr h
  have hS : va_S A s.heap s.heap [] := va_S.rf
  have hP : va_P D vwCl [(mo, .inr (11, fmo)), (mt, .inl (y 0, 940, .inl fmt))] s.heap := hP
  have hl := lv_entry ([.ref mo, .int p0, .int p1, .int p2, .int p3, .int p4]) (n := 6) (Nat.le_of_ble_eq_true rfl)
  rw [lg_entry_eq]
  generalize (lg_sl ([.ref mo, .int p0, .int p1, .int p2, .int p3, .int p4]) ++ List.replicate (6 - (lg_sl ([.ref mo, .int p0, .int p1, .int p2, .int p3, .int p4])).length) Slot.unset).toArray = ls at hl ⊢
  have hl : lv_has ls 6 [(0, .ref mo), (1, .int p0), (2, .int p1), (3, .int p2), (4, .int p3), (5, .int p4)] := hl
  refine lv_aload_n hx hb dX11_feed_0 rfl (lv_at hl 0 rfl) ?_
  refine lv_iconst (v := 0) hx hb dX11_feed_1 (by decide) ?_
  refine va_put (D := D) (ci := 11) (v := .int 0) (ty := .int) (C := RX11) (T := TX11) (N := 65) hx hb hg inGX11 tyX11 tyX11_ok nmX11 hown hK hP hD hS 0 rfl rfl 0 (by decide) (hg _ q_6_126) (fun _ h9 => h9) rfl (by decide +kernel) rfl rfl (px_len hmo_0) dX11_feed_2 (fun H locs hP hD hS => ?_)
  have hP : va_P D vwCl [(mo, .inr (11, (fmo.set 0 (.int 0)))), (mt, .inl (y 0, 940, .inl fmt))] H := hP
  have hD : va_D A [(mo, .inr (11, (fmo.set 0 (.int 0)))), (mt, .inl (y 0, 940, .inl fmt))] := hD
  refine lv_aload_n hx hb dX11_feed_5 rfl (lv_at hl 0 rfl) ?_
  refine va_get (D := D) (ci := 11) (v := .int 0) (C := RX11) (T := TX11) (N := 65) hx hb hg inGX11 hown hK hP 0 rfl rfl 2 (by decide) (hg _ q_6_128) (fun _ h9 => h9) (px_sn (by decide) hmo_2) dX11_feed_6 ?_
  refine lv_bipush (v := 20) hx hb dX11_feed_9 (by decide) ?_
  refine lv_iadd hx hb dX11_feed_11 ?_
  refine px_top (v := 20) (by decide) ?_
  refine lv_sipush (v := 940) hx hb dX11_feed_12 (by decide) ?_
  refine lv_icmp_le (tgt := 20) hx hb dX11_feed_15 (by decide) (fun _ => ?_) (fun c_1 => absurd c_1 (by decide))
  refine lv_aload_n hx hb dX11_feed_20 rfl (lv_at hl 0 rfl) ?_
  refine lv_iload_n hx hb dX11_feed_21 rfl (lv_at hl 1 rfl) ?_
  have hPc_2 := hP.sub (ws' := [(mo, .inr (11, (fmo.set 0 (.int 0)))), (mt, .inl (y 0, 940, .inl fmt))]) [0, 1] rfl
  have hDc_2 := hD.sub (ws' := [(mo, .inr (11, (fmo.set 0 (.int 0)))), (mt, .inl (y 0, 940, .inl fmt))]) [0, 1] (by decide +kernel) rfl
  have hFc_2 := va_free (wc := [(mo, .inr (11, (fmo.set 0 (.int 0)))), (mt, .inl (y 0, 940, .inl fmt))]) hD hS hA [0, 1] rfl
  refine va_callv (va_runV (As := [.int p0]) (rest := []) ⟨hx, hb, hml, hown, hg⟩ (c_X11_four_0 l D y H.size mo (fmo.set 0 (.int 0)) mt fmt p0 (px_sn (by decide) hmo_1) (px_sn (by decide) hmo_2)) (cwV 1 hg (px_gV q_6_92 q_6_94 q_p_58 q_1_15 q_6_96) rfl rfl rfl (by decide +kernel) ⟨Nat.le_of_ble_eq_true rfl, Nat.le_of_ble_eq_true rfl⟩) (px_preV hK hPc_2 hDc_2 (ci := 11) (q0 := 0) rfl rfl) rfl rfl hl.1 rfl (lv_room (Nat.le_of_ble_eq_true rfl)) dX11_feed_22 ⟨Nat.le_of_ble_eq_true rfl, Nat.le_of_ble_eq_true rfl⟩) hS (fun q _ h => hFc_2 q h) hFc_2 (fun u_2 t_2 H1 locs ht_2 hvm_2 hw_2 hB_2 hz_2 hk_2 hS => ?_)
  refine W.cs (cells' := 0) (slots' := 0) rfl rfl ?_
  obtain ⟨hP1_2, hD1_2⟩ := hB_2
  rw [ht_2] at hP1_2
  obtain ⟨hP, hD⟩ := va_join (wr := []) (w1 := [(mo, .inr (11, (((((fmo.set 0 (.int 0)).set 2 (.int 1)).set 2 (.int 2)).set 2 (.int 3)).set 2 (.int 4)))), (mt, .inl (y 0, 940, .inl (u_2.2.1 0)))]) hP hD [0, 1] [] rfl rfl (by decide +kernel) (by decide +kernel) hk_2 hFc_2 hP1_2 hD1_2
  generalize H1 = H at hP hS ⊢
  have hP : va_P D vwCl [(mo, .inr (11, (((((fmo.set 0 (.int 0)).set 2 (.int 1)).set 2 (.int 2)).set 2 (.int 3)).set 2 (.int 4)))), (mt, .inl (y 0, 940, .inl (u_2.2.1 0)))] H := hP
  have hD : va_D A [(mo, .inr (11, (((((fmo.set 0 (.int 0)).set 2 (.int 1)).set 2 (.int 2)).set 2 (.int 3)).set 2 (.int 4)))), (mt, .inl (y 0, 940, .inl (u_2.2.1 0)))] := hD
  refine lv_aload_n hx hb dX11_feed_25 rfl (lv_at hl 0 rfl) ?_
  refine lv_iload_n hx hb dX11_feed_26 rfl (lv_at hl 2 rfl) ?_
  have hPc_3 := hP.sub (ws' := [(mo, .inr (11, (((((fmo.set 0 (.int 0)).set 2 (.int 1)).set 2 (.int 2)).set 2 (.int 3)).set 2 (.int 4)))), (mt, .inl (y 0, 940, .inl (u_2.2.1 0)))]) [0, 1] rfl
  have hDc_3 := hD.sub (ws' := [(mo, .inr (11, (((((fmo.set 0 (.int 0)).set 2 (.int 1)).set 2 (.int 2)).set 2 (.int 3)).set 2 (.int 4)))), (mt, .inl (y 0, 940, .inl (u_2.2.1 0)))]) [0, 1] (by decide +kernel) rfl
  have hFc_3 := va_free (wc := [(mo, .inr (11, (((((fmo.set 0 (.int 0)).set 2 (.int 1)).set 2 (.int 2)).set 2 (.int 3)).set 2 (.int 4)))), (mt, .inl (y 0, 940, .inl (u_2.2.1 0)))]) hD hS hA [0, 1] rfl
  refine va_callv (va_runV (As := [.int p1]) (rest := []) ⟨hx, hb, hml, hown, hg⟩ (c_X11_four_4 l D y H.size mo (((((fmo.set 0 (.int 0)).set 2 (.int 1)).set 2 (.int 2)).set 2 (.int 3)).set 2 (.int 4)) mt (u_2.2.1 0) p1 (px_sn (by decide) (px_sn (by decide) (px_sn (by decide) (px_sn (by decide) (px_sn (by decide) hmo_1))))) (px_ss (px_ss (px_ss (px_ss (px_sn (by decide) hmo_2)))))) (cwV 1 hg (px_gV q_6_92 q_6_94 q_p_58 q_1_15 q_6_96) rfl rfl rfl (by decide +kernel) ⟨Nat.le_of_ble_eq_true rfl, Nat.le_of_ble_eq_true rfl⟩) (px_preV hK hPc_3 hDc_3 (ci := 11) (q0 := 0) rfl rfl) rfl rfl hl.1 rfl (lv_room (Nat.le_of_ble_eq_true rfl)) dX11_feed_27 ⟨Nat.le_of_ble_eq_true rfl, Nat.le_of_ble_eq_true rfl⟩) hS (fun q _ h => hFc_3 q h) hFc_3 (fun u_3 t_3 H1 locs ht_3 hvm_3 hw_3 hB_3 hz_3 hk_3 hS => ?_)
  refine W.cs (cells' := 0) (slots' := 0) rfl rfl ?_
  obtain ⟨hP1_3, hD1_3⟩ := hB_3
  rw [ht_3] at hP1_3
  obtain ⟨hP, hD⟩ := va_join (wr := []) (w1 := [(mo, .inr (11, (((((((((fmo.set 0 (.int 0)).set 2 (.int 1)).set 2 (.int 2)).set 2 (.int 3)).set 2 (.int 4)).set 2 (.int 5)).set 2 (.int 6)).set 2 (.int 7)).set 2 (.int 8)))), (mt, .inl (y 0, 940, .inl (u_3.2.1 0)))]) hP hD [0, 1] [] rfl rfl (by decide +kernel) (by decide +kernel) hk_3 hFc_3 hP1_3 hD1_3
  generalize H1 = H at hP hS ⊢
  have hP : va_P D vwCl [(mo, .inr (11, (((((((((fmo.set 0 (.int 0)).set 2 (.int 1)).set 2 (.int 2)).set 2 (.int 3)).set 2 (.int 4)).set 2 (.int 5)).set 2 (.int 6)).set 2 (.int 7)).set 2 (.int 8)))), (mt, .inl (y 0, 940, .inl (u_3.2.1 0)))] H := hP
  have hD : va_D A [(mo, .inr (11, (((((((((fmo.set 0 (.int 0)).set 2 (.int 1)).set 2 (.int 2)).set 2 (.int 3)).set 2 (.int 4)).set 2 (.int 5)).set 2 (.int 6)).set 2 (.int 7)).set 2 (.int 8)))), (mt, .inl (y 0, 940, .inl (u_3.2.1 0)))] := hD
  refine lv_aload_n hx hb dX11_feed_30 rfl (lv_at hl 0 rfl) ?_
  refine lv_iload_n hx hb dX11_feed_31 rfl (lv_at hl 3 rfl) ?_
  have hPc_4 := hP.sub (ws' := [(mo, .inr (11, (((((((((fmo.set 0 (.int 0)).set 2 (.int 1)).set 2 (.int 2)).set 2 (.int 3)).set 2 (.int 4)).set 2 (.int 5)).set 2 (.int 6)).set 2 (.int 7)).set 2 (.int 8)))), (mt, .inl (y 0, 940, .inl (u_3.2.1 0)))]) [0, 1] rfl
  have hDc_4 := hD.sub (ws' := [(mo, .inr (11, (((((((((fmo.set 0 (.int 0)).set 2 (.int 1)).set 2 (.int 2)).set 2 (.int 3)).set 2 (.int 4)).set 2 (.int 5)).set 2 (.int 6)).set 2 (.int 7)).set 2 (.int 8)))), (mt, .inl (y 0, 940, .inl (u_3.2.1 0)))]) [0, 1] (by decide +kernel) rfl
  have hFc_4 := va_free (wc := [(mo, .inr (11, (((((((((fmo.set 0 (.int 0)).set 2 (.int 1)).set 2 (.int 2)).set 2 (.int 3)).set 2 (.int 4)).set 2 (.int 5)).set 2 (.int 6)).set 2 (.int 7)).set 2 (.int 8)))), (mt, .inl (y 0, 940, .inl (u_3.2.1 0)))]) hD hS hA [0, 1] rfl
  refine va_callv (va_runV (As := [.int p2]) (rest := []) ⟨hx, hb, hml, hown, hg⟩ (c_X11_four_8 l D y H.size mo (((((((((fmo.set 0 (.int 0)).set 2 (.int 1)).set 2 (.int 2)).set 2 (.int 3)).set 2 (.int 4)).set 2 (.int 5)).set 2 (.int 6)).set 2 (.int 7)).set 2 (.int 8)) mt (u_3.2.1 0) p2 (px_sn (by decide) (px_sn (by decide) (px_sn (by decide) (px_sn (by decide) (px_sn (by decide) (px_sn (by decide) (px_sn (by decide) (px_sn (by decide) (px_sn (by decide) hmo_1))))))))) (px_ss (px_ss (px_ss (px_ss (px_ss (px_ss (px_ss (px_ss (px_sn (by decide) hmo_2)))))))))) (cwV 1 hg (px_gV q_6_92 q_6_94 q_p_58 q_1_15 q_6_96) rfl rfl rfl (by decide +kernel) ⟨Nat.le_of_ble_eq_true rfl, Nat.le_of_ble_eq_true rfl⟩) (px_preV hK hPc_4 hDc_4 (ci := 11) (q0 := 0) rfl rfl) rfl rfl hl.1 rfl (lv_room (Nat.le_of_ble_eq_true rfl)) dX11_feed_32 ⟨Nat.le_of_ble_eq_true rfl, Nat.le_of_ble_eq_true rfl⟩) hS (fun q _ h => hFc_4 q h) hFc_4 (fun u_4 t_4 H1 locs ht_4 hvm_4 hw_4 hB_4 hz_4 hk_4 hS => ?_)
  refine W.cs (cells' := 0) (slots' := 0) rfl rfl ?_
  obtain ⟨hP1_4, hD1_4⟩ := hB_4
  rw [ht_4] at hP1_4
  obtain ⟨hP, hD⟩ := va_join (wr := []) (w1 := [(mo, .inr (11, (((((((((((((fmo.set 0 (.int 0)).set 2 (.int 1)).set 2 (.int 2)).set 2 (.int 3)).set 2 (.int 4)).set 2 (.int 5)).set 2 (.int 6)).set 2 (.int 7)).set 2 (.int 8)).set 2 (.int 9)).set 2 (.int 10)).set 2 (.int 11)).set 2 (.int 12)))), (mt, .inl (y 0, 940, .inl (u_4.2.1 0)))]) hP hD [0, 1] [] rfl rfl (by decide +kernel) (by decide +kernel) hk_4 hFc_4 hP1_4 hD1_4
  generalize H1 = H at hP hS ⊢
  have hP : va_P D vwCl [(mo, .inr (11, (((((((((((((fmo.set 0 (.int 0)).set 2 (.int 1)).set 2 (.int 2)).set 2 (.int 3)).set 2 (.int 4)).set 2 (.int 5)).set 2 (.int 6)).set 2 (.int 7)).set 2 (.int 8)).set 2 (.int 9)).set 2 (.int 10)).set 2 (.int 11)).set 2 (.int 12)))), (mt, .inl (y 0, 940, .inl (u_4.2.1 0)))] H := hP
  have hD : va_D A [(mo, .inr (11, (((((((((((((fmo.set 0 (.int 0)).set 2 (.int 1)).set 2 (.int 2)).set 2 (.int 3)).set 2 (.int 4)).set 2 (.int 5)).set 2 (.int 6)).set 2 (.int 7)).set 2 (.int 8)).set 2 (.int 9)).set 2 (.int 10)).set 2 (.int 11)).set 2 (.int 12)))), (mt, .inl (y 0, 940, .inl (u_4.2.1 0)))] := hD
  refine lv_aload_n hx hb dX11_feed_35 rfl (lv_at hl 0 rfl) ?_
  refine lv_iload hx hb dX11_feed_36 (lv_at hl 4 rfl) ?_
  have hPc_5 := hP.sub (ws' := [(mo, .inr (11, (((((((((((((fmo.set 0 (.int 0)).set 2 (.int 1)).set 2 (.int 2)).set 2 (.int 3)).set 2 (.int 4)).set 2 (.int 5)).set 2 (.int 6)).set 2 (.int 7)).set 2 (.int 8)).set 2 (.int 9)).set 2 (.int 10)).set 2 (.int 11)).set 2 (.int 12)))), (mt, .inl (y 0, 940, .inl (u_4.2.1 0)))]) [0, 1] rfl
  have hDc_5 := hD.sub (ws' := [(mo, .inr (11, (((((((((((((fmo.set 0 (.int 0)).set 2 (.int 1)).set 2 (.int 2)).set 2 (.int 3)).set 2 (.int 4)).set 2 (.int 5)).set 2 (.int 6)).set 2 (.int 7)).set 2 (.int 8)).set 2 (.int 9)).set 2 (.int 10)).set 2 (.int 11)).set 2 (.int 12)))), (mt, .inl (y 0, 940, .inl (u_4.2.1 0)))]) [0, 1] (by decide +kernel) rfl
  have hFc_5 := va_free (wc := [(mo, .inr (11, (((((((((((((fmo.set 0 (.int 0)).set 2 (.int 1)).set 2 (.int 2)).set 2 (.int 3)).set 2 (.int 4)).set 2 (.int 5)).set 2 (.int 6)).set 2 (.int 7)).set 2 (.int 8)).set 2 (.int 9)).set 2 (.int 10)).set 2 (.int 11)).set 2 (.int 12)))), (mt, .inl (y 0, 940, .inl (u_4.2.1 0)))]) hD hS hA [0, 1] rfl
  refine va_callv (va_runV (As := [.int p3]) (rest := []) ⟨hx, hb, hml, hown, hg⟩ (c_X11_four_12 l D y H.size mo (((((((((((((fmo.set 0 (.int 0)).set 2 (.int 1)).set 2 (.int 2)).set 2 (.int 3)).set 2 (.int 4)).set 2 (.int 5)).set 2 (.int 6)).set 2 (.int 7)).set 2 (.int 8)).set 2 (.int 9)).set 2 (.int 10)).set 2 (.int 11)).set 2 (.int 12)) mt (u_4.2.1 0) p3 (px_sn (by decide) (px_sn (by decide) (px_sn (by decide) (px_sn (by decide) (px_sn (by decide) (px_sn (by decide) (px_sn (by decide) (px_sn (by decide) (px_sn (by decide) (px_sn (by decide) (px_sn (by decide) (px_sn (by decide) (px_sn (by decide) hmo_1))))))))))))) (px_ss (px_ss (px_ss (px_ss (px_ss (px_ss (px_ss (px_ss (px_ss (px_ss (px_ss (px_ss (px_sn (by decide) hmo_2)))))))))))))) (cwV 1 hg (px_gV q_6_92 q_6_94 q_p_58 q_1_15 q_6_96) rfl rfl rfl (by decide +kernel) ⟨Nat.le_of_ble_eq_true rfl, Nat.le_of_ble_eq_true rfl⟩) (px_preV hK hPc_5 hDc_5 (ci := 11) (q0 := 0) rfl rfl) rfl rfl hl.1 rfl (lv_room (Nat.le_of_ble_eq_true rfl)) dX11_feed_38 ⟨Nat.le_of_ble_eq_true rfl, Nat.le_of_ble_eq_true rfl⟩) hS (fun q _ h => hFc_5 q h) hFc_5 (fun u_5 t_5 H1 locs ht_5 hvm_5 hw_5 hB_5 hz_5 hk_5 hS => ?_)
  refine W.cs (cells' := 0) (slots' := 0) rfl rfl ?_
  obtain ⟨hP1_5, hD1_5⟩ := hB_5
  rw [ht_5] at hP1_5
  obtain ⟨hP, hD⟩ := va_join (wr := []) (w1 := [(mo, .inr (11, (((((((((((((((((fmo.set 0 (.int 0)).set 2 (.int 1)).set 2 (.int 2)).set 2 (.int 3)).set 2 (.int 4)).set 2 (.int 5)).set 2 (.int 6)).set 2 (.int 7)).set 2 (.int 8)).set 2 (.int 9)).set 2 (.int 10)).set 2 (.int 11)).set 2 (.int 12)).set 2 (.int 13)).set 2 (.int 14)).set 2 (.int 15)).set 2 (.int 16)))), (mt, .inl (y 0, 940, .inl (u_5.2.1 0)))]) hP hD [0, 1] [] rfl rfl (by decide +kernel) (by decide +kernel) hk_5 hFc_5 hP1_5 hD1_5
  generalize H1 = H at hP hS ⊢
  have hP : va_P D vwCl [(mo, .inr (11, (((((((((((((((((fmo.set 0 (.int 0)).set 2 (.int 1)).set 2 (.int 2)).set 2 (.int 3)).set 2 (.int 4)).set 2 (.int 5)).set 2 (.int 6)).set 2 (.int 7)).set 2 (.int 8)).set 2 (.int 9)).set 2 (.int 10)).set 2 (.int 11)).set 2 (.int 12)).set 2 (.int 13)).set 2 (.int 14)).set 2 (.int 15)).set 2 (.int 16)))), (mt, .inl (y 0, 940, .inl (u_5.2.1 0)))] H := hP
  have hD : va_D A [(mo, .inr (11, (((((((((((((((((fmo.set 0 (.int 0)).set 2 (.int 1)).set 2 (.int 2)).set 2 (.int 3)).set 2 (.int 4)).set 2 (.int 5)).set 2 (.int 6)).set 2 (.int 7)).set 2 (.int 8)).set 2 (.int 9)).set 2 (.int 10)).set 2 (.int 11)).set 2 (.int 12)).set 2 (.int 13)).set 2 (.int 14)).set 2 (.int 15)).set 2 (.int 16)))), (mt, .inl (y 0, 940, .inl (u_5.2.1 0)))] := hD
  refine lv_aload_n hx hb dX11_feed_41 rfl (lv_at hl 0 rfl) ?_
  refine lv_iload hx hb dX11_feed_42 (lv_at hl 5 rfl) ?_
  have hPc_6 := hP.sub (ws' := [(mo, .inr (11, (((((((((((((((((fmo.set 0 (.int 0)).set 2 (.int 1)).set 2 (.int 2)).set 2 (.int 3)).set 2 (.int 4)).set 2 (.int 5)).set 2 (.int 6)).set 2 (.int 7)).set 2 (.int 8)).set 2 (.int 9)).set 2 (.int 10)).set 2 (.int 11)).set 2 (.int 12)).set 2 (.int 13)).set 2 (.int 14)).set 2 (.int 15)).set 2 (.int 16)))), (mt, .inl (y 0, 940, .inl (u_5.2.1 0)))]) [0, 1] rfl
  have hDc_6 := hD.sub (ws' := [(mo, .inr (11, (((((((((((((((((fmo.set 0 (.int 0)).set 2 (.int 1)).set 2 (.int 2)).set 2 (.int 3)).set 2 (.int 4)).set 2 (.int 5)).set 2 (.int 6)).set 2 (.int 7)).set 2 (.int 8)).set 2 (.int 9)).set 2 (.int 10)).set 2 (.int 11)).set 2 (.int 12)).set 2 (.int 13)).set 2 (.int 14)).set 2 (.int 15)).set 2 (.int 16)))), (mt, .inl (y 0, 940, .inl (u_5.2.1 0)))]) [0, 1] (by decide +kernel) rfl
  have hFc_6 := va_free (wc := [(mo, .inr (11, (((((((((((((((((fmo.set 0 (.int 0)).set 2 (.int 1)).set 2 (.int 2)).set 2 (.int 3)).set 2 (.int 4)).set 2 (.int 5)).set 2 (.int 6)).set 2 (.int 7)).set 2 (.int 8)).set 2 (.int 9)).set 2 (.int 10)).set 2 (.int 11)).set 2 (.int 12)).set 2 (.int 13)).set 2 (.int 14)).set 2 (.int 15)).set 2 (.int 16)))), (mt, .inl (y 0, 940, .inl (u_5.2.1 0)))]) hD hS hA [0, 1] rfl
  refine va_callv (va_runV (As := [.int p4]) (rest := []) ⟨hx, hb, hml, hown, hg⟩ (c_X11_four_16 l D y H.size mo (((((((((((((((((fmo.set 0 (.int 0)).set 2 (.int 1)).set 2 (.int 2)).set 2 (.int 3)).set 2 (.int 4)).set 2 (.int 5)).set 2 (.int 6)).set 2 (.int 7)).set 2 (.int 8)).set 2 (.int 9)).set 2 (.int 10)).set 2 (.int 11)).set 2 (.int 12)).set 2 (.int 13)).set 2 (.int 14)).set 2 (.int 15)).set 2 (.int 16)) mt (u_5.2.1 0) p4 (px_sn (by decide) (px_sn (by decide) (px_sn (by decide) (px_sn (by decide) (px_sn (by decide) (px_sn (by decide) (px_sn (by decide) (px_sn (by decide) (px_sn (by decide) (px_sn (by decide) (px_sn (by decide) (px_sn (by decide) (px_sn (by decide) (px_sn (by decide) (px_sn (by decide) (px_sn (by decide) (px_sn (by decide) hmo_1))))))))))))))))) (px_ss (px_ss (px_ss (px_ss (px_ss (px_ss (px_ss (px_ss (px_ss (px_ss (px_ss (px_ss (px_ss (px_ss (px_ss (px_ss (px_sn (by decide) hmo_2)))))))))))))))))) (cwV 1 hg (px_gV q_6_92 q_6_94 q_p_58 q_1_15 q_6_96) rfl rfl rfl (by decide +kernel) ⟨Nat.le_of_ble_eq_true rfl, Nat.le_of_ble_eq_true rfl⟩) (px_preV hK hPc_6 hDc_6 (ci := 11) (q0 := 0) rfl rfl) rfl rfl hl.1 rfl (lv_room (Nat.le_of_ble_eq_true rfl)) dX11_feed_44 ⟨Nat.le_of_ble_eq_true rfl, Nat.le_of_ble_eq_true rfl⟩) hS (fun q _ h => hFc_6 q h) hFc_6 (fun u_6 t_6 H1 locs ht_6 hvm_6 hw_6 hB_6 hz_6 hk_6 hS => ?_)
  refine W.cs (cells' := 0) (slots' := 0) rfl rfl ?_
  obtain ⟨hP1_6, hD1_6⟩ := hB_6
  rw [ht_6] at hP1_6
  obtain ⟨hP, hD⟩ := va_join (wr := []) (w1 := [(mo, .inr (11, (((((((((((((((((((((fmo.set 0 (.int 0)).set 2 (.int 1)).set 2 (.int 2)).set 2 (.int 3)).set 2 (.int 4)).set 2 (.int 5)).set 2 (.int 6)).set 2 (.int 7)).set 2 (.int 8)).set 2 (.int 9)).set 2 (.int 10)).set 2 (.int 11)).set 2 (.int 12)).set 2 (.int 13)).set 2 (.int 14)).set 2 (.int 15)).set 2 (.int 16)).set 2 (.int 17)).set 2 (.int 18)).set 2 (.int 19)).set 2 (.int 20)))), (mt, .inl (y 0, 940, .inl (u_6.2.1 0)))]) hP hD [0, 1] [] rfl rfl (by decide +kernel) (by decide +kernel) hk_6 hFc_6 hP1_6 hD1_6
  generalize H1 = H at hP hS ⊢
  have hP : va_P D vwCl [(mo, .inr (11, (((((((((((((((((((((fmo.set 0 (.int 0)).set 2 (.int 1)).set 2 (.int 2)).set 2 (.int 3)).set 2 (.int 4)).set 2 (.int 5)).set 2 (.int 6)).set 2 (.int 7)).set 2 (.int 8)).set 2 (.int 9)).set 2 (.int 10)).set 2 (.int 11)).set 2 (.int 12)).set 2 (.int 13)).set 2 (.int 14)).set 2 (.int 15)).set 2 (.int 16)).set 2 (.int 17)).set 2 (.int 18)).set 2 (.int 19)).set 2 (.int 20)))), (mt, .inl (y 0, 940, .inl (u_6.2.1 0)))] H := hP
  have hD : va_D A [(mo, .inr (11, (((((((((((((((((((((fmo.set 0 (.int 0)).set 2 (.int 1)).set 2 (.int 2)).set 2 (.int 3)).set 2 (.int 4)).set 2 (.int 5)).set 2 (.int 6)).set 2 (.int 7)).set 2 (.int 8)).set 2 (.int 9)).set 2 (.int 10)).set 2 (.int 11)).set 2 (.int 12)).set 2 (.int 13)).set 2 (.int 14)).set 2 (.int 15)).set 2 (.int 16)).set 2 (.int 17)).set 2 (.int 18)).set 2 (.int 19)).set 2 (.int 20)))), (mt, .inl (y 0, 940, .inl (u_6.2.1 0)))] := hD
  refine lv_aload_n hx hb dX11_feed_47 rfl (lv_at hl 0 rfl) ?_
  refine va_get (D := D) (ci := 11) (v := .int 20) (C := RX11) (T := TX11) (N := 65) hx hb hg inGX11 hown hK hP 0 rfl rfl 2 (by decide) (hg _ q_6_128) (fun _ h9 => h9) (px_ss (px_ss (px_ss (px_ss (px_ss (px_ss (px_ss (px_ss (px_ss (px_ss (px_ss (px_ss (px_ss (px_ss (px_ss (px_ss (px_ss (px_ss (px_ss (px_ss (px_sn (by decide) hmo_2))))))))))))))))))))) dX11_feed_48 ?_
  exact W.iret (v := 20) hx hb hr (fun t ht hW => ⟨⟨_, (), rfl, rfl, trivial⟩, hS.F ht⟩) hS.2.2 dX11_feed_51

set_option maxHeartbeats 4000000 in
set_option maxRecDepth 100000 in
theorem c_X11_throwsIf (l : Launch) (D : va_G) (y : Nat → ClassId) (sz : Nat) (mo : Nat) (fmo : List Value) (hmo_0 : fmo[0]? = some (.int 0)) : Met l yX11_throwsIf (px_w yX11_throwsIf cX11_throwsIf 2 (some .boolean)) ({ frames := 0, cells := 0, slots := 0, locals := 0 }) (va_Pc [.ref mo, .int 1] (px_P D y sz [(mo, .inr (11, fmo))])) (va_Qi (fun (r : Int32) (u : Unit) => r = 1) (fun (u : Unit) t => va_P D vwCl [(mo, .inr (11, (fmo.set 0 (.int 1))))] t.heap ∧ va_D (va_A [(mo, .inr (11, fmo))] sz) [(mo, .inr (11, (fmo.set 0 (.int 1))))]) (va_A [(mo, .inr (11, fmo))] sz)) 0 0 (va_A [(mo, .inr (11, fmo))] sz) := by
  refine Met.ofW (cc := cX11_throwsIf) (maxL := 2) (ret := (some .boolean)) (by decide) rfl ?_
  intro p e s m args below meth c s₁ B hml hv
  obtain ⟨rfl, hsz, hP, hK, hD0⟩ := hv
  have hx := B.exec
  have hb := B.bytes
  have hr := B.returns
  have hts := atoms_spec (ws := px_w yX11_throwsIf cX11_throwsIf 2 (some .boolean)) B.pre
  have hg : ∀ w ∈ gw, w.before [.ref mo, .int 1].toArray s = true := fun w h => hts w (List.mem_cons_of_mem _ h)
  have hown : s.vm.findClass RX11 = some m.cls := findClass_of_methodNamed B.named
  have hlocks := B.notSynchronized
  subst hsz
  have hD := hD0.self (sz := s.heap.size)
  generalize hAe : va_A [(mo, .inr (11, fmo))] s.heap.size = A at hD ⊢
  have hA : ∀ q : Nat, s.heap.size ≤ q → A q := fun q h => by rw [← hAe]; exact Or.inr h
  have hS : va_S A s.heap s.heap [] := va_S.rf
  have hP : va_P D vwCl [(mo, .inr (11, fmo))] s.heap := hP
  have hl := lv_entry ([.ref mo, .int 1]) (n := 2) (Nat.le_of_ble_eq_true rfl)
  rw [lg_entry_eq]
  generalize (lg_sl ([.ref mo, .int 1]) ++ List.replicate (2 - (lg_sl ([.ref mo, .int 1])).length) Slot.unset).toArray = ls at hl ⊢
  have hl : lv_has ls 2 [(0, .ref mo), (1, .int 1)] := hl
  refine lv_aload_n hx hb dX11_throwsIf_0 rfl (lv_at hl 0 rfl) ?_
  refine lv_iload_n hx hb dX11_throwsIf_1 rfl (lv_at hl 1 rfl) ?_
  refine lv_if_eq (tgt := 9) hx hb dX11_throwsIf_2 (by decide) (fun c_1 => absurd c_1 (by decide)) (fun _ => ?_)
  refine lv_iconst (v := 1) hx hb dX11_throwsIf_5 (by decide) ?_
  refine lv_goto (tgt := 10) hx hb dX11_throwsIf_6 (by decide) ?_
  refine va_put (D := D) (ci := 11) (v := .int 1) (ty := .int) (C := RX11) (T := TX11) (N := 65) hx hb hg inGX11 tyX11 tyX11_ok nmX11 hown hK hP hD hS 0 rfl rfl 0 (by decide) (hg _ q_6_126) (fun _ h9 => h9) rfl (by decide +kernel) rfl rfl (px_len hmo_0) dX11_throwsIf_10 (fun H locs hP hD hS => ?_)
  have hP : va_P D vwCl [(mo, .inr (11, (fmo.set 0 (.int 1))))] H := hP
  have hD : va_D A [(mo, .inr (11, (fmo.set 0 (.int 1))))] := hD
  refine lv_iload_n hx hb dX11_throwsIf_13 rfl (lv_at hl 1 rfl) ?_
  have hP9 := hP.sub (ws' := [(mo, .inr (11, (fmo.set 0 (.int 1))))]) [0] rfl
  have hD9 := hD.sub (ws' := [(mo, .inr (11, (fmo.set 0 (.int 1))))]) [0] (by decide +kernel) rfl
  exact W.zret (v := 1) hx hb hr (by decide) (fun t ht hW => ⟨⟨_, (), rfl, rfl, by rw [ht]; exact hP9, hD9⟩, hS.F ht⟩) hS.2.2 dX11_throwsIf_14

set_option maxHeartbeats 4000000 in
set_option maxRecDepth 100000 in
theorem c_X11_hand (l : Launch) (D : va_G) (y : Nat → ClassId) (sz : Nat) (mo : Nat) (fmo : List Value) (ms : Nat) (fms : Nat → Int32) (p0 : Int32) (p1 : Int32) (hmo_0 : fmo[0]? = some (.int 0)) (hmo_6 : fmo[6]? = some (.ref ms)) (hms_e1 : fms 1 = 0) : Met l yX11_hand (px_w yX11_hand cX11_hand 3 (some .int)) ({ frames := 2, cells := 0, slots := 0, locals := 43 }) (va_Pc [.ref mo, .int p0, .int p1] (px_P D y sz [(mo, .inr (11, fmo)), (ms, .inl (y 1, 765, .inl fms))])) (va_Qi (fun (r : Int32) (u : Unit) => r = 0) (fun (u : Unit) t => va_P D vwCl [(mo, .inr (11, (fmo.set 0 (.int 1)))), (ms, .inl (y 1, 765, .inl fms))] t.heap ∧ va_D (va_A [(mo, .inr (11, fmo)), (ms, .inl (y 1, 765, .inl fms))] sz) [(mo, .inr (11, (fmo.set 0 (.int 1)))), (ms, .inl (y 1, 765, .inl fms))]) (va_A [(mo, .inr (11, fmo)), (ms, .inl (y 1, 765, .inl fms))] sz)) 0 0 (va_A [(mo, .inr (11, fmo)), (ms, .inl (y 1, 765, .inl fms))] sz) := by
  refine Met.ofW (cc := cX11_hand) (maxL := 3) (ret := (some .int)) (by decide) rfl ?_
  intro p e s m args below meth c s₁ B hml hv
  obtain ⟨rfl, hsz, hP, hK, hD0⟩ := hv
  have hx := B.exec
  have hb := B.bytes
  have hr := B.returns
  have hts := atoms_spec (ws := px_w yX11_hand cX11_hand 3 (some .int)) B.pre
  have hg : ∀ w ∈ gw, w.before [.ref mo, .int p0, .int p1].toArray s = true := fun w h => hts w (List.mem_cons_of_mem _ h)
  have hown : s.vm.findClass RX11 = some m.cls := findClass_of_methodNamed B.named
  have hlocks := B.notSynchronized
  subst hsz
  have hD := hD0.self (sz := s.heap.size)
  generalize hAe : va_A [(mo, .inr (11, fmo)), (ms, .inl (y 1, 765, .inl fms))] s.heap.size = A at hD ⊢
  have hA : ∀ q : Nat, s.heap.size ≤ q → A q := fun q h => by rw [← hAe]; exact Or.inr h
  have hS : va_S A s.heap s.heap [] := va_S.rf
  have hP : va_P D vwCl [(mo, .inr (11, fmo)), (ms, .inl (y 1, 765, .inl fms))] s.heap := hP
  have hl := lv_entry ([.ref mo, .int p0, .int p1]) (n := 3) (Nat.le_of_ble_eq_true rfl)
  rw [lg_entry_eq]
  generalize (lg_sl ([.ref mo, .int p0, .int p1]) ++ List.replicate (3 - (lg_sl ([.ref mo, .int p0, .int p1])).length) Slot.unset).toArray = ls at hl ⊢
  have hl : lv_has ls 3 [(0, .ref mo), (1, .int p0), (2, .int p1)] := hl
  refine lv_aload_n hx hb dX11_hand_0 rfl (lv_at hl 0 rfl) ?_
  refine lv_aload_n hx hb dX11_hand_1 rfl (lv_at hl 0 rfl) ?_
  refine lv_iload_n hx hb dX11_hand_2 rfl (lv_at hl 1 rfl) ?_
  have hPc_1 := hP.sub (ws' := [(mo, .inr (11, fmo)), (ms, .inl (y 1, 765, .inl fms))]) [0, 1] rfl
  have hDc_1 := hD.sub (ws' := [(mo, .inr (11, fmo)), (ms, .inl (y 1, 765, .inl fms))]) [0, 1] (by decide +kernel) rfl
  refine vp_callSi (va_Run.run (va_runV (As := [.int p0]) (rest := [.ref mo]) ⟨hx, hb, hml, hown, hg⟩ (c_X11_isPerson l D y s.heap.size mo fmo ms fms p0 hmo_6 hms_e1) (cwV 1 hg (px_gV q_7_195 q_7_197 q_p_81 q_1_15 q_7_198) rfl rfl rfl (by decide +kernel) ⟨Nat.le_of_ble_eq_true rfl, Nat.le_of_ble_eq_true rfl⟩) (px_preV hK hPc_1 hDc_1 (ci := 11) (q0 := 0) rfl rfl) rfl rfl hl.1 rfl (lv_room (Nat.le_of_ble_eq_true rfl)) dX11_hand_3 ⟨Nat.le_of_ble_eq_true rfl, Nat.le_of_ble_eq_true rfl⟩)) (fun r_1 hw_1 => ?_)
  obtain rfl : r_1 = 0 := hw_1
  refine lv_if_eq (tgt := 17) hx hb dX11_hand_6 (by decide) (fun _ => ?_) (fun c_2 => absurd c_2 (by decide))
  refine lv_iconst (v := 1) hx hb dX11_hand_17 (by decide) ?_
  refine lv_goto (tgt := 22) hx hb dX11_hand_18 (by decide) ?_
  have hPc_3 := hP.sub (ws' := [(mo, .inr (11, fmo))]) [0] rfl
  have hDc_3 := hD.sub (ws' := [(mo, .inr (11, fmo))]) [0] (by decide +kernel) rfl
  have hFc_3 := va_free (wc := [(mo, .inr (11, fmo))]) hD hS hA [0] rfl
  refine va_calli (va_runV (As := [.int 1]) (rest := []) ⟨hx, hb, hml, hown, hg⟩ (c_X11_throwsIf l D y s.heap.size mo fmo hmo_0) (cwV 1 hg (px_gV q_7_203 q_7_205 q_p_83 q_1_15 q_7_206) rfl rfl rfl (by decide +kernel) ⟨Nat.le_of_ble_eq_true rfl, Nat.le_of_ble_eq_true rfl⟩) (px_preV hK hPc_3 hDc_3 (ci := 11) (q0 := 0) rfl rfl) rfl rfl hl.1 rfl (lv_room (Nat.le_of_ble_eq_true rfl)) dX11_hand_22 ⟨Nat.le_of_ble_eq_true rfl, Nat.le_of_ble_eq_true rfl⟩) hS (fun q _ h => hFc_3 q h) hFc_3 (fun r_3 u_3 t_3 H1 locs ht_3 hvm_3 hw_3 hB_3 hz_3 hk_3 hS => ?_)
  refine W.cs (cells' := 0) (slots' := 0) rfl rfl ?_
  obtain ⟨hP1_3, hD1_3⟩ := hB_3
  rw [ht_3] at hP1_3
  obtain ⟨hP, hD⟩ := va_join (wr := [(ms, .inl (y 1, 765, .inl fms))]) (w1 := [(mo, .inr (11, (fmo.set 0 (.int 1))))]) hP hD [0] [1] rfl rfl (by decide +kernel) (by decide +kernel) hk_3 hFc_3 hP1_3 hD1_3
  generalize H1 = H at hP hS ⊢
  have hP : va_P D vwCl [(ms, .inl (y 1, 765, .inl fms)), (mo, .inr (11, (fmo.set 0 (.int 1))))] H := hP
  have hD : va_D A [(ms, .inl (y 1, 765, .inl fms)), (mo, .inr (11, (fmo.set 0 (.int 1))))] := hD
  obtain rfl : r_3 = 1 := hw_3
  refine lv_if_eq (tgt := 32) hx hb dX11_hand_25 (by decide) (fun c_4 => absurd c_4 (by decide)) (fun _ => ?_)
  refine lv_iconst (v := 0) hx hb dX11_hand_28 (by decide) ?_
  refine lv_goto (tgt := 39) hx hb dX11_hand_29 (by decide) ?_
  have hP9 := hP.sub (ws' := [(mo, .inr (11, (fmo.set 0 (.int 1)))), (ms, .inl (y 1, 765, .inl fms))]) [1, 0] rfl
  have hD9 := hD.sub (ws' := [(mo, .inr (11, (fmo.set 0 (.int 1)))), (ms, .inl (y 1, 765, .inl fms))]) [1, 0] (by decide +kernel) rfl
  exact W.iret (v := 0) hx hb hr (fun t ht hW => ⟨⟨_, (), rfl, rfl, by rw [ht]; exact hP9, hD9⟩, hS.F ht⟩) hS.2.2 dX11_hand_39

set_option maxHeartbeats 4000000 in
set_option maxRecDepth 100000 in
theorem c_X11_odds (l : Launch) (D : va_G) (y : Nat → ClassId) (sz : Nat) (mo : Nat) (fmo : List Value) (ms : Nat) (fms : Nat → Int32) (p0 : Int32) (p1 : Int32) (p2 : Int32) (p3 : Int32) (hmo_0 : fmo[0]? = some (.int 0)) (hmo_6 : fmo[6]? = some (.ref ms)) (hms_e1 : fms 1 = 0) : Met l yX11_odds (px_w yX11_odds cX11_odds 7 (some .long)) ({ frames := 2, cells := 0, slots := 0, locals := 43 }) (va_Pc [.ref mo, .int p0, .int p1, .int p2, .int p3] (px_P D y sz [(mo, .inr (11, fmo)), (ms, .inl (y 1, 765, .inl fms))])) (va_Ql (fun (r : Int64) (u : Unit) => r = 0) (fun (u : Unit) t => va_P D vwCl [(mo, .inr (11, (fmo.set 0 (.int 1)))), (ms, .inl (y 1, 765, .inl fms))] t.heap ∧ va_D (va_A [(mo, .inr (11, fmo)), (ms, .inl (y 1, 765, .inl fms))] sz) [(mo, .inr (11, (fmo.set 0 (.int 1)))), (ms, .inl (y 1, 765, .inl fms))]) (va_A [(mo, .inr (11, fmo)), (ms, .inl (y 1, 765, .inl fms))] sz)) 0 0 (va_A [(mo, .inr (11, fmo)), (ms, .inl (y 1, 765, .inl fms))] sz) := by
  refine Met.ofW (cc := cX11_odds) (maxL := 7) (ret := (some .long)) (by decide) rfl ?_
  intro p e s m args below meth c s₁ B hml hv
  obtain ⟨rfl, hsz, hP, hK, hD0⟩ := hv
  have hx := B.exec
  have hb := B.bytes
  have hr := B.returns
  have hts := atoms_spec (ws := px_w yX11_odds cX11_odds 7 (some .long)) B.pre
  have hg : ∀ w ∈ gw, w.before [.ref mo, .int p0, .int p1, .int p2, .int p3].toArray s = true := fun w h => hts w (List.mem_cons_of_mem _ h)
  have hown : s.vm.findClass RX11 = some m.cls := findClass_of_methodNamed B.named
  have hlocks := B.notSynchronized
  subst hsz
  have hD := hD0.self (sz := s.heap.size)
  generalize hAe : va_A [(mo, .inr (11, fmo)), (ms, .inl (y 1, 765, .inl fms))] s.heap.size = A at hD ⊢
  have hA : ∀ q : Nat, s.heap.size ≤ q → A q := fun q h => by rw [← hAe]; exact Or.inr h
  have hS : va_S A s.heap s.heap [] := va_S.rf
  have hP : va_P D vwCl [(mo, .inr (11, fmo)), (ms, .inl (y 1, 765, .inl fms))] s.heap := hP
  have hl := lv_entry ([.ref mo, .int p0, .int p1, .int p2, .int p3]) (n := 7) (Nat.le_of_ble_eq_true rfl)
  rw [lg_entry_eq]
  generalize (lg_sl ([.ref mo, .int p0, .int p1, .int p2, .int p3]) ++ List.replicate (7 - (lg_sl ([.ref mo, .int p0, .int p1, .int p2, .int p3])).length) Slot.unset).toArray = ls at hl ⊢
  have hl : lv_has ls 7 [(0, .ref mo), (1, .int p0), (2, .int p1), (3, .int p2), (4, .int p3)] := hl
  refine lv_aload_n hx hb dX11_odds_0 rfl (lv_at hl 0 rfl) ?_
  refine lv_aload_n hx hb dX11_odds_1 rfl (lv_at hl 0 rfl) ?_
  refine lv_iload_n hx hb dX11_odds_2 rfl (lv_at hl 1 rfl) ?_
  have hPc_1 := hP.sub (ws' := [(mo, .inr (11, fmo)), (ms, .inl (y 1, 765, .inl fms))]) [0, 1] rfl
  have hDc_1 := hD.sub (ws' := [(mo, .inr (11, fmo)), (ms, .inl (y 1, 765, .inl fms))]) [0, 1] (by decide +kernel) rfl
  refine vp_callSi (va_Run.run (va_runV (As := [.int p0]) (rest := [.ref mo]) ⟨hx, hb, hml, hown, hg⟩ (c_X11_isPerson l D y s.heap.size mo fmo ms fms p0 hmo_6 hms_e1) (cwV 1 hg (px_gV q_7_195 q_7_197 q_p_81 q_1_15 q_7_198) rfl rfl rfl (by decide +kernel) ⟨Nat.le_of_ble_eq_true rfl, Nat.le_of_ble_eq_true rfl⟩) (px_preV hK hPc_1 hDc_1 (ci := 11) (q0 := 0) rfl rfl) rfl rfl hl.1 rfl (lv_room (Nat.le_of_ble_eq_true rfl)) dX11_odds_3 ⟨Nat.le_of_ble_eq_true rfl, Nat.le_of_ble_eq_true rfl⟩)) (fun r_1 hw_1 => ?_)
  obtain rfl : r_1 = 0 := hw_1
  refine lv_if_eq (tgt := 48) hx hb dX11_odds_6 (by decide) (fun _ => ?_) (fun c_2 => absurd c_2 (by decide))
  refine lv_iconst (v := 1) hx hb dX11_odds_48 (by decide) ?_
  refine lv_goto (tgt := 53) hx hb dX11_odds_49 (by decide) ?_
  have hPc_3 := hP.sub (ws' := [(mo, .inr (11, fmo))]) [0] rfl
  have hDc_3 := hD.sub (ws' := [(mo, .inr (11, fmo))]) [0] (by decide +kernel) rfl
  have hFc_3 := va_free (wc := [(mo, .inr (11, fmo))]) hD hS hA [0] rfl
  refine va_calli (va_runV (As := [.int 1]) (rest := []) ⟨hx, hb, hml, hown, hg⟩ (c_X11_throwsIf l D y s.heap.size mo fmo hmo_0) (cwV 1 hg (px_gV q_7_203 q_7_205 q_p_83 q_1_15 q_7_206) rfl rfl rfl (by decide +kernel) ⟨Nat.le_of_ble_eq_true rfl, Nat.le_of_ble_eq_true rfl⟩) (px_preV hK hPc_3 hDc_3 (ci := 11) (q0 := 0) rfl rfl) rfl rfl hl.1 rfl (lv_room (Nat.le_of_ble_eq_true rfl)) dX11_odds_53 ⟨Nat.le_of_ble_eq_true rfl, Nat.le_of_ble_eq_true rfl⟩) hS (fun q _ h => hFc_3 q h) hFc_3 (fun r_3 u_3 t_3 H1 locs ht_3 hvm_3 hw_3 hB_3 hz_3 hk_3 hS => ?_)
  refine W.cs (cells' := 0) (slots' := 0) rfl rfl ?_
  obtain ⟨hP1_3, hD1_3⟩ := hB_3
  rw [ht_3] at hP1_3
  obtain ⟨hP, hD⟩ := va_join (wr := [(ms, .inl (y 1, 765, .inl fms))]) (w1 := [(mo, .inr (11, (fmo.set 0 (.int 1))))]) hP hD [0] [1] rfl rfl (by decide +kernel) (by decide +kernel) hk_3 hFc_3 hP1_3 hD1_3
  generalize H1 = H at hP hS ⊢
  have hP : va_P D vwCl [(ms, .inl (y 1, 765, .inl fms)), (mo, .inr (11, (fmo.set 0 (.int 1))))] H := hP
  have hD : va_D A [(ms, .inl (y 1, 765, .inl fms)), (mo, .inr (11, (fmo.set 0 (.int 1))))] := hD
  obtain rfl : r_3 = 1 := hw_3
  refine lv_if_eq (tgt := 61) hx hb dX11_odds_56 (by decide) (fun c_4 => absurd c_4 (by decide)) (fun _ => ?_)
  refine lv_lconst (v := 0) hx hb dX11_odds_59 (by decide) ?_
  have hP9 := hP.sub (ws' := [(mo, .inr (11, (fmo.set 0 (.int 1)))), (ms, .inl (y 1, 765, .inl fms))]) [1, 0] rfl
  have hD9 := hD.sub (ws' := [(mo, .inr (11, (fmo.set 0 (.int 1)))), (ms, .inl (y 1, 765, .inl fms))]) [1, 0] (by decide +kernel) rfl
  exact W.lret (v := 0) hx hb hr (fun t ht hW => ⟨⟨_, (), rfl, rfl, by rw [ht]; exact hP9, hD9⟩, hS.F ht⟩) hS.2.2 dX11_odds_60

set_option maxHeartbeats 4000000 in
set_option maxRecDepth 100000 in
theorem c_X11_next_ (l : Launch) (D : va_G) (y : Nat → ClassId) (sz : Nat) (mo : Nat) (fmo : List Value) (ms : Nat) (fms : Nat → Int32) (p0 : Int32) (p1 : Int32) (p2 : Int32) (hmo_0 : fmo[0]? = some (.int 0)) (hmo_6 : fmo[6]? = some (.ref ms)) (hms_e1 : fms 1 = 0) : Met l yX11_next_ (px_w yX11_next_ cX11_next_ 11 (some .long)) ({ frames := 2, cells := 0, slots := 0, locals := 43 }) (va_Pc [.ref mo, .int p0, .int p1, .int p2] (px_P D y sz [(mo, .inr (11, fmo)), (ms, .inl (y 1, 765, .inl fms))])) (va_Ql (fun (r : Int64) (u : Unit) => r = 0) (fun (u : Unit) t => va_P D vwCl [(mo, .inr (11, (fmo.set 0 (.int 1)))), (ms, .inl (y 1, 765, .inl fms))] t.heap ∧ va_D (va_A [(mo, .inr (11, fmo)), (ms, .inl (y 1, 765, .inl fms))] sz) [(mo, .inr (11, (fmo.set 0 (.int 1)))), (ms, .inl (y 1, 765, .inl fms))]) (va_A [(mo, .inr (11, fmo)), (ms, .inl (y 1, 765, .inl fms))] sz)) 0 0 (va_A [(mo, .inr (11, fmo)), (ms, .inl (y 1, 765, .inl fms))] sz) := by
  refine Met.ofW (cc := cX11_next_) (maxL := 11) (ret := (some .long)) (by decide) rfl ?_
  intro p e s m args below meth c s₁ B hml hv
  obtain ⟨rfl, hsz, hP, hK, hD0⟩ := hv
  have hx := B.exec
  have hb := B.bytes
  have hr := B.returns
  have hts := atoms_spec (ws := px_w yX11_next_ cX11_next_ 11 (some .long)) B.pre
  have hg : ∀ w ∈ gw, w.before [.ref mo, .int p0, .int p1, .int p2].toArray s = true := fun w h => hts w (List.mem_cons_of_mem _ h)
  have hown : s.vm.findClass RX11 = some m.cls := findClass_of_methodNamed B.named
  have hlocks := B.notSynchronized
  subst hsz
  have hD := hD0.self (sz := s.heap.size)
  generalize hAe : va_A [(mo, .inr (11, fmo)), (ms, .inl (y 1, 765, .inl fms))] s.heap.size = A at hD ⊢
  have hA : ∀ q : Nat, s.heap.size ≤ q → A q := fun q h => by rw [← hAe]; exact Or.inr h
  have hS : va_S A s.heap s.heap [] := va_S.rf
  have hP : va_P D vwCl [(mo, .inr (11, fmo)), (ms, .inl (y 1, 765, .inl fms))] s.heap := hP
  have hl := lv_entry ([.ref mo, .int p0, .int p1, .int p2]) (n := 11) (Nat.le_of_ble_eq_true rfl)
  rw [lg_entry_eq]
  generalize (lg_sl ([.ref mo, .int p0, .int p1, .int p2]) ++ List.replicate (11 - (lg_sl ([.ref mo, .int p0, .int p1, .int p2])).length) Slot.unset).toArray = ls at hl ⊢
  have hl : lv_has ls 11 [(0, .ref mo), (1, .int p0), (2, .int p1), (3, .int p2)] := hl
  refine lv_aload_n hx hb dX11_next__0 rfl (lv_at hl 0 rfl) ?_
  refine lv_aload_n hx hb dX11_next__1 rfl (lv_at hl 0 rfl) ?_
  refine lv_iload_n hx hb dX11_next__2 rfl (lv_at hl 1 rfl) ?_
  have hPc_1 := hP.sub (ws' := [(mo, .inr (11, fmo)), (ms, .inl (y 1, 765, .inl fms))]) [0, 1] rfl
  have hDc_1 := hD.sub (ws' := [(mo, .inr (11, fmo)), (ms, .inl (y 1, 765, .inl fms))]) [0, 1] (by decide +kernel) rfl
  refine vp_callSi (va_Run.run (va_runV (As := [.int p0]) (rest := [.ref mo]) ⟨hx, hb, hml, hown, hg⟩ (c_X11_isPerson l D y s.heap.size mo fmo ms fms p0 hmo_6 hms_e1) (cwV 1 hg (px_gV q_7_195 q_7_197 q_p_81 q_1_15 q_7_198) rfl rfl rfl (by decide +kernel) ⟨Nat.le_of_ble_eq_true rfl, Nat.le_of_ble_eq_true rfl⟩) (px_preV hK hPc_1 hDc_1 (ci := 11) (q0 := 0) rfl rfl) rfl rfl hl.1 rfl (lv_room (Nat.le_of_ble_eq_true rfl)) dX11_next__3 ⟨Nat.le_of_ble_eq_true rfl, Nat.le_of_ble_eq_true rfl⟩)) (fun r_1 hw_1 => ?_)
  obtain rfl : r_1 = 0 := hw_1
  refine lv_if_eq (tgt := 44) hx hb dX11_next__6 (by decide) (fun _ => ?_) (fun c_2 => absurd c_2 (by decide))
  refine lv_iconst (v := 1) hx hb dX11_next__44 (by decide) ?_
  refine lv_goto (tgt := 49) hx hb dX11_next__45 (by decide) ?_
  have hPc_3 := hP.sub (ws' := [(mo, .inr (11, fmo))]) [0] rfl
  have hDc_3 := hD.sub (ws' := [(mo, .inr (11, fmo))]) [0] (by decide +kernel) rfl
  have hFc_3 := va_free (wc := [(mo, .inr (11, fmo))]) hD hS hA [0] rfl
  refine va_calli (va_runV (As := [.int 1]) (rest := []) ⟨hx, hb, hml, hown, hg⟩ (c_X11_throwsIf l D y s.heap.size mo fmo hmo_0) (cwV 1 hg (px_gV q_7_203 q_7_205 q_p_83 q_1_15 q_7_206) rfl rfl rfl (by decide +kernel) ⟨Nat.le_of_ble_eq_true rfl, Nat.le_of_ble_eq_true rfl⟩) (px_preV hK hPc_3 hDc_3 (ci := 11) (q0 := 0) rfl rfl) rfl rfl hl.1 rfl (lv_room (Nat.le_of_ble_eq_true rfl)) dX11_next__49 ⟨Nat.le_of_ble_eq_true rfl, Nat.le_of_ble_eq_true rfl⟩) hS (fun q _ h => hFc_3 q h) hFc_3 (fun r_3 u_3 t_3 H1 locs ht_3 hvm_3 hw_3 hB_3 hz_3 hk_3 hS => ?_)
  refine W.cs (cells' := 0) (slots' := 0) rfl rfl ?_
  obtain ⟨hP1_3, hD1_3⟩ := hB_3
  rw [ht_3] at hP1_3
  obtain ⟨hP, hD⟩ := va_join (wr := [(ms, .inl (y 1, 765, .inl fms))]) (w1 := [(mo, .inr (11, (fmo.set 0 (.int 1))))]) hP hD [0] [1] rfl rfl (by decide +kernel) (by decide +kernel) hk_3 hFc_3 hP1_3 hD1_3
  generalize H1 = H at hP hS ⊢
  have hP : va_P D vwCl [(ms, .inl (y 1, 765, .inl fms)), (mo, .inr (11, (fmo.set 0 (.int 1))))] H := hP
  have hD : va_D A [(ms, .inl (y 1, 765, .inl fms)), (mo, .inr (11, (fmo.set 0 (.int 1))))] := hD
  obtain rfl : r_3 = 1 := hw_3
  refine lv_if_eq (tgt := 57) hx hb dX11_next__52 (by decide) (fun c_4 => absurd c_4 (by decide)) (fun _ => ?_)
  refine lv_lconst (v := 0) hx hb dX11_next__55 (by decide) ?_
  have hP9 := hP.sub (ws' := [(mo, .inr (11, (fmo.set 0 (.int 1)))), (ms, .inl (y 1, 765, .inl fms))]) [1, 0] rfl
  have hD9 := hD.sub (ws' := [(mo, .inr (11, (fmo.set 0 (.int 1)))), (ms, .inl (y 1, 765, .inl fms))]) [1, 0] (by decide +kernel) rfl
  exact W.lret (v := 0) hx hb hr (fun t ht hW => ⟨⟨_, (), rfl, rfl, by rw [ht]; exact hP9, hD9⟩, hS.F ht⟩) hS.2.2 dX11_next__56
