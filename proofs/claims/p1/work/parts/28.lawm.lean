set_option maxHeartbeats 4000000 in
set_option maxRecDepth 100000 in
theorem c_L_hand (l : Launch) (D : va_G) (y : Nat → ClassId) (sz : Nat) (ad : Nat → Nat) (bb : Nat → Int32) (hst : l.stackTraces = false) (x : Nat) (ou : Nat) (fx : List Value) (g : Nat) (fg : List Value) (p0 : Int32) (p1 : Int32) (hx_3 : px_g fx 3 (.ref g)) (hg_1 : px_g fg 1 (.int 0)) : Met l yL_hand (px_wW yL_hand cL_hand 5 (some .int) [(0, 10, 13, 13)]) ({ frames := 7, cells := 1, slots := 6, locals := 104 }) (va_Pc [.ref x, .int p0, .int p1, .ref ou] (fun U => px_P D y sz [px_o x 10 fx, px_o g 2 fg] U ∧ px_Y ad bb (va_A [px_o x 10 fx, px_o g 2 fg] sz) U U.heap)) (va_Qi (fun (r : Int32) (u : Unit) => r = 1) (fun (u : Unit) t => True) (va_A [px_o x 10 fx, px_o g 2 fg] sz)) 1 6 (va_A [px_o x 10 fx, px_o g 2 fg] sz) := by
  refine va_MetW (cc := cL_hand) (maxL := 5) (ret := (some .int)) (hh := [(0, 10, 13, 13)]) (by decide) rfl ?_
  intro p e s m args below meth c s₁ B hml hv
  obtain ⟨rfl, ⟨hsz, hP, hK, hD0⟩, hYY⟩ := hv
  have hXX := hYY.x
  have haoG := hXX.1
  have haoS := hXX.2.1
  have hx := B.exec
  have hb := B.bytes
  have hr := B.returns
  have hts := atoms_spec (ws := px_wW yL_hand cL_hand 5 (some .int) [(0, 10, 13, 13)]) B.pre
  have htab := vx_table (x := yL_hand) B (hts _ List.mem_cons_self)
  have hg : ∀ w ∈ gw, w.before [.ref x, .int p0, .int p1, .ref ou].toArray s = true := fun w h => hts w (List.mem_cons_of_mem _ h)
  have hown : s.vm.findClass RL = some m.cls := findClass_of_methodNamed B.named
  have hlocks := B.notSynchronized
  subst hsz
  have hD := hD0.self (sz := s.heap.size)
  generalize hAe : va_A [px_o x 10 fx, px_o g 2 fg] s.heap.size = A at hD hYY ⊢
  have hA : ∀ q : Nat, s.heap.size ≤ q → A q := fun q h => by rw [← hAe]; exact Or.inr h
  have hS : va_S A s.heap s.heap [] := va_S.rf
  have hP : va_P D vwCl [px_o x 10 fx, px_o g 2 fg] s.heap := hP
  have hl := lv_entry ([.ref x, .int p0, .int p1, .ref ou]) (n := 5) (Nat.le_of_ble_eq_true rfl)
  rw [lg_entry_eq]
  generalize (lg_sl ([.ref x, .int p0, .int p1, .ref ou]) ++ List.replicate (5 - (lg_sl ([.ref x, .int p0, .int p1, .ref ou])).length) Slot.unset).toArray = ls at hl ⊢
  have hl : lv_has ls 5 [(0, .ref x), (1, .int p0), (2, .int p1), (3, .ref ou)] := hl
  refine lv_aload_n hx hb dL_hand_0 rfl (lv_at hl 3 rfl) ?_
  refine lv_iconst (v := 0) hx hb dL_hand_1 (by decide) ?_
  refine lv_aload_n hx hb dL_hand_2 rfl (lv_at hl 0 rfl) ?_
  refine lv_iload_n hx hb dL_hand_3 rfl (lv_at hl 1 rfl) ?_
  refine lv_iload_n hx hb dL_hand_4 rfl (lv_at hl 2 rfl) ?_
  have hPc_1 := hP.sub (ws' := [px_o x 10 fx, px_o g 2 fg]) [0, 1] rfl
  have hDc_1 := hD.sub (ws' := [px_o x 10 fx, px_o g 2 fg]) [0, 1] (by decide +kernel) rfl
  have hFc_1 := va_free (wc := [px_o x 10 fx, px_o g 2 fg]) hD hS hA [0, 1] rfl
  refine vx_calli (vx_runV (As := [.int p0, .int p1]) (rest := [.int 0, .ref ou]) ⟨hx, hb, hml, hown, hg⟩ (c_X10_hand l D y s.heap.size ad bb hst x fx g fg p0 p1 hx_3 hg_1) (cwV 2 hg (px_gV q_5_229 q_5_230 q_5_231 q_1_1 q_5_232) rfl rfl rfl (by decide +kernel) ⟨Nat.le_of_ble_eq_true rfl, Nat.le_of_ble_eq_true rfl⟩) (px_preVY hK hPc_1 hDc_1 hYY hS hFc_1 (ci := 10) (q0 := 0) rfl rfl) rfl rfl hl.1 rfl (lv_room (Nat.le_of_ble_eq_true rfl)) dL_hand_5 ⟨Nat.le_of_ble_eq_true rfl, Nat.le_of_ble_eq_true rfl⟩) hS (fun q _ h => hFc_1 q h) hFc_1 (fun q _ h => hFc_1 q h) (fun E ce q9 u t H1 locs1 ht hvm hpu hBE hz hk hS1 hce hcv hcl => ?_) (fun r u t H1 locs1 ht hvm hw hB hz hk hS1 => hw.elim)
  obtain rfl : E = px_nse := hBE
  refine vx_catch hown [] ⟨0, 10, 13, 13⟩ [] htab (fun z h => by cases h) rfl (by decide) (hg _ q_5_228) (va_Nw.use rfl hYY.e.2.2.2.2.2) hce hcv hcl ?_
  refine W.eq (g2 := F0 m 13 ls [.ref q9]) rfl ?_
  clear hP hD hS
  have hS := hS1
  refine W.cs (cells' := 1) (slots' := 6) rfl rfl ?_
  refine lv_astore (lv' := [(4, .ref q9), (0, .ref x), (1, .int p0), (2, .int p1), (3, .ref ou)]) hx hb dL_hand_13 hl (by decide) rfl (fun ls hl => ?_)
  refine lv_iconst (v := 1) hx hb dL_hand_15 (by decide) ?_
  exact W.iret (v := 1) hx hb hr (fun t ht hW => ⟨⟨_, (), rfl, rfl, trivial⟩, hS.F ht⟩) hS.2.2 dL_hand_16

set_option maxHeartbeats 4000000 in
set_option maxRecDepth 100000 in
theorem c_L_odds (l : Launch) (D : va_G) (y : Nat → ClassId) (sz : Nat) (ad : Nat → Nat) (bb : Nat → Int32) (hst : l.stackTraces = false) (x : Nat) (ou : Nat) (fx : List Value) (g : Nat) (fg : List Value) (p0 : Int32) (p1 : Int32) (p2 : Int32) (p3 : Int32) (hx_3 : px_g fx 3 (.ref g)) (hg_1 : px_g fg 1 (.int 0)) : Met l yL_odds (px_wW yL_odds cL_odds 7 (some .int) [(0, 13, 16, 13)]) ({ frames := 7, cells := 1, slots := 6, locals := 107 }) (va_Pc [.ref x, .int p0, .int p1, .int p2, .int p3, .ref ou] (fun U => px_P D y sz [px_o x 10 fx, px_o g 2 fg] U ∧ px_Y ad bb (va_A [px_o x 10 fx, px_o g 2 fg] sz) U U.heap)) (va_Qi (fun (r : Int32) (u : Unit) => r = 1) (fun (u : Unit) t => True) (va_A [px_o x 10 fx, px_o g 2 fg] sz)) 1 6 (va_A [px_o x 10 fx, px_o g 2 fg] sz) := by
  refine va_MetW (cc := cL_odds) (maxL := 7) (ret := (some .int)) (hh := [(0, 13, 16, 13)]) (by decide) rfl ?_
  intro p e s m args below meth c s₁ B hml hv
  obtain ⟨rfl, ⟨hsz, hP, hK, hD0⟩, hYY⟩ := hv
  have hXX := hYY.x
  have haoG := hXX.1
  have haoS := hXX.2.1
  have hx := B.exec
  have hb := B.bytes
  have hr := B.returns
  have hts := atoms_spec (ws := px_wW yL_odds cL_odds 7 (some .int) [(0, 13, 16, 13)]) B.pre
  have htab := vx_table (x := yL_odds) B (hts _ List.mem_cons_self)
  have hg : ∀ w ∈ gw, w.before [.ref x, .int p0, .int p1, .int p2, .int p3, .ref ou].toArray s = true := fun w h => hts w (List.mem_cons_of_mem _ h)
  have hown : s.vm.findClass RL = some m.cls := findClass_of_methodNamed B.named
  have hlocks := B.notSynchronized
  subst hsz
  have hD := hD0.self (sz := s.heap.size)
  generalize hAe : va_A [px_o x 10 fx, px_o g 2 fg] s.heap.size = A at hD hYY ⊢
  have hA : ∀ q : Nat, s.heap.size ≤ q → A q := fun q h => by rw [← hAe]; exact Or.inr h
  have hS : va_S A s.heap s.heap [] := va_S.rf
  have hP : va_P D vwCl [px_o x 10 fx, px_o g 2 fg] s.heap := hP
  have hl := lv_entry ([.ref x, .int p0, .int p1, .int p2, .int p3, .ref ou]) (n := 7) (Nat.le_of_ble_eq_true rfl)
  rw [lg_entry_eq]
  generalize (lg_sl ([.ref x, .int p0, .int p1, .int p2, .int p3, .ref ou]) ++ List.replicate (7 - (lg_sl ([.ref x, .int p0, .int p1, .int p2, .int p3, .ref ou])).length) Slot.unset).toArray = ls at hl ⊢
  have hl : lv_has ls 7 [(0, .ref x), (1, .int p0), (2, .int p1), (3, .int p2), (4, .int p3), (5, .ref ou)] := hl
  refine lv_aload hx hb dL_odds_0 (lv_at hl 5 rfl) ?_
  refine lv_iconst (v := 0) hx hb dL_odds_2 (by decide) ?_
  refine lv_aload_n hx hb dL_odds_3 rfl (lv_at hl 0 rfl) ?_
  refine lv_iload_n hx hb dL_odds_4 rfl (lv_at hl 1 rfl) ?_
  refine lv_iload_n hx hb dL_odds_5 rfl (lv_at hl 2 rfl) ?_
  refine lv_iload_n hx hb dL_odds_6 rfl (lv_at hl 3 rfl) ?_
  refine lv_iload hx hb dL_odds_7 (lv_at hl 4 rfl) ?_
  have hPc_1 := hP.sub (ws' := [px_o x 10 fx, px_o g 2 fg]) [0, 1] rfl
  have hDc_1 := hD.sub (ws' := [px_o x 10 fx, px_o g 2 fg]) [0, 1] (by decide +kernel) rfl
  have hFc_1 := va_free (wc := [px_o x 10 fx, px_o g 2 fg]) hD hS hA [0, 1] rfl
  refine vx_calll (vx_runV (As := [.int p0, .int p1, .int p2, .int p3]) (rest := [.int 0, .ref ou]) ⟨hx, hb, hml, hown, hg⟩ (c_X10_odds l D y s.heap.size ad bb hst x fx g fg p0 p1 p2 p3 hx_3 hg_1) (cwV 4 hg (px_gV q_6_61 q_6_62 q_6_63 q_1_1 q_6_64) rfl rfl rfl (by decide +kernel) ⟨Nat.le_of_ble_eq_true rfl, Nat.le_of_ble_eq_true rfl⟩) (px_preVY hK hPc_1 hDc_1 hYY hS hFc_1 (ci := 10) (q0 := 0) rfl rfl) rfl rfl hl.1 rfl (lv_room (Nat.le_of_ble_eq_true rfl)) dL_odds_9 ⟨Nat.le_of_ble_eq_true rfl, Nat.le_of_ble_eq_true rfl⟩) hS (fun q _ h => hFc_1 q h) hFc_1 (fun q _ h => hFc_1 q h) (fun E ce q9 u t H1 locs1 ht hvm hpu hBE hz hk hS1 hce hcv hcl => ?_) (fun r u t H1 locs1 ht hvm hw hB hz hk hS1 => hw.elim)
  obtain rfl : E = px_nse := hBE
  refine vx_catch hown [] ⟨0, 13, 16, 13⟩ [] htab (fun z h => by cases h) rfl (by decide) (hg _ q_5_228) (va_Nw.use rfl hYY.e.2.2.2.2.2) hce hcv hcl ?_
  refine W.eq (g2 := F0 m 16 ls [.ref q9]) rfl ?_
  clear hP hD hS
  have hS := hS1
  refine W.cs (cells' := 1) (slots' := 6) rfl rfl ?_
  refine lv_astore (lv' := [(6, .ref q9), (0, .ref x), (1, .int p0), (2, .int p1), (3, .int p2), (4, .int p3), (5, .ref ou)]) hx hb dL_odds_16 hl (by decide) rfl (fun ls hl => ?_)
  refine lv_iconst (v := 1) hx hb dL_odds_18 (by decide) ?_
  exact W.iret (v := 1) hx hb hr (fun t ht hW => ⟨⟨_, (), rfl, rfl, trivial⟩, hS.F ht⟩) hS.2.2 dL_odds_19

set_option maxHeartbeats 4000000 in
set_option maxRecDepth 100000 in
theorem c_L_next (l : Launch) (D : va_G) (y : Nat → ClassId) (sz : Nat) (ad : Nat → Nat) (bb : Nat → Int32) (hst : l.stackTraces = false) (x : Nat) (ou : Nat) (fx : List Value) (g : Nat) (fg : List Value) (p0 : Int32) (p1 : Int32) (p2 : Int32) (hx_3 : px_g fx 3 (.ref g)) (hg_1 : px_g fg 1 (.int 0)) : Met l yL_next (px_wW yL_next cL_next 6 (some .int) [(0, 11, 14, 13)]) ({ frames := 7, cells := 1, slots := 6, locals := 107 }) (va_Pc [.ref x, .int p0, .int p1, .int p2, .ref ou] (fun U => px_P D y sz [px_o x 10 fx, px_o g 2 fg] U ∧ px_Y ad bb (va_A [px_o x 10 fx, px_o g 2 fg] sz) U U.heap)) (va_Qi (fun (r : Int32) (u : Unit) => r = 1) (fun (u : Unit) t => True) (va_A [px_o x 10 fx, px_o g 2 fg] sz)) 1 6 (va_A [px_o x 10 fx, px_o g 2 fg] sz) := by
  refine va_MetW (cc := cL_next) (maxL := 6) (ret := (some .int)) (hh := [(0, 11, 14, 13)]) (by decide) rfl ?_
  intro p e s m args below meth c s₁ B hml hv
  obtain ⟨rfl, ⟨hsz, hP, hK, hD0⟩, hYY⟩ := hv
  have hXX := hYY.x
  have haoG := hXX.1
  have haoS := hXX.2.1
  have hx := B.exec
  have hb := B.bytes
  have hr := B.returns
  have hts := atoms_spec (ws := px_wW yL_next cL_next 6 (some .int) [(0, 11, 14, 13)]) B.pre
  have htab := vx_table (x := yL_next) B (hts _ List.mem_cons_self)
  have hg : ∀ w ∈ gw, w.before [.ref x, .int p0, .int p1, .int p2, .ref ou].toArray s = true := fun w h => hts w (List.mem_cons_of_mem _ h)
  have hown : s.vm.findClass RL = some m.cls := findClass_of_methodNamed B.named
  have hlocks := B.notSynchronized
  subst hsz
  have hD := hD0.self (sz := s.heap.size)
  generalize hAe : va_A [px_o x 10 fx, px_o g 2 fg] s.heap.size = A at hD hYY ⊢
  have hA : ∀ q : Nat, s.heap.size ≤ q → A q := fun q h => by rw [← hAe]; exact Or.inr h
  have hS : va_S A s.heap s.heap [] := va_S.rf
  have hP : va_P D vwCl [px_o x 10 fx, px_o g 2 fg] s.heap := hP
  have hl := lv_entry ([.ref x, .int p0, .int p1, .int p2, .ref ou]) (n := 6) (Nat.le_of_ble_eq_true rfl)
  rw [lg_entry_eq]
  generalize (lg_sl ([.ref x, .int p0, .int p1, .int p2, .ref ou]) ++ List.replicate (6 - (lg_sl ([.ref x, .int p0, .int p1, .int p2, .ref ou])).length) Slot.unset).toArray = ls at hl ⊢
  have hl : lv_has ls 6 [(0, .ref x), (1, .int p0), (2, .int p1), (3, .int p2), (4, .ref ou)] := hl
  refine lv_aload hx hb dL_next_0 (lv_at hl 4 rfl) ?_
  refine lv_iconst (v := 0) hx hb dL_next_2 (by decide) ?_
  refine lv_aload_n hx hb dL_next_3 rfl (lv_at hl 0 rfl) ?_
  refine lv_iload_n hx hb dL_next_4 rfl (lv_at hl 1 rfl) ?_
  refine lv_iload_n hx hb dL_next_5 rfl (lv_at hl 2 rfl) ?_
  refine lv_iload_n hx hb dL_next_6 rfl (lv_at hl 3 rfl) ?_
  have hPc_1 := hP.sub (ws' := [px_o x 10 fx, px_o g 2 fg]) [0, 1] rfl
  have hDc_1 := hD.sub (ws' := [px_o x 10 fx, px_o g 2 fg]) [0, 1] (by decide +kernel) rfl
  have hFc_1 := va_free (wc := [px_o x 10 fx, px_o g 2 fg]) hD hS hA [0, 1] rfl
  refine vx_calll (vx_runV (As := [.int p0, .int p1, .int p2]) (rest := [.int 0, .ref ou]) ⟨hx, hb, hml, hown, hg⟩ (c_X10_next l D y s.heap.size ad bb hst x fx g fg p0 p1 p2 hx_3 hg_1) (cwV 3 hg (px_gV q_6_74 q_6_75 q_6_76 q_1_1 q_6_77) rfl rfl rfl (by decide +kernel) ⟨Nat.le_of_ble_eq_true rfl, Nat.le_of_ble_eq_true rfl⟩) (px_preVY hK hPc_1 hDc_1 hYY hS hFc_1 (ci := 10) (q0 := 0) rfl rfl) rfl rfl hl.1 rfl (lv_room (Nat.le_of_ble_eq_true rfl)) dL_next_7 ⟨Nat.le_of_ble_eq_true rfl, Nat.le_of_ble_eq_true rfl⟩) hS (fun q _ h => hFc_1 q h) hFc_1 (fun q _ h => hFc_1 q h) (fun E ce q9 u t H1 locs1 ht hvm hpu hBE hz hk hS1 hce hcv hcl => ?_) (fun r u t H1 locs1 ht hvm hw hB hz hk hS1 => hw.elim)
  obtain rfl : E = px_nse := hBE
  refine vx_catch hown [] ⟨0, 11, 14, 13⟩ [] htab (fun z h => by cases h) rfl (by decide) (hg _ q_5_228) (va_Nw.use rfl hYY.e.2.2.2.2.2) hce hcv hcl ?_
  refine W.eq (g2 := F0 m 14 ls [.ref q9]) rfl ?_
  clear hP hD hS
  have hS := hS1
  refine W.cs (cells' := 1) (slots' := 6) rfl rfl ?_
  refine lv_astore (lv' := [(5, .ref q9), (0, .ref x), (1, .int p0), (2, .int p1), (3, .int p2), (4, .ref ou)]) hx hb dL_next_14 hl (by decide) rfl (fun ls hl => ?_)
  refine lv_iconst (v := 1) hx hb dL_next_16 (by decide) ?_
  exact W.iret (v := 1) hx hb hr (fun t ht hW => ⟨⟨_, (), rfl, rfl, trivial⟩, hS.F ht⟩) hS.2.2 dL_next_17

