/-! cells by name: a list of these is read far faster than one of bare pairs -/
abbrev px_g (fs : List Value) (k : Nat) (v : Value) : Prop := fs[k]? = some v
abbrev px_o (a ci : Nat) (fs : List Value) : Nat × va_E := (a, .inr (ci, fs))
abbrev px_i (a : Nat) (cA : ClassId) (n : Nat) (f : Nat → Int32) : Nat × va_E := (a, .inl (cA, n, .inl f))
abbrev px_l (a : Nat) (cA : ClassId) (n : Nat) (f : Nat → Int64) : Nat × va_E := (a, .inl (cA, n, .inr (.inl f)))
abbrev px_q (a : Nat) (cA : ClassId) (n : Nat) (f : Nat → Option Nat) : Nat × va_E := (a, .inl (cA, n, .inr (.inr (.inr (.inr f)))))
/-- what the tables say beside the good words: arrays of objects, and constructors of nest mates -/
def px_X (U : State) : Prop := va_AO "SevenTable$Game" U ∧ va_AO "SevenTable$Sentence" U ∧ va_Nw (.methodLinkNest RX2 68 yX3_init "SevenTable") U ∧ va_Nw (.methodLinkNest RX10 32 yX7_init "SevenTable") U ∧ va_Nw (.methodLinkNest RX8 11 yX7_init "SevenTable") U ∧ va_Nw (.methodLinkNest RX10 69 yX5_init "SevenTable") U
theorem px_X.same {u U : State} (h : u.vm = U.vm) (x : px_X u) : px_X U := ⟨va_AO.moved (by rw [h]; exact Vm.Alike.refl _) x.1, va_AO.moved (by rw [h]; exact Vm.Alike.refl _) x.2.1, va_Nw.same rfl h x.2.2.1, va_Nw.same rfl h x.2.2.2.1, va_Nw.same rfl h x.2.2.2.2.1, va_Nw.same rfl h x.2.2.2.2.2⟩
theorem px_X.warm {s U : State} (hW : s.WarmedH U.vm) (x : px_X s) : px_X U := ⟨va_AO.moved hW.alike x.1, va_AO.moved hW.alike x.2.1, va_Nw.warmM hW x.2.2.1, va_Nw.warmM hW x.2.2.2.1, va_Nw.warmM hW x.2.2.2.2.1, va_Nw.warmM hW x.2.2.2.2.2⟩
theorem px_blindX {D : va_G} {y : Nat → ClassId} {sz : Nat} {ws : va_W} {av : List Value} : FrameBlind (va_Pc av (fun U => px_P D y sz ws U ∧ px_X U)) := fun a U g mk q => ⟨q.1, (px_blind (D := D) (y := y) (sz := sz) (ws := ws) (av := av) a U g mk ⟨q.1, q.2.1⟩).2, px_X.same (u := U) (U := U.calling g mk a) rfl q.2.2⟩
theorem px_preSao {D : va_G} {y : Nat → ClassId} {A : Nat → Prop} {s : State} {H : Heap} {ws : va_W} {As : List Value} (hK : va_K D vwCl (px_tys y) s) (hP : va_P D vwCl ws H) (hD : va_D A ws) (hX : px_X s) : PreS s H (va_Pc As (fun U => px_P D y H.size ws U ∧ px_X U)) As :=
  ⟨px_blindX, fun U hU hW => ⟨rfl, ⟨by rw [hU], by rw [hU]; exact hP, va_K.moved hW.alike hK, hD.weaken (fun _ _ _ _ => trivial)⟩, hX.warm hW⟩⟩
theorem px_preVao {D : va_G} {y : Nat → ClassId} {A : Nat → Prop} {s : State} {H : Heap} {ws : va_W} {As : List Value} {b q0 ci : Nat} {q : vw_C} {fs : List Value} (hK : va_K D vwCl (px_tys y) s) (hP : va_P D vwCl ws H) (hD : va_D A ws) (hX : px_X s) (hc : vwCl[ci]? = some q) (he : ws[q0]? = some (b, .inr (ci, fs))) : PreV s H q.1 b (va_Pc (.ref b :: As) (fun U => px_P D y H.size ws U ∧ px_X U)) As :=
  ⟨px_blindX, va_recv hK hP hc he, fun U hU hW => ⟨rfl, ⟨by rw [hU], by rw [hU]; exact hP, va_K.moved hW.alike hK, hD.weaken (fun _ _ _ _ => trivial)⟩, hX.warm hW⟩⟩
theorem px_aint (n : Nat) (cA : ClassId) : vp_cell cA (n, .inl (fun _ => 0)) = arrV cA n (fun _ => defaultValue .int) := rfl
theorem px_abyte (n : Nat) (cA : ClassId) : vp_cell cA (n, .inl (fun _ => 0)) = arrV cA n (fun _ => defaultValue .byte) := rfl
theorem px_aboolean (n : Nat) (cA : ClassId) : vp_cell cA (n, .inl (fun _ => 0)) = arrV cA n (fun _ => defaultValue .boolean) := rfl
theorem px_along (n : Nat) (cA : ClassId) : vp_cell cA (n, .inr (.inl (fun _ => 0))) = arrV cA n (fun _ => defaultValue .long) := rfl
