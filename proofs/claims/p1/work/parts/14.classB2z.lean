/-! cells by name: a list of these is read far faster than one of bare pairs -/
abbrev px_g (fs : List Value) (k : Nat) (v : Value) : Prop := fs[k]? = some v
abbrev px_o (a ci : Nat) (fs : List Value) : Nat × va_E := (a, .inr (ci, fs))
abbrev px_i (a : Nat) (cA : ClassId) (n : Nat) (f : Nat → Int32) : Nat × va_E := (a, .inl (cA, n, .inl f))
abbrev px_l (a : Nat) (cA : ClassId) (n : Nat) (f : Nat → Int64) : Nat × va_E := (a, .inl (cA, n, .inr (.inl f)))
abbrev px_q (a : Nat) (cA : ClassId) (n : Nat) (f : Nat → Option Nat) : Nat × va_E := (a, .inl (cA, n, .inr (.inr (.inr (.inr f)))))
theorem px_preSao {D : va_G} {y : Nat → ClassId} {A : Nat → Prop} {s : State} {H : Heap} {ws : va_W} {As : List Value} (hK : va_K D vwCl (px_tys y) s) (hP : va_P D vwCl ws H) (hD : va_D A ws) (hG : va_AO "SevenTable$Game" s) (hT : va_AO "SevenTable$Sentence" s) : PreS s H (va_Pc As (fun U => px_P D y H.size ws U ∧ va_AO "SevenTable$Game" U ∧ va_AO "SevenTable$Sentence" U)) As :=
  ⟨fun a U g mk q => ⟨q.1, ⟨q.2.1.1, q.2.1.2.1, va_K.moved (u := U) (U := U.calling g mk a) (Vm.Alike.refl U.vm) q.2.1.2.2.1, q.2.1.2.2.2⟩, va_AO.moved (u := U) (U := U.calling g mk a) (Vm.Alike.refl U.vm) q.2.2.1, va_AO.moved (u := U) (U := U.calling g mk a) (Vm.Alike.refl U.vm) q.2.2.2⟩, fun U hU hW => ⟨rfl, ⟨by rw [hU], by rw [hU]; exact hP, va_K.moved hW.alike hK, hD.weaken (fun _ _ _ _ => trivial)⟩, va_AO.moved hW.alike hG, va_AO.moved hW.alike hT⟩⟩
