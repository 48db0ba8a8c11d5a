/-! what the start gives beside the tables: the String constants, the statics that String's and Throwable's methods read -/
abbrev px_nse : String := "java/util/NoSuchElementException"
def px_T (ad : Nat → Nat) (bb : Nat → Int32) (A : Nat → Prop) (U : State) (H : Heap) : Prop :=
  va_O "java/lang/String" (ad 0) A U H ∧ va_OF "java/lang/String" "coder" "B" (.int 0) (ad 0) A U H ∧ va_OF "java/lang/String" "value" "[B" (.ref (ad 1)) (ad 0) A U H ∧ va_T .byte (ad 1) 101 (fun j => .int (bb j)) A U H ∧ va_Z "java/lang/String" "COMPACT_STRINGS" "Z" (.int 1) A U H ∧ va_Zq "jdk/internal/util/Preconditions" "SIOOBE_FORMATTER" "Ljava/util/function/BiFunction;" A U H
def px_R (ad : Nat → Nat) (U : State) : Prop :=
  vk_R RX6 48 "kinds person hand heap again refill asks gives no or and not book known held hands heaped most place " (ad 0) U ∧ vk_R RX10 147 "no such person or kind" (ad 2) U ∧ vk_R RX10 243 "no such persons, kind or part" (ad 3) U ∧ vk_R RX10 269 "no such person, kind or part" (ad 4) U
def px_E (A : Nat → Prop) (U : State) (H : Heap) : Prop :=
  vx_Zq Bundle.tN "UNASSIGNED_STACK" Bundle.steD A U H ∧ vx_Zq Bundle.tN "SUPPRESSED_SENTINEL" Bundle.listD A U H ∧ va_Nw (.declares ⟨"java/lang/RuntimeException", "<init>", "(Ljava/lang/String;)V"⟩) U ∧ va_Nw (.declares ⟨"java/lang/Exception", "<init>", "(Ljava/lang/String;)V"⟩) U ∧ va_Nw (.declares ⟨"java/lang/Throwable", "<init>", "(Ljava/lang/String;)V"⟩) U ∧ va_Nw (.castable px_nse px_nse) U
def px_Y (ad : Nat → Nat) (bb : Nat → Int32) (A : Nat → Prop) (U : State) (H : Heap) : Prop := px_X U ∧ px_T ad bb A U H ∧ px_R ad U ∧ px_E A U H
section PXY
variable {ad : Nat → Nat} {bb : Nat → Int32} {A B : Nat → Prop} {s u U : State} {H H1 : Heap}
theorem px_T.moved (hvm : u.vm.Alike U.vm) (h : px_T ad bb A u H) : px_T ad bb A U H := ⟨va_O.moved hvm h.1, va_OF.moved hvm h.2.1, va_OF.moved hvm h.2.2.1, va_T.moved hvm h.2.2.2.1, va_Z.moved hvm h.2.2.2.2.1, va_Zq.moved hvm h.2.2.2.2.2⟩
theorem px_T.kept (h : px_T ad bb A U H) (hq : ∀ a : Nat, a < H.size → ¬ A a → H1[a]? = H[a]?) : px_T ad bb A U H1 := ⟨h.1.kept hq, h.2.1.kept hq, h.2.2.1.kept hq, h.2.2.2.1.kept hq, h.2.2.2.2.1.kept hq, h.2.2.2.2.2.kept hq⟩
theorem px_T.narrow (h : px_T ad bb A U H) (hAB : ∀ q, B q → A q) : px_T ad bb B U H := ⟨h.1.narrow hAB, h.2.1.narrow hAB, h.2.2.1.narrow hAB, h.2.2.2.1.narrow hAB, h.2.2.2.2.1.narrow hAB, h.2.2.2.2.2.narrow hAB⟩
theorem px_R.same (hv : U.vm = u.vm) (h : px_R ad u) : px_R ad U := ⟨vk_R.same hv h.1, vk_R.same hv h.2.1, vk_R.same hv h.2.2.1, vk_R.same hv h.2.2.2⟩
theorem px_R.warm (hW : s.WarmedH U.vm) (h : px_R ad s) : px_R ad U := ⟨vk_R.warm hW h.1, vk_R.warm hW h.2.1, vk_R.warm hW h.2.2.1, vk_R.warm hW h.2.2.2⟩
theorem px_E.same (hv : u.vm = U.vm) (h : px_E A u H) : px_E A U H := ⟨vx_Zq.moved (by rw [hv]; exact Vm.Alike.refl _) h.1, vx_Zq.moved (by rw [hv]; exact Vm.Alike.refl _) h.2.1, va_Nw.same rfl hv h.2.2.1, va_Nw.same rfl hv h.2.2.2.1, va_Nw.same rfl hv h.2.2.2.2.1, va_Nw.same rfl hv h.2.2.2.2.2⟩
theorem px_E.warm (hW : s.WarmedH U.vm) (h : px_E A s H) : px_E A U H := ⟨vx_Zq.moved hW.alike h.1, vx_Zq.moved hW.alike h.2.1, va_Nw.warmD hW h.2.2.1, va_Nw.warmD hW h.2.2.2.1, va_Nw.warmD hW h.2.2.2.2.1, va_Nw.warmC hW h.2.2.2.2.2⟩
theorem px_E.kept (h : px_E A U H) (hq : ∀ a : Nat, a < H.size → ¬ A a → H1[a]? = H[a]?) : px_E A U H1 := ⟨h.1.kept hq, h.2.1.kept hq, h.2.2⟩
theorem px_E.narrow (h : px_E A U H) (hAB : ∀ q, B q → A q) : px_E B U H := ⟨h.1.narrow hAB, h.2.1.narrow hAB, h.2.2⟩
theorem px_Y.same (hv : u.vm = U.vm) (h : px_Y ad bb A u H) : px_Y ad bb A U H := ⟨px_X.same hv h.1, px_T.moved (by rw [hv]; exact Vm.Alike.refl _) h.2.1, px_R.same hv.symm h.2.2.1, px_E.same hv h.2.2.2⟩
theorem px_Y.warm (hW : s.WarmedH U.vm) (h : px_Y ad bb A s H) : px_Y ad bb A U H := ⟨px_X.warm hW h.1, px_T.moved hW.alike h.2.1, px_R.warm hW h.2.2.1, px_E.warm hW h.2.2.2⟩
theorem px_Y.kept (h : px_Y ad bb A U H) (hq : ∀ a : Nat, a < H.size → ¬ A a → H1[a]? = H[a]?) : px_Y ad bb A U H1 := ⟨h.1, h.2.1.kept hq, h.2.2.1, h.2.2.2.kept hq⟩
theorem px_Y.narrow (h : px_Y ad bb A U H) (hAB : ∀ q, B q → A q) : px_Y ad bb B U H := ⟨h.1, h.2.1.narrow hAB, h.2.2.1, h.2.2.2.narrow hAB⟩
theorem px_Y.call {H0 : Heap} {locs : List Loc} (h : px_Y ad bb A s H0) (hS : va_S A H0 H locs) (hF : ∀ q, B q → A q) (hU : U.heap = H) (hW : s.WarmedH U.vm) : px_Y ad bb B U U.heap := by
  rw [hU]; exact (px_Y.warm hW (h.kept hS.2.1)).narrow hF
theorem px_Y.x (h : px_Y ad bb A U H) : px_X U := h.1
theorem px_Y.o (h : px_Y ad bb A U H) : va_O "java/lang/String" (ad 0) A U H := h.2.1.1
theorem px_Y.co (h : px_Y ad bb A U H) : va_OF "java/lang/String" "coder" "B" (.int 0) (ad 0) A U H := h.2.1.2.1
theorem px_Y.va (h : px_Y ad bb A U H) : va_OF "java/lang/String" "value" "[B" (.ref (ad 1)) (ad 0) A U H := h.2.1.2.2.1
theorem px_Y.t (h : px_Y ad bb A U H) : va_T .byte (ad 1) 101 (fun j => .int (bb j)) A U H := h.2.1.2.2.2.1
theorem px_Y.z (h : px_Y ad bb A U H) : va_Z "java/lang/String" "COMPACT_STRINGS" "Z" (.int 1) A U H := h.2.1.2.2.2.2.1
theorem px_Y.zq (h : px_Y ad bb A U H) : va_Zq "jdk/internal/util/Preconditions" "SIOOBE_FORMATTER" "Ljava/util/function/BiFunction;" A U H := h.2.1.2.2.2.2.2
theorem px_Y.r (h : px_Y ad bb A U H) : px_R ad U := h.2.2.1
theorem px_Y.e (h : px_Y ad bb A U H) : px_E A U H := h.2.2.2
theorem px_blindY {D : va_G} {y : Nat → ClassId} {sz : Nat} {ws : va_W} {av : List Value} : FrameBlind (va_Pc av (fun U => px_P D y sz ws U ∧ px_Y ad bb (va_A ws sz) U U.heap)) := fun a U g mk q => ⟨q.1, (px_blind (D := D) (y := y) (sz := sz) (ws := ws) (av := av) a U g mk ⟨q.1, q.2.1⟩).2, px_Y.same (u := U) (U := U.calling g mk a) rfl q.2.2⟩
theorem px_preSY {D : va_G} {y : Nat → ClassId} {ws : va_W} {As : List Value} {H0 : Heap} {A0 : Nat → Prop} {locs : List Loc} (hK : va_K D vwCl (px_tys y) s) (hP : va_P D vwCl ws H) (hD : va_D A ws) (hY : px_Y ad bb A0 s H0) (hS : va_S A0 H0 H locs) (hF : ∀ q, va_A ws H.size q → A0 q) : PreS s H (va_Pc As (fun U => px_P D y H.size ws U ∧ px_Y ad bb (va_A ws H.size) U U.heap)) As :=
  ⟨px_blindY, fun U hU hW => ⟨rfl, ⟨by rw [hU], by rw [hU]; exact hP, va_K.moved hW.alike hK, hD.weaken (fun _ _ _ _ => trivial)⟩, hY.call hS hF hU hW⟩⟩
theorem px_preVY {D : va_G} {y : Nat → ClassId} {ws : va_W} {As : List Value} {H0 : Heap} {A0 : Nat → Prop} {locs : List Loc} {b q0 ci : Nat} {q : vw_C} {fs : List Value} (hK : va_K D vwCl (px_tys y) s) (hP : va_P D vwCl ws H) (hD : va_D A ws) (hY : px_Y ad bb A0 s H0) (hS : va_S A0 H0 H locs) (hF : ∀ q, va_A ws H.size q → A0 q) (hc : vwCl[ci]? = some q) (he : ws[q0]? = some (b, .inr (ci, fs))) : PreV s H q.1 b (va_Pc (.ref b :: As) (fun U => px_P D y H.size ws U ∧ px_Y ad bb (va_A ws H.size) U U.heap)) As :=
  ⟨px_blindY, va_recv hK hP hc he, fun U hU hW => ⟨rfl, ⟨by rw [hU], by rw [hU]; exact hP, va_K.moved hW.alike hK, hD.weaken (fun _ _ _ _ => trivial)⟩, hY.call hS hF hU hW⟩⟩
/-- a call on the String constant itself: no cell of ours is cut out -/
theorem px_preTY {D : va_G} {y : Nat → ClassId} {As : List Value} {H0 : Heap} {A0 : Nat → Prop} {locs : List Loc} (hK : va_K D vwCl (px_tys y) s) (hY : px_Y ad bb A0 s H0) (hS : va_S A0 H0 H locs) (hF : ∀ q, va_A [] H.size q → A0 q) : PreV s H "java/lang/String" (ad 0) (va_Pc (.ref (ad 0) :: As) (fun U => px_P D y H.size [] U ∧ px_Y ad bb (va_A [] H.size) U U.heap)) As :=
  ⟨px_blindY, (by obtain ⟨cell, h1, h2, h3, -⟩ := hY.o.kept hS.2.1; exact ⟨cell, h1, h2, h3⟩), fun U hU hW => ⟨rfl, ⟨by rw [hU], fun k q h => by simp at h, va_K.moved hW.alike hK, ⟨fun i j p q h => by simp at h, fun k q h => by simp at h⟩⟩, hY.call hS hF hU hW⟩⟩
end PXY
