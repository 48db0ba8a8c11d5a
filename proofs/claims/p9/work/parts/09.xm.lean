/-! A method's contract out of its data; calls in one world, and into a part of it. -/
abbrev xroom (d : Nat) : Room := { frames := d, cells := 0, slots := 0, locals := 40 * d }
def xMt (l : Launch) (D : va_G) (yv : Nat → ClassId) (y : MethodName) (cy : ByteArray) (nLy : Nat) (ret : Option FieldType) (d N : Nat) (sh : xH) (E : xE) : Prop :=
  ∀ (a : Nat → Nat) (ρ : Nat → Nat → Option Nat) (sz : Nat) (as : List xV) (σ : xS) (Q : Option xV → xS → Prop), E as σ Q → xgs sh σ → (∀ v ∈ as, xg v) →
    Met l y (px_w y cy nLy ret) (xroom d) (va_Pc (as.map (xv a)) (px_P D yv sz (xws a yv ρ N sh σ))) (xQ D yv a ρ N sh (va_A (xws a yv ρ N sh σ) sz) Q) 0 0 (va_A (xws a yv ρ N sh σ) sz)
/-- what a call needs, wherever it stands in a method of class own with the code cc -/
def xCk (l : Launch) (D : va_G) (yv : Nat → ClassId) (own : String) (cc : ByteArray) (d N : Nat) (sh : xH) (v : Bool) (i n : Nat) (E : xE) : Prop :=
  ∀ (p : Program) (e : Env) (R : Room) (s : State) (m : MethodId) (args : Array Value) (below : List Frame) (meth : Method) (c : Code) (a : Nat → Nat) (ρ : Nat → Nat → Option Nat) (A : Nat → Prop) (nL : Nat) (Qm : State → Prop), p.tables.exec = Jvm.exec → c.code = cc → c.maxLocals = nL → s.vm.findClass own = some m.cls → (∀ w ∈ gw, w.before args s = true) → va_K D vwCl (px_tys yv) s → (∀ q : Nat, s.heap.size ≤ q → A q) → d ≤ R.frames → 40 * d ≤ R.locals → ∀ kz : Nat × Nat, kz.1 ≤ R.cells → kz.2 ≤ R.slots →
    ∀ pc L rest as σ K, decode cc pc = .ok (if v then .invokevirtual i else .invokestatic i, 3) → E as σ K → as.length = n → rest.length ≤ 4 → (∀ r σ', K r σ' → XA kz p l e R s m args below meth c D yv a ρ N sh A nL Qm (pc + 3) L (r.toList ++ rest) σ') → XA kz p l e R s m args below meth c D yv a ρ N sh A nL Qm pc L (as.reverse ++ rest) σ
theorem xcode_ok {cc : ByteArray} : ∀ {tb : List (Nat × Bool × List xI)}, xokT cc tb = true → ∀ c, xat (xcode tb c) c ∧ xok cc (xcode tb c) = true := by
  intro tb
  induction tb with
  | nil => intro _ c; exact ⟨(fun q r h => by cases h), rfl⟩
  | cons q tb ih =>
    intro h c
    unfold xokT at h
    rw [List.all_cons, Bool.and_eq_true] at h
    unfold xcode
    by_cases hc : q.1 = c
    · rw [if_pos hc]
      have h1 := h.1
      rw [Bool.and_eq_true] at h1
      refine ⟨fun q2 r e => ?_, h1.2⟩
      have h2 := h1.1
      rw [e] at h2
      have h3 : q2.1 = q.1 := by simpa using h2
      exact h3.trans hc
    · rw [if_neg hc]
      exact ih h.2 c
theorem xjmp_ok {cc : ByteArray} : ∀ {tb : List (Nat × Bool × List xI)}, xokT cc tb = true → ∀ c k, xjmp tb c = some k → xat k c ∧ xok cc k = true := by
  intro tb
  induction tb with
  | nil => intro _ c k h; cases h
  | cons q tb ih =>
    intro h c k hk
    unfold xokT at h
    rw [List.all_cons, Bool.and_eq_true] at h
    unfold xjmp at hk
    by_cases hc : q.1 = c
    · rw [if_pos hc] at hk
      by_cases hq : q.2.1 = true
      · rw [if_pos hq] at hk; cases hk
      · rw [if_neg hq] at hk
        cases hk
        have h1 := h.1
        rw [Bool.and_eq_true] at h1
        refine ⟨fun q2 r e => ?_, h1.2⟩
        have h2 := h1.1
        rw [e] at h2
        have h3 : q2.1 = q.1 := by simpa using h2
        exact h3.trans hc
    · rw [if_neg hc] at hk
      exact ih h.2 c k hk
theorem xargs_len (a : Nat → Nat) : ∀ as : List xV, (lg_sl (as.map (xv a))).length = (xargs as).length := by
  intro as
  induction as with
  | nil => rfl
  | cons v as ih =>
    unfold lg_sl at ih ⊢
    rw [List.map_cons, List.flatMap_cons, List.length_append, ih]
    match v with
    | .inl z => simp [xv, xargs, Value.category]; omega
    | .inr (.inl z) => simp [xv, xargs, Value.category]; omega
    | .inr (.inr (.inl t)) => simp [xv, xargs, Value.category]; omega
    | .inr (.inr (.inr ())) => simp [xv, xargs, Value.category]; omega
theorem xargs_at (a : Nat → Nat) : ∀ (as : List xV) (o i : Nat) (v : xV), (xargs as)[i]? = some v → v ≠ xvu → (o + i, xv a v) ∈ lv_args o (as.map (xv a)) := by
  intro as
  induction as with
  | nil => intro o i v h; simp [xargs] at h
  | cons w as ih =>
    intro o i v h hv
    match w, h with
    | .inl z, h =>
      match i, h with
      | 0, h => obtain rfl : xvi z = v := by simpa [xargs] using h
                simp [lv_args, xv]
      | i + 1, h =>
        have h2 : (xargs as)[i]? = some v := by simpa [xargs] using h
        have h3 := ih (o + 1) i v h2 hv
        rw [show o + (i + 1) = o + 1 + i by omega]
        exact List.mem_cons_of_mem _ h3
    | .inr (.inl z), h =>
      match i, h with
      | 0, h => obtain rfl : xvl z = v := by simpa [xargs] using h
                simp [lv_args, xv]
      | 1, h => exact absurd (by simpa [xargs] using h.symm) hv
      | i + 2, h =>
        have h2 : (xargs as)[i]? = some v := by simpa [xargs] using h
        have h3 := ih (o + 2) i v h2 hv
        rw [show o + (i + 2) = o + 2 + i by omega]
        exact List.mem_cons_of_mem _ h3
    | .inr (.inr (.inl t)), h =>
      match i, h with
      | 0, h => obtain rfl : xvr t = v := by simpa [xargs] using h
                simp [lv_args, xv]
      | i + 1, h =>
        have h2 : (xargs as)[i]? = some v := by simpa [xargs] using h
        have h3 := ih (o + 1) i v h2 hv
        rw [show o + (i + 1) = o + 1 + i by omega]
        exact List.mem_cons_of_mem _ h3
    | .inr (.inr (.inr ())), h =>
      match i, h with
      | 0, h => exact absurd (by simpa [xargs] using h.symm) hv
      | i + 1, h =>
        have h2 : (xargs as)[i]? = some v := by simpa [xargs] using h
        have h3 := ih (o + 1) i v h2 hv
        rw [show o + (i + 1) = o + 1 + i by omega]
        exact List.mem_cons_of_mem _ h3
theorem xargs_g : ∀ {as : List xV}, (∀ v ∈ as, xg v) → ∀ v ∈ xargs as, xg v := by
  intro as
  induction as with
  | nil => intro _ v h; simp [xargs] at h
  | cons w as ih =>
    intro h v hv
    have ih2 := ih (fun v hv => h v (List.mem_cons_of_mem _ hv))
    have hw := h w List.mem_cons_self
    match w, hv, hw with
    | .inl z, hv, hw => rcases List.mem_cons.mp hv with rfl | hv <;> first | exact hw | exact ih2 v hv
    | .inr (.inl z), hv, hw =>
      rcases List.mem_cons.mp hv with rfl | hv
      · exact hw
      · rcases List.mem_cons.mp hv with rfl | hv
        · exact trivial
        · exact ih2 v hv
    | .inr (.inr (.inl t)), hv, hw => rcases List.mem_cons.mp hv with rfl | hv <;> first | exact hw | exact ih2 v hv
    | .inr (.inr (.inr ())), hv, hw => rcases List.mem_cons.mp hv with rfl | hv <;> first | exact hw | exact ih2 v hv
/-- what is looked up once for a method -/
def xSt (own : String) (cc : ByteArray) (C : xC) (N : Nat) : Prop := xfin N C.1 ∧ xShp C.1 ∧ xLn C.1 ∧ (∀ i ci j, C.2.1 i = some (ci, j) → xFd own i ci j) ∧ xCn own C.2.2.1 ∧ xokT cc C.2.2.2.2.1 = true
set_option maxHeartbeats 4000000 in
theorem xT_met {l : Launch} {D : va_G} {yv : Nat → ClassId} {y : MethodName} {cc : ByteArray} {ret : Option FieldType} {C : xC} {N d : Nat} (hpl : plainName y.cls = true) (hS0 : xSt y.cls cc C N) (hrt : xrt C.2.2.2.2.2.1 = ret)
    (hE : ∀ (v : Bool) i n E, C.2.2.2.1 (2 * i + if v then 0 else 1) = some (n, E) → xCk l D yv y.cls cc d N C.1 v i n E) : xMt l D yv y cc C.2.2.2.2.2.2 ret d N C.1 (xT C) := by
  obtain ⟨hN, hshp, hsln, hfld, hcon, hok⟩ := hS0
  intro a ρ sz as σ Q hT hσ has
  obtain ⟨hlen, hT⟩ := hT
  refine Met.ofW (cc := cc) (maxL := C.2.2.2.2.2.2) (ret := ret) hpl rfl ?_
  intro p e s m args below meth c s₁ B hml hv
  obtain ⟨rfl, hsz, hP, hK, hD0⟩ := hv
  have hx := B.exec
  have hb := B.bytes
  have hr := B.returns
  have hts := atoms_spec (ws := px_w y cc C.2.2.2.2.2.2 ret) B.pre
  have hg : ∀ w ∈ gw, w.before (as.map (xv a)).toArray s = true := fun w h => hts w (List.mem_cons_of_mem _ h)
  have hown : s.vm.findClass y.cls = some m.cls := findClass_of_methodNamed B.named
  have hlocks := B.notSynchronized
  subst hsz
  have hD := hD0.self (sz := s.heap.size)
  generalize hAe : va_A (xws a yv ρ N C.1 σ) s.heap.size = A at hD ⊢
  have hA : ∀ q : Nat, s.heap.size ≤ q → A q := fun q h => by rw [← hAe]; exact Or.inr h
  have hl := lv_entry (as.map (xv a)) (n := C.2.2.2.2.2.2) (by rw [xargs_len]; exact hlen)
  rw [lg_entry_eq]
  generalize (lg_sl (as.map (xv a)) ++ List.replicate (C.2.2.2.2.2.2 - (lg_sl (as.map (xv a))).length) Slot.unset).toArray = ls at hl ⊢
  have key := hT (fun c0 L σ => XA (0, 0) p l e (xroom d) s m (as.map (xv a)).toArray below meth c D yv a ρ N C.1 A C.2.2.2.2.2.2 (MQ below (xQ D yv a ρ N C.1 A Q) (as.map (xv a)).toArray s 0 0 A) c0 L [] σ)
    (fun n c0 L σ h => xw_s hx hb hown hg hK hN hshp hsln hfld hcon (xjmp_ok hok) (hr.trans hrt.symm) hlocks (fun r σ t h1 h2 h3 h4 h5 h6 => ⟨⟨r, σ, rfl, h1, h2, h3, h4, h5⟩, h6⟩) (fun _ _ _ h => h)
      (fun v i n E he => hE v i n E he p e (xroom d) s m _ below meth c a ρ A _ _ hx hb hml hown hg hK hA (Nat.le_refl _) (Nat.le_refl _) (0, 0) (Nat.zero_le _) (Nat.zero_le _)) n _ c0 L [] σ (xcode_ok hok c0).1 (xcode_ok hok c0).2 h)
  refine key ?_ (fun v h => by cases h) hσ ?_ s.heap [] ls hP hD va_S.rf ?_
  · intro v hv
    rcases List.mem_append.mp hv with hv | hv
    · exact xargs_g has v hv
    · rw [List.eq_of_mem_replicate hv]; exact trivial
  · unfold xent
    rw [List.length_append, List.length_replicate]
    omega
  · refine ⟨hl.1, hl.2.1, fun q hq => ?_⟩
    obtain ⟨w, h1, h2, h3⟩ := xlv_mem hq
    unfold xent at h1
    have h4 : (xargs as)[q.1]? = some w := by
      rcases Nat.lt_or_ge q.1 (xargs as).length with h5 | h5
      · rwa [List.getElem?_append_left h5] at h1
      · rw [List.getElem?_append_right h5] at h1
        exact absurd (List.eq_of_mem_replicate (List.mem_of_getElem? h1)) h2
    have h6 := hl.2.2 _ (xargs_at a as 0 q.1 w h4 h2)
    rw [h3]
    simpa using h6
section XR
variable {p : Program} {l : Launch} {e : Env} {R : Room} {s : State} {m : MethodId} {args : Array Value} {below : List Frame} {meth : Method} {c : Code} {H : Heap} {locs : List Loc} {Qm : State → Prop}
variable {D : va_G} {y : Nat → ClassId} {A A1 : Nat → Prop} {kz : Nat × Nat}
theorem xrun_go {pc : Nat} {ls : Array Slot} {rest st0 : List Value} {a' : Nat → Nat} {ρ' : Nat → Nat → Option Nat} {N' : Nat} {sh' : xH} {K : Option xV → xS → Prop} {as : Array Value} {free : Addr → Prop}
    (hr : va_Run p l e R s m args below meth c H locs kz.1 kz.2 0 0 (F0 m pc ls st0) rest (xQ D y a' ρ' N' sh' A1 K as) free) (hS : va_S A s.heap H locs) (hA : ∀ q, q < H.size → A1 q → A q) (hf : ∀ q, free q → A q)
    (kk : ∀ (r : Option xV) (σ' : xS) (H1 : Heap) (locs1 : List Loc), K r σ' → (∀ v, r = some v → xg v) → xgs sh' σ' → va_P D vwCl (xws a' y ρ' N' sh' σ') H1 → va_D A1 (xws a' y ρ' N' sh' σ') → H.size ≤ H1.size → (∀ q : Nat, q < H.size → ¬ A1 q → H1[q]? = H[q]?) → va_S A s.heap H1 locs1 → W p l e R s m args below meth c H1 locs1 kz.1 kz.2 Qm (F0 m (pc + 3) ls ((r.map (xv a')).toList ++ rest))) : W p l e R s m args below meth c H locs kz.1 kz.2 Qm (F0 m pc ls st0) := by
  intro T hT X
  obtain ⟨v, st₀, t, T', L, h0, X', hL, e1, e2, ⟨⟨r, σ', hv, hk1, hr1, hσ1, hP1, hD1⟩, hz, hk⟩, st⟩ := hr T hT X
  cases hv
  rw [h0] at hz hk
  obtain ⟨t2, a1, b1⟩ := kk r σ' T'.heap (locs ++ L) hk1 hr1 hσ1 (by rw [e1]; exact hP1) hD1 (by rw [e1]; exact hz) (fun q h1 h2 => by rw [e1]; exact hk q h1 h2)
    ⟨Nat.le_trans hS.1 (by rw [e1]; exact hz), fun q h1 h2 => by rw [e1, hk q (Nat.lt_of_lt_of_le h1 hS.1) (fun z => h2 (hA q (Nat.lt_of_lt_of_le h1 hS.1) z))]; exact hS.2.1 q h1 h2, fun q hq => by
      rcases List.mem_append.mp hq with h | h
      · exact hS.2.2 q h
      · exact hf _ (hL q h)⟩ T' rfl X'
  exact ⟨t2, st t2 a1, b1⟩
end XR
