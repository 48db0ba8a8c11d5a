section XAND
variable {sh : xH} {fld : Nat → Option (Nat × Nat)} {con : Nat → Option (Int ⊕ Int)} {env : Nat → Option (Nat × xE)} {jmp : Nat → Option (List xI)} {rt : Nat} {X1 X2 X3 : Nat → List xV → xS → Prop} {Q1 Q2 Q3 : Option xV → xS → Prop}
theorem xw_and (henv : ∀ i n E, env i = some (n, E) → xPJ E) (hX : ∀ c L σ, X1 c L σ → X2 c L σ → X3 c L σ) (hQ : ∀ r σ, Q1 r σ → Q2 r σ → Q3 r σ) : ∀ (n m : Nat) (k : List xI) (L st : List xV) (σ : xS), xw sh fld con env jmp rt X1 Q1 n k L st σ → xw sh fld con env jmp rt X2 Q2 m k L st σ → xw sh fld con env jmp rt X3 Q3 n k L st σ := by
  intro n
  induction n with
  | zero => intro m k L st σ h1 _; exact h1.elim
  | succ n ih =>
    intro m k L st σ h1 h2
    match m, h2 with
    | 0, h2 => exact h2.elim
    | m + 1, h2 =>
    match k, h1, h2 with
    | [], h1, _ => exact h1.elim
    | (pc, ins, len) :: k, h1, h2 =>
    match len, h1, h2 with
    | 0, h1, h2 => exact xto_a (jmp := jmp) (t := (pc : Int)) (L := L) (st := st) (σ := σ) (f1 := (fun k => xw sh fld con env jmp rt X1 Q1 n k L st σ)) (f2 := (fun k => xw sh fld con env jmp rt X2 Q2 m k L st σ)) (f3 := (fun k => xw sh fld con env jmp rt X3 Q3 n k L st σ)) hX (fun k h1 h2 => ih m k L st σ h1 h2) h1 h2
    | len + 1, h1, h2 =>
    have hto : ∀ (t : Int) (L st : List xV) (σ : xS), xto jmp X1 (fun k => xw sh fld con env jmp rt X1 Q1 n k L st σ) t L st σ → xto jmp X2 (fun k => xw sh fld con env jmp rt X2 Q2 m k L st σ) t L st σ → xto jmp X3 (fun k => xw sh fld con env jmp rt X3 Q3 n k L st σ) t L st σ := fun t L st σ g1 g2 => xto_a hX (fun k h1 h2 => ih m k L st σ h1 h2) g1 g2
    have I : ∀ (L st : List xV) (σ : xS), xw sh fld con env jmp rt X1 Q1 n k L st σ → xw sh fld con env jmp rt X2 Q2 m k L st σ → xw sh fld con env jmp rt X3 Q3 n k L st σ := fun L st σ => ih m k L st σ
    cases ins with
    | iconst i =>
      exact I _ _ _ h1 h2
    | bipush i =>
      exact I _ _ _ h1 h2
    | sipush i =>
      exact I _ _ _ h1 h2
    | lconst i =>
      exact I _ _ _ h1 h2
    | ldc i =>
      change (match con i with
        | some (.inl z) => xw sh fld con env jmp rt X1 Q1 n k L (xvi z :: st) σ
        | _ => False) at h1
      change (match con i with
        | some (.inl z) => xw sh fld con env jmp rt X2 Q2 m k L (xvi z :: st) σ
        | _ => False) at h2
      show (match con i with
        | some (.inl z) => xw sh fld con env jmp rt X3 Q3 n k L (xvi z :: st) σ
        | _ => False)
      cases hc : con i with
      | none => rw [hc] at h1; exact h1.elim
      | some q =>
        rw [hc] at h1 h2
        match q, h1, h2 with
        | .inl z, h1, h2 => exact I _ _ _ h1 h2
        | .inr _, h1, _ => exact h1.elim
    | ldc_w i =>
      change (match con i with
        | some (.inl z) => xw sh fld con env jmp rt X1 Q1 n k L (xvi z :: st) σ
        | _ => False) at h1
      change (match con i with
        | some (.inl z) => xw sh fld con env jmp rt X2 Q2 m k L (xvi z :: st) σ
        | _ => False) at h2
      show (match con i with
        | some (.inl z) => xw sh fld con env jmp rt X3 Q3 n k L (xvi z :: st) σ
        | _ => False)
      cases hc : con i with
      | none => rw [hc] at h1; exact h1.elim
      | some q =>
        rw [hc] at h1 h2
        match q, h1, h2 with
        | .inl z, h1, h2 => exact I _ _ _ h1 h2
        | .inr _, h1, _ => exact h1.elim
    | ldc2_w i =>
      change (match con i with
        | some (.inr z) => xw sh fld con env jmp rt X1 Q1 n k L (xvl z :: st) σ
        | _ => False) at h1
      change (match con i with
        | some (.inr z) => xw sh fld con env jmp rt X2 Q2 m k L (xvl z :: st) σ
        | _ => False) at h2
      show (match con i with
        | some (.inr z) => xw sh fld con env jmp rt X3 Q3 n k L (xvl z :: st) σ
        | _ => False)
      cases hc : con i with
      | none => rw [hc] at h1; exact h1.elim
      | some q =>
        rw [hc] at h1 h2
        match q, h1, h2 with
        | .inr z, h1, h2 => exact I _ _ _ h1 h2
        | .inl _, h1, _ => exact h1.elim
    | iload i =>
      exact xldi_a h1 h2 (fun x g1 g2 => I _ _ _ g1 g2)
    | iload_n i =>
      exact xldi_a h1 h2 (fun x g1 g2 => I _ _ _ g1 g2)
    | lload i =>
      exact xldl_a h1 h2 (fun x g1 g2 => I _ _ _ g1 g2)
    | lload_n i =>
      exact xldl_a h1 h2 (fun x g1 g2 => I _ _ _ g1 g2)
    | aload i =>
      exact xldr_a h1 h2 (fun x g1 g2 => I _ _ _ g1 g2)
    | aload_n i =>
      exact xldr_a h1 h2 (fun x g1 g2 => I _ _ _ g1 g2)
    | istore i =>
      exact x1i_a h1 h2 (fun x st g1 g2 => ⟨g1.1, I _ _ _ g1.2 g2.2⟩)
    | istore_n i =>
      exact x1i_a h1 h2 (fun x st g1 g2 => ⟨g1.1, I _ _ _ g1.2 g2.2⟩)
    | lstore i =>
      exact x1l_a h1 h2 (fun x st g1 g2 => ⟨g1.1, I _ _ _ g1.2 g2.2⟩)
    | lstore_n i =>
      exact x1l_a h1 h2 (fun x st g1 g2 => ⟨g1.1, I _ _ _ g1.2 g2.2⟩)
    | astore i =>
      exact x1r_a h1 h2 (fun x st g1 g2 => ⟨g1.1, I _ _ _ g1.2 g2.2⟩)
    | astore_n i =>
      exact x1r_a h1 h2 (fun x st g1 g2 => ⟨g1.1, I _ _ _ g1.2 g2.2⟩)
    | iinc i d =>
      exact xldi_a h1 h2 (fun x g1 g2 => xn32_a g1 g2 (fun z a b => I _ _ _ a b))
    | iadd =>
      exact x2i_a h1 h2 (fun x y st g1 g2 => xn32_a g1 g2 (fun z a b => I _ _ _ a b))
    | isub =>
      exact x2i_a h1 h2 (fun x y st g1 g2 => xn32_a g1 g2 (fun z a b => I _ _ _ a b))
    | imul =>
      exact x2i_a h1 h2 (fun x y st g1 g2 => xn32_a g1 g2 (fun z a b => I _ _ _ a b))
    | ineg =>
      exact x1i_a h1 h2 (fun x st g1 g2 => xn32_a g1 g2 (fun z a b => I _ _ _ a b))
    | idiv =>
      exact x2i_a h1 h2 (fun x y st g1 g2 => ⟨g1.1, xdiv_a g1.2 g2.2 (fun z a b => I _ _ _ a b)⟩)
    | irem =>
      exact x2i_a h1 h2 (fun x y st g1 g2 => ⟨g1.1, xrem_a g1.2 g2.2 (fun z a b => I _ _ _ a b)⟩)
    | iand =>
      exact x2i_a h1 h2 (fun x y st g1 g2 => xf32_a g1 g2 (fun z a b => I _ _ _ a b))
    | ior =>
      exact x2i_a h1 h2 (fun x y st g1 g2 => xf32_a g1 g2 (fun z a b => I _ _ _ a b))
    | ixor =>
      exact x2i_a h1 h2 (fun x y st g1 g2 => xf32_a g1 g2 (fun z a b => I _ _ _ a b))
    | ishl =>
      exact x2i_a h1 h2 (fun x y st g1 g2 => xf32_a g1 g2 (fun z a b => I _ _ _ a b))
    | ishr =>
      exact x2i_a h1 h2 (fun x y st g1 g2 => xf32_a g1 g2 (fun z a b => I _ _ _ a b))
    | iushr =>
      exact x2i_a h1 h2 (fun x y st g1 g2 => xf32_a g1 g2 (fun z a b => I _ _ _ a b))
    | i2b =>
      exact x1i_a h1 h2 (fun x st g1 g2 => xf32_a g1 g2 (fun z a b => I _ _ _ a b))
    | i2l =>
      exact x1i_a h1 h2 (fun x st g1 g2 => I _ _ _ g1 g2)
    | ladd =>
      exact x2l_a h1 h2 (fun x y st g1 g2 => xn64_a g1 g2 (fun z a b => I _ _ _ a b))
    | lsub =>
      exact x2l_a h1 h2 (fun x y st g1 g2 => xn64_a g1 g2 (fun z a b => I _ _ _ a b))
    | lmul =>
      exact x2l_a h1 h2 (fun x y st g1 g2 => xn64_a g1 g2 (fun z a b => I _ _ _ a b))
    | ldiv =>
      exact x2l_a h1 h2 (fun x y st g1 g2 => ⟨g1.1, xldiv_a g1.2 g2.2 (fun z a b => I _ _ _ a b)⟩)
    | lrem =>
      exact x2l_a h1 h2 (fun x y st g1 g2 => ⟨g1.1, xlrem_a g1.2 g2.2 (fun z a b => I _ _ _ a b)⟩)
    | lor =>
      exact x2l_a h1 h2 (fun x y st g1 g2 => xf64_a g1 g2 (fun z a b => I _ _ _ a b))
    | lshl =>
      exact x1i_a h1 h2 (fun y st g1 g2 => x1l_a g1 g2 (fun x st a b => xf64_a a b (fun z a b => I _ _ _ a b)))
    | lcmp =>
      exact x2l_a h1 h2 (fun x y st g1 g2 => xlcmp_a g1 g2 (fun z a b => I _ _ _ a b))
    | dup =>
      match st, h1, h2 with
      | .inl x :: st, h1, h2 => exact I _ _ _ h1 h2
      | .inr (.inr (.inl t)) :: st, h1, h2 => exact I _ _ _ h1 h2
      | [], h1, _ => exact h1.elim
      | .inr (.inl _) :: _, h1, _ => exact h1.elim
      | .inr (.inr (.inr _)) :: _, h1, _ => exact h1.elim
    | dup2 =>
      match st, h1, h2 with
      | .inl x :: .inr (.inr (.inl t)) :: st, h1, h2 => exact I _ _ _ h1 h2
      | [], h1, _ => exact h1.elim
      | [.inl _], h1, _ => exact h1.elim
      | .inr _ :: _, h1, _ => exact h1.elim
      | .inl _ :: .inl _ :: _, h1, _ => exact h1.elim
      | .inl _ :: .inr (.inl _) :: _, h1, _ => exact h1.elim
      | .inl _ :: .inr (.inr (.inr _)) :: _, h1, _ => exact h1.elim
    | pop =>
      match st, h1, h2 with
      | .inl x :: st, h1, h2 => exact I _ _ _ h1 h2
      | .inr (.inr (.inl t)) :: st, h1, h2 => exact I _ _ _ h1 h2
      | [], h1, _ => exact h1.elim
      | .inr (.inl _) :: _, h1, _ => exact h1.elim
      | .inr (.inr (.inr _)) :: _, h1, _ => exact h1.elim
    | putfield i =>
      match st, h1, h2 with
      | v :: .inr (.inr (.inl t)) :: st, h1, h2 => exact xputf_a h1 h2 (fun s a b => I _ _ _ a b)
      | [], h1, _ => exact h1.elim
      | [_], h1, _ => exact h1.elim
      | _ :: .inl _ :: _, h1, _ => exact h1.elim
      | _ :: .inr (.inl _) :: _, h1, _ => exact h1.elim
      | _ :: .inr (.inr (.inr _)) :: _, h1, _ => exact h1.elim
    | goto o =>
      exact hto _ _ _ _ h1 h2
    | ifCond c o =>
      exact x1i_a h1 h2 (fun x st g1 g2 => xbr_a g1 g2 (hto _ _ _ _) (I _ _ _))
    | if_icmp c o =>
      exact x2i_a h1 h2 (fun x y st g1 g2 => xbr_a g1 g2 (hto _ _ _ _) (I _ _ _))
    | tableswitch d lo hi offs =>
      exact x1i_a h1 h2 (fun x st g1 g2 => ⟨fun h => hto _ _ _ _ (g1.1 h) (g2.1 h), g1.2.1, xtab_a (fun o a b => hto _ _ _ _ a b) _ _ g1.2.2 g2.2.2⟩)
    | getfield i =>
      exact x1r_a h1 h2 (fun t st g1 g2 => xget_a g1 g2 (fun v a b => I _ _ _ a b))
    | iaload =>
      exact x1i_a h1 h2 (fun i st g1 g2 => x1r_a g1 g2 (fun t st g1 g2 => xarr_a g1 g2 (fun kd q g1 g2 => ⟨g1.1, g1.2.1, xf32_a g1.2.2 g2.2.2 (fun z a b => I _ _ _ a b)⟩)))
    | baload =>
      exact x1i_a h1 h2 (fun i st g1 g2 => x1r_a g1 g2 (fun t st g1 g2 => xarr_a g1 g2 (fun kd q g1 g2 => ⟨g1.1, g1.2.1, xf32_a g1.2.2 g2.2.2 (fun z a b => I _ _ _ a b)⟩)))
    | laload =>
      exact x1i_a h1 h2 (fun i st g1 g2 => x1r_a g1 g2 (fun t st g1 g2 => xarr_a g1 g2 (fun kd q g1 g2 => ⟨g1.1, g1.2.1, xf64_a g1.2.2 g2.2.2 (fun z a b => I _ _ _ a b)⟩)))
    | iastore =>
      exact x1i_a h1 h2 (fun v st g1 g2 => x1i_a g1 g2 (fun i st g1 g2 => x1r_a g1 g2 (fun t st g1 g2 => ⟨g1.1, xstore_a g1.2 g2.2 (fun s a b => I _ _ _ a b)⟩)))
    | bastore =>
      exact x1i_a h1 h2 (fun v st g1 g2 => x1i_a g1 g2 (fun i st g1 g2 => x1r_a g1 g2 (fun t st g1 g2 => ⟨g1.1, xstore_a g1.2 g2.2 (fun s a b => I _ _ _ a b)⟩)))
    | lastore =>
      exact x1l_a h1 h2 (fun v st g1 g2 => x1i_a g1 g2 (fun i st g1 g2 => x1r_a g1 g2 (fun t st g1 g2 => xarr_a g1 g2 (fun kd q g1 g2 => ⟨g1.1, g1.2.1, I _ _ _ g1.2.2 g2.2.2⟩))))
    | arraylength =>
      exact x1r_a h1 h2 (fun t st g1 g2 => xarr_a g1 g2 (fun kd q g1 g2 => ⟨g1.1, I _ _ _ g1.2 g2.2⟩))
    | invokevirtual i =>
      exact xcall_a (idx := 2 * i) (st := st) (σ := σ) (K1 := (fun r st σ => xw sh fld con env jmp rt X1 Q1 n k L (r.toList ++ st) σ)) (K2 := (fun r st σ => xw sh fld con env jmp rt X2 Q2 m k L (r.toList ++ st) σ)) (K3 := (fun r st σ => xw sh fld con env jmp rt X3 Q3 n k L (r.toList ++ st) σ)) henv h1 h2 (fun r st s a b => I _ _ _ a b)
    | invokestatic i =>
      exact xcall_a (idx := 2 * i + 1) (st := st) (σ := σ) (K1 := (fun r st σ => xw sh fld con env jmp rt X1 Q1 n k L (r.toList ++ st) σ)) (K2 := (fun r st σ => xw sh fld con env jmp rt X2 Q2 m k L (r.toList ++ st) σ)) (K3 := (fun r st σ => xw sh fld con env jmp rt X3 Q3 n k L (r.toList ++ st) σ)) henv h1 h2 (fun r st s a b => I _ _ _ a b)
    | ireturn =>
      exact x1i_a h1 h2 (fun x st g1 g2 => ⟨g1.1, xretI_a g1.2 g2.2 (hQ _ _)⟩)
    | lreturn =>
      exact x1l_a h1 h2 (fun x st g1 g2 => ⟨g1.1, g1.2.1, hQ _ _ g1.2.2 g2.2.2⟩)
    | return_ =>
      exact ⟨h1.1, h1.2.1, hQ _ _ h1.2.2 h2.2.2⟩
    | _ => exact h1.elim
end XAND
/-- the least: what a method comes to from a place on -/
def xR (C : xC) (Q : Option xV → xS → Prop) (c : Nat) (L : List xV) (σ : xS) : Prop := ∀ X : Nat → List xV → xS → Prop, (∀ n c L σ, xwC C X Q n c L σ → X c L σ) → X c L σ
theorem xR_in {C : xC} (henv : ∀ i n E, C.2.2.2.1 i = some (n, E) → xPJ E) {Q : Option xV → xS → Prop} {n c : Nat} {L : List xV} {σ : xS} (h : xwC C (xR C Q) Q n c L σ) : xR C Q c L σ := fun X hX => hX n c L σ (xw_and henv (X1 := xR C Q) (X2 := xR C Q) (fun c L σ h _ => h X hX) (fun r σ h _ => h) n n _ _ _ _ h h)
theorem xR_out {C : xC} (henv : ∀ i n E, C.2.2.2.1 i = some (n, E) → xPJ E) {Q : Option xV → xS → Prop} {c : Nat} {L : List xV} {σ : xS} (h : xR C Q c L σ) : ∃ n, xwC C (xR C Q) Q n c L σ := by
  refine h (fun c L σ => ∃ n, xwC C (xR C Q) Q n c L σ) (fun n c L σ hn => ⟨n, ?_⟩)
  exact xw_and henv (X1 := fun c L σ => ∃ n, xwC C (xR C Q) Q n c L σ) (X2 := fun c L σ => ∃ n, xwC C (xR C Q) Q n c L σ) (fun c L σ h _ => by obtain ⟨k, hk⟩ := h; exact xR_in henv hk) (fun r σ h _ => h) n n _ _ _ _ hn hn
theorem xT_and {C : xC} (henv : ∀ i n E, C.2.2.2.1 i = some (n, E) → xPJ E) : xPJ (xT C) := by
  intro as σ K1 K2 K3 h1 h2 hK
  refine ⟨h1.1, fun X hX => ?_⟩
  have h2r : xR C K2 0 (xent C as) σ := h2.2
  refine h1.2 (fun c L σ => xR C K2 c L σ → X c L σ) (fun n c L σ hn hr => ?_) h2r
  obtain ⟨m, hm⟩ := xR_out henv hr
  exact hX n c L σ (xw_and henv (X1 := fun c L σ => xR C K2 c L σ → X c L σ) (X2 := xR C K2) (fun c L σ a b => a b) hK n m _ _ _ _ hn hm)
/-- calls into a part of the world -/
theorem xIV_pj {sh : xH} {ci : Nat} {E : xE} (h : xPJ E) : xPJ (xIV sh ci E) := by
  intro as σ K1 K2 K3 h1 h2 hK
  obtain ⟨t, r, codes, rfl, hs, g1⟩ := xIV_e h1
  obtain ⟨t2, r2, codes2, e, hs2, g2⟩ := xIV_e h2
  cases e
  unfold xIV
  simp only [hs]
  rw [if_pos trivial]
  exact h _ _ _ _ _ g1 g2 hK
theorem xMm_pj {τ : List Nat} {E : xE} (h : xPJ E) : xPJ (xMm τ E) := fun as σ K1 K2 K3 h1 h2 hK => h _ _ _ _ _ h1 h2 (fun r s a b => by
  match r, a, b with
  | none, a, b => exact hK _ _ a b
  | some (.inl _), a, b => exact hK _ _ a b
  | some (.inr (.inl _)), a, b => exact hK _ _ a b
  | some (.inr (.inr _)), a, _ => exact a.elim)
theorem xMS_pj {τ : List Nat} {E : xE} (h : xPJ E) : xPJ (xMS τ E) := by
  intro as σ K1 K2 K3 h1 h2 hK
  unfold xMS at *
  by_cases e : xallB τ as = true
  · rw [if_pos e] at h1 h2 ⊢
    exact xMm_pj h _ _ _ _ _ h1 h2 hK
  · rw [if_neg e] at h1; exact h1.elim
