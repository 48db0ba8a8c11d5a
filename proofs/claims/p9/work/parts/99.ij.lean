/-! Two ends of one method: what holds of its end by one walk and by another holds together. -/
theorem x1i_a {st : List xV} {f1 f2 f3 : Int → List xV → Prop} (h1 : x1i st f1) (h2 : x1i st f2) (hf : ∀ x st, f1 x st → f2 x st → f3 x st) : x1i st f3 := by
  match st, h1, h2 with
  | .inl x :: st, h1, h2 => exact hf x st h1 h2
  | [], h1, _ => exact h1.elim
  | .inr _ :: _, h1, _ => exact h1.elim
theorem x1l_a {st : List xV} {f1 f2 f3 : Int → List xV → Prop} (h1 : x1l st f1) (h2 : x1l st f2) (hf : ∀ x st, f1 x st → f2 x st → f3 x st) : x1l st f3 := by
  match st, h1, h2 with
  | .inr (.inl x) :: st, h1, h2 => exact hf x st h1 h2
  | [], h1, _ => exact h1.elim
  | .inl _ :: _, h1, _ => exact h1.elim
  | .inr (.inr _) :: _, h1, _ => exact h1.elim
theorem x1r_a {st : List xV} {f1 f2 f3 : Nat → List xV → Prop} (h1 : x1r st f1) (h2 : x1r st f2) (hf : ∀ x st, f1 x st → f2 x st → f3 x st) : x1r st f3 := by
  match st, h1, h2 with
  | .inr (.inr (.inl x)) :: st, h1, h2 => exact hf x st h1 h2
  | [], h1, _ => exact h1.elim
  | .inl _ :: _, h1, _ => exact h1.elim
  | .inr (.inl _) :: _, h1, _ => exact h1.elim
  | .inr (.inr (.inr _)) :: _, h1, _ => exact h1.elim
theorem x2i_a {st : List xV} {f1 f2 f3 : Int → Int → List xV → Prop} (h1 : x2i st f1) (h2 : x2i st f2) (hf : ∀ x y st, f1 x y st → f2 x y st → f3 x y st) : x2i st f3 := by
  match st, h1, h2 with
  | .inl y :: .inl x :: st, h1, h2 => exact hf x y st h1 h2
  | [], h1, _ => exact h1.elim
  | .inr _ :: _, h1, _ => exact h1.elim
  | [.inl _], h1, _ => exact h1.elim
  | .inl _ :: .inr _ :: _, h1, _ => exact h1.elim
theorem x2l_a {st : List xV} {f1 f2 f3 : Int → Int → List xV → Prop} (h1 : x2l st f1) (h2 : x2l st f2) (hf : ∀ x y st, f1 x y st → f2 x y st → f3 x y st) : x2l st f3 := by
  match st, h1, h2 with
  | .inr (.inl y) :: .inr (.inl x) :: st, h1, h2 => exact hf x y st h1 h2
  | [], h1, _ => exact h1.elim
  | .inl _ :: _, h1, _ => exact h1.elim
  | .inr (.inr _) :: _, h1, _ => exact h1.elim
  | [.inr (.inl _)], h1, _ => exact h1.elim
  | .inr (.inl _) :: .inl _ :: _, h1, _ => exact h1.elim
  | .inr (.inl _) :: .inr (.inr _) :: _, h1, _ => exact h1.elim
theorem xn32_a {e : Int} {K1 K2 K3 : Int → Prop} (h1 : xn32 e K1) (h2 : xn32 e K2) (hf : ∀ z, K1 z → K2 z → K3 z) : xn32 e K3 := fun z t a b c => hf z (h1 z t a b c) (h2 z t a b c)
theorem xn64_a {e : Int} {K1 K2 K3 : Int → Prop} (h1 : xn64 e K1) (h2 : xn64 e K2) (hf : ∀ z, K1 z → K2 z → K3 z) : xn64 e K3 := fun z t a b c => hf z (h1 z t a b c) (h2 z t a b c)
theorem xf32_a {e : Int} {K1 K2 K3 : Int → Prop} (h1 : xf32 e K1) (h2 : xf32 e K2) (hf : ∀ z, K1 z → K2 z → K3 z) : xf32 e K3 := fun z a b c => hf z (h1 z a b c) (h2 z a b c)
theorem xf64_a {e : Int} {K1 K2 K3 : Int → Prop} (h1 : xf64 e K1) (h2 : xf64 e K2) (hf : ∀ z, K1 z → K2 z → K3 z) : xf64 e K3 := fun z a b c => hf z (h1 z a b c) (h2 z a b c)
theorem xlcmp_a {x y : Int} {K1 K2 K3 : Int → Prop} (h1 : xlcmp x y K1) (h2 : xlcmp x y K2) (hf : ∀ z, K1 z → K2 z → K3 z) : xlcmp x y K3 := fun z a b c d e => hf z (h1 z a b c d e) (h2 z a b c d e)
theorem xdiv_a {x y : Int} {K1 K2 K3 : Int → Prop} (h1 : xdiv x y K1) (h2 : xdiv x y K2) (hf : ∀ z, K1 z → K2 z → K3 z) : xdiv x y K3 := fun z a b c d => hf z (h1 z a b c d) (h2 z a b c d)
theorem xrem_a {x y : Int} {K1 K2 K3 : Int → Prop} (h1 : xrem x y K1) (h2 : xrem x y K2) (hf : ∀ z, K1 z → K2 z → K3 z) : xrem x y K3 := fun z a b c d => hf z (h1 z a b c d) (h2 z a b c d)
theorem xldiv_a {x y : Int} {K1 K2 K3 : Int → Prop} (h1 : xldiv x y K1) (h2 : xldiv x y K2) (hf : ∀ z, K1 z → K2 z → K3 z) : xldiv x y K3 := fun z a b c d => hf z (h1 z a b c d) (h2 z a b c d)
theorem xlrem_a {x y : Int} {K1 K2 K3 : Int → Prop} (h1 : xlrem x y K1) (h2 : xlrem x y K2) (hf : ∀ z, K1 z → K2 z → K3 z) : xlrem x y K3 := fun z a b c d => hf z (h1 z a b c d) (h2 z a b c d)
theorem xbr_a {c : ClassFile.Cond} {x y : Int} {A1 A2 A3 B1 B2 B3 : Prop} (h1 : xbr c x y A1 B1) (h2 : xbr c x y A2 B2) (hA : A1 → A2 → A3) (hB : B1 → B2 → B3) : xbr c x y A3 B3 := by
  cases c <;> exact ⟨fun h => hA (h1.1 h) (h2.1 h), fun h => hB (h1.2 h) (h2.2 h)⟩
theorem xtab_a {x : Int} {g1 g2 g3 : Int → Prop} (hg : ∀ o, g1 o → g2 o → g3 o) : ∀ (os : List Int) (lo : Int), xtab x g1 lo os → xtab x g2 lo os → xtab x g3 lo os := by
  intro os
  induction os with
  | nil => intro _ _ _; exact trivial
  | cons o os ih => intro lo h1 h2; exact ⟨fun h => hg o (h1.1 h) (h2.1 h), ih (lo + 1) h1.2 h2.2⟩
theorem xldi_a {L : List xV} {i : Nat} {f1 f2 f3 : Int → Prop} (h1 : xldi L i f1) (h2 : xldi L i f2) (hf : ∀ x, f1 x → f2 x → f3 x) : xldi L i f3 := by
  unfold xldi at *
  cases h : L[i]? with
  | none => rw [h] at h1; exact h1.elim
  | some v =>
    rw [h] at h1 h2
    match v, h1, h2 with
    | .inl x, h1, h2 => exact hf x h1 h2
    | .inr _, h1, _ => exact h1.elim
theorem xldl_a {L : List xV} {i : Nat} {f1 f2 f3 : Int → Prop} (h1 : xldl L i f1) (h2 : xldl L i f2) (hf : ∀ x, f1 x → f2 x → f3 x) : xldl L i f3 := by
  unfold xldl at *
  cases h : L[i]? with
  | none => rw [h] at h1; exact h1.elim
  | some v =>
    rw [h] at h1 h2
    match v, h1, h2 with
    | .inr (.inl x), h1, h2 => exact hf x h1 h2
    | .inl _, h1, _ => exact h1.elim
    | .inr (.inr _), h1, _ => exact h1.elim
theorem xldr_a {L : List xV} {i : Nat} {f1 f2 f3 : Nat → Prop} (h1 : xldr L i f1) (h2 : xldr L i f2) (hf : ∀ x, f1 x → f2 x → f3 x) : xldr L i f3 := by
  unfold xldr at *
  cases h : L[i]? with
  | none => rw [h] at h1; exact h1.elim
  | some v =>
    rw [h] at h1 h2
    match v, h1, h2 with
    | .inr (.inr (.inl x)), h1, h2 => exact hf x h1 h2
    | .inl _, h1, _ => exact h1.elim
    | .inr (.inl _), h1, _ => exact h1.elim
    | .inr (.inr (.inr _)), h1, _ => exact h1.elim
theorem xarr_a {sh : xH} {t : Nat} {f1 f2 f3 : Nat → Nat → Prop} (h1 : xarr sh t f1) (h2 : xarr sh t f2) (hf : ∀ k n, f1 k n → f2 k n → f3 k n) : xarr sh t f3 := by
  unfold xarr at *
  cases h : sh t with
  | none => rw [h] at h1; exact h1.elim
  | some v =>
    rw [h] at h1 h2
    match v, h1, h2 with
    | (k + 1, n, _), h1, h2 => exact hf k n h1 h2
    | (0, _, _), h1, _ => exact h1.elim
theorem xget_a {sh : xH} {fld : Nat → Option (Nat × Nat)} {idx t : Nat} {σ : xS} {K1 K2 K3 : xV → Prop} (h1 : xget sh fld idx t σ K1) (h2 : xget sh fld idx t σ K2) (hf : ∀ v, K1 v → K2 v → K3 v) : xget sh fld idx t σ K3 := by
  unfold xget at *
  cases hq : fld idx with
  | none => rw [hq] at h1; exact h1.elim
  | some q =>
    rw [hq] at h1 h2
    obtain ⟨ci, j⟩ := q
    dsimp only at h1 h2 ⊢
    cases hs : sh t with
    | none => rw [hs] at h1; exact h1.elim
    | some e =>
      rw [hs] at h1 h2
      match e, h1, h2 with
      | (0, ci', codes), h1, h2 =>
        change (if ci = ci' then _ else _) at h1
        change (if ci = ci' then _ else _) at h2
        show (if ci = ci' then _ else _)
        by_cases e : ci = ci'
        · rw [if_pos e] at h1 h2 ⊢
          cases hc : codes[j]? with
          | none => rw [hc] at h1; exact h1.elim
          | some c =>
            rw [hc] at h1 h2
            match c, h1, h2 with
            | 0, h1, h2 => exact xf32_a h1 h2 (fun z => hf _)
            | 1, h1, h2 => exact xf64_a h1 h2 (fun z => hf _)
            | 2, h1, h2 => exact xf32_a h1 h2 (fun z => hf _)
            | 3, h1, _ => exact h1.elim
            | c + 4, h1, h2 => exact hf _ h1 h2
        · rw [if_neg e] at h1; exact h1.elim
      | (k + 1, n, l), h1, _ => exact h1.elim
theorem xputf_a {sh : xH} {fld : Nat → Option (Nat × Nat)} {idx t : Nat} {v : xV} {σ : xS} {K1 K2 K3 : xS → Prop} (h1 : xputf sh fld idx t v σ K1) (h2 : xputf sh fld idx t v σ K2) (hf : ∀ s, K1 s → K2 s → K3 s) : xputf sh fld idx t v σ K3 := by
  unfold xputf at *
  cases hq : fld idx with
  | none => rw [hq] at h1; exact h1.elim
  | some q =>
    rw [hq] at h1 h2
    obtain ⟨ci, j⟩ := q
    dsimp only at h1 h2 ⊢
    cases hs : sh t with
    | none => rw [hs] at h1; exact h1.elim
    | some e =>
      rw [hs] at h1 h2
      match e, h1, h2 with
      | (0, ci', codes), h1, h2 =>
        change (if ci = ci' then _ else _) at h1
        change (if ci = ci' then _ else _) at h2
        show (if ci = ci' then _ else _)
        by_cases e : ci = ci'
        · rw [if_pos e] at h1 h2 ⊢
          cases hc : codes[j]? with
          | none =>
            rw [hc] at h1
            match v, h1 with
            | .inl _, h1 => exact h1.elim
            | .inr (.inl _), h1 => exact h1.elim
            | .inr (.inr _), h1 => exact h1.elim
          | some c =>
            rw [hc] at h1 h2
            match c, v, h1, h2 with
            | 0, .inl z, h1, h2 => exact hf _ h1 h2
            | 1, .inr (.inl z), h1, h2 => exact hf _ h1 h2
            | 2, .inl z, h1, h2 => exact ⟨h1.1, hf _ h1.2 h2.2⟩
            | 0, .inr (.inl _), h1, _ => exact h1.elim
            | 0, .inr (.inr _), h1, _ => exact h1.elim
            | 1, .inl _, h1, _ => exact h1.elim
            | 1, .inr (.inr _), h1, _ => exact h1.elim
            | 2, .inr (.inl _), h1, _ => exact h1.elim
            | 2, .inr (.inr _), h1, _ => exact h1.elim
            | c + 3, .inl _, h1, _ => exact h1.elim
            | c + 3, .inr (.inl _), h1, _ => exact h1.elim
            | c + 3, .inr (.inr _), h1, _ => exact h1.elim
        · rw [if_neg e] at h1; exact h1.elim
      | (k + 1, n, l), h1, _ => exact h1.elim
theorem xstore_a {sh : xH} {t : Nat} {i v : Int} {σ : xS} {K1 K2 K3 : xS → Prop} (h1 : xstore sh t i v σ K1) (h2 : xstore sh t i v σ K2) (hf : ∀ s, K1 s → K2 s → K3 s) : xstore sh t i v σ K3 := by
  unfold xstore at *
  refine xarr_a h1 h2 (fun k n g1 g2 => ⟨g1.1, ?_⟩)
  match k, g1.2, g2.2 with
  | 0, g1, g2 => exact hf _ g1 g2
  | 1, g1, g2 => exact hf _ g1 g2
  | 2, g1, _ => exact g1.elim
  | 3, g1, g2 => exact hf _ g1 g2
  | k + 4, g1, _ => exact g1.elim
theorem xretI_a {rt : Nat} {x : Int} {P1 P2 P3 : Prop} (h1 : xretI rt x P1) (h2 : xretI rt x P2) (hf : P1 → P2 → P3) : xretI rt x P3 := by
  match rt, h1, h2 with
  | 1, h1, h2 => exact hf h1 h2
  | 2, h1, h2 => exact ⟨h1.1, hf h1.2 h2.2⟩
  | 0, h1, _ => exact h1.elim
  | k + 3, h1, _ => exact h1.elim
/-- a callee: two ends hold together -/
def xPJ (E : xE) : Prop := ∀ (as : List xV) (σ : xS) (K1 K2 K3 : Option xV → xS → Prop), E as σ K1 → E as σ K2 → (∀ r s, K1 r s → K2 r s → K3 r s) → E as σ K3
theorem xcall_a {env : Nat → Option (Nat × xE)} (henv : ∀ i n E, env i = some (n, E) → xPJ E) {idx : Nat} {st : List xV} {σ : xS} {K1 K2 K3 : Option xV → List xV → xS → Prop} (h1 : xcall env idx st σ K1) (h2 : xcall env idx st σ K2) (hf : ∀ r st s, K1 r st s → K2 r st s → K3 r st s) : xcall env idx st σ K3 := by
  unfold xcall at *
  cases he : env idx with
  | none => rw [he] at h1; exact h1.elim
  | some q =>
    rw [he] at h1 h2
    obtain ⟨n, E⟩ := q
    try dsimp only at h1 h2 ⊢
    by_cases e : n ≤ st.length ∧ (st.drop n).length ≤ 4
    · rw [if_pos e] at h1 h2 ⊢
      exact henv idx n E he _ _ _ _ _ h1 h2 (fun r s => hf r _ s)
    · rw [if_neg e] at h1; exact h1.elim
theorem xto_a {jmp : Nat → Option (List xI)} {X1 X2 X3 : Nat → List xV → xS → Prop} (hX : ∀ c L σ, X1 c L σ → X2 c L σ → X3 c L σ) {f1 f2 f3 : List xI → Prop} (hf : ∀ k, f1 k → f2 k → f3 k) {t : Int} {L st : List xV} {σ : xS} (h1 : xto jmp X1 f1 t L st σ) (h2 : xto jmp X2 f2 t L st σ) : xto jmp X3 f3 t L st σ := by
  match t, h1, h2 with
  | .ofNat t, h1, h2 =>
    unfold xto at h1 h2 ⊢
    dsimp only at h1 h2 ⊢
    cases hj : jmp t with
    | some k => rw [hj] at h1 h2; exact hf k h1 h2
    | none =>
      rw [hj] at h1 h2
      match st, h1, h2 with
      | [], h1, h2 => exact hX _ _ _ h1 h2
      | _ :: _, h1, _ => exact h1.elim
  | .negSucc _, h1, _ => exact h1.elim

