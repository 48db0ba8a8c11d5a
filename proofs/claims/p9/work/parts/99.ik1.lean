theorem xMV_pj {sh : xH} {ci : Nat} {τ : List Nat} {E : xE} (h : xPJ E) : xPJ (xMV sh ci τ E) := xIV_pj (E := fun as σ Q => if xallB τ as = true then xMm τ E as σ Q else False) (xMS_pj h)
def xAllPJ : List (Bool × Nat × Nat × xE) → Prop
  | [] => True
  | q :: r => xPJ q.2.2.2 ∧ xAllPJ r
theorem xenv_pj : ∀ {L : List (Bool × Nat × Nat × xE)}, xAllPJ L → ∀ i n E, xenv L i = some (n, E) → xPJ E := by
  intro L
  induction L with
  | nil => intro _ i n E h; cases h
  | cons q L ih =>
    intro h i n E he
    unfold xenv at he
    by_cases hk : (2 * q.2.1 + if q.1 then 0 else 1) = i
    · rw [if_pos hk] at he
      have e2 : q.2.2.2 = E := congrArg Prod.snd (Option.some.inj he)
      exact e2 ▸ h.1
    · rw [if_neg hk] at he
      exact ih h.2 i n E he

