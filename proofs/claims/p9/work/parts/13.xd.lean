/-! Data: tables by key, shapes by lists, what is looked up of them. -/
def xlk {α : Type} (l : List (Nat × α)) (k : Nat) : Option α := match l with
  | [] => none
  | q :: l => if q.1 = k then some q.2 else xlk l k
theorem xlk_mem {α : Type} : ∀ {l : List (Nat × α)} {k : Nat} {v : α}, xlk l k = some v → (k, v) ∈ l := by
  intro l
  induction l with
  | nil => intro k v h; cases h
  | cons q l ih =>
    intro k v h
    unfold xlk at h
    by_cases hk : q.1 = k
    · rw [if_pos hk] at h
      cases h
      exact List.mem_cons.mpr (Or.inl (by rw [← hk]))
    · rw [if_neg hk] at h
      exact List.mem_cons_of_mem _ (ih h)
def xenv (l : List (Bool × Nat × Nat × xE)) (k : Nat) : Option (Nat × xE) := match l with
  | [] => none
  | q :: l => if (2 * q.2.1 + if q.1 then 0 else 1) = k then some q.2.2 else xenv l k
def xEs (l : Launch) (D : va_G) (yv : Nat → ClassId) (own : String) (cc : ByteArray) (d N : Nat) (sh : xH) : List (Bool × Nat × Nat × xE) → Prop
  | [] => True
  | q :: r => xCk l D yv own cc d N sh q.1 q.2.1 q.2.2.1 q.2.2.2 ∧ xEs l D yv own cc d N sh r
theorem xenv_ok {l : Launch} {D : va_G} {yv : Nat → ClassId} {own : String} {cc : ByteArray} {d N : Nat} {sh : xH} : ∀ {L : List (Bool × Nat × Nat × xE)}, xEs l D yv own cc d N sh L → ∀ (v : Bool) i n E, xenv L (2 * i + if v then 0 else 1) = some (n, E) → xCk l D yv own cc d N sh v i n E := by
  intro L
  induction L with
  | nil => intro _ v i n E h; cases h
  | cons q L ih =>
    intro h v i n E he
    unfold xenv at he
    by_cases hk : (2 * q.2.1 + if q.1 then 0 else 1) = (2 * i + if v then 0 else 1)
    · rw [if_pos hk] at he
      obtain ⟨v', i', n', E'⟩ := q
      cases he
      have h1 := h.1
      dsimp only at hk h1
      have : v' = v ∧ i' = i := by
        cases v <;> cases v' <;> simp at hk ⊢ <;> omega
      obtain ⟨rfl, rfl⟩ := this
      exact h1
    · rw [if_neg hk] at he
      exact ih h.2 v i n E he
def xFs (own : String) : List (Nat × Nat × Nat) → Prop
  | [] => True
  | q :: r => xFd own q.1 q.2.1 q.2.2 ∧ xFs own r
theorem xFs_ok {own : String} : ∀ {L : List (Nat × Nat × Nat)}, xFs own L → ∀ i ci j, xlk L i = some (ci, j) → xFd own i ci j := by
  intro L
  induction L with
  | nil => intro _ i ci j h; cases h
  | cons q L ih =>
    intro h i ci j he
    unfold xlk at he
    split at he
    · rename_i hk
      obtain ⟨i', ci', j'⟩ := q
      cases he
      dsimp only at hk
      subst hk
      exact h.1
    · exact ih h.2 i ci j he
def xCs (own : String) : List (Nat × (Int ⊕ Int)) → Prop
  | [] => True
  | q :: r => (match q.2 with
    | .inl z => xR32 z ∧ Cond.constant own q.1 (Int32.ofInt z) ∈ gw
    | .inr z => xR64 z ∧ Cond.constantLong own q.1 (Int64.ofInt z) ∈ gw) ∧ xCs own r
theorem xCs_ok {own : String} : ∀ {L : List (Nat × (Int ⊕ Int))}, xCs own L → xCn own (xlk L) := by
  intro L
  induction L with
  | nil => intro _; exact ⟨(fun i z h => by cases h), (fun i z h => by cases h)⟩
  | cons q L ih =>
    intro h
    refine ⟨fun i z he => ?_, fun i z he => ?_⟩
    · unfold xlk at he
      split at he
      · rename_i hk
        obtain ⟨i', w⟩ := q
        cases he
        dsimp only at hk
        subst hk
        exact h.1
      · exact (ih h.2).1 i z he
    · unfold xlk at he
      split at he
      · rename_i hk
        obtain ⟨i', w⟩ := q
        cases he
        dsimp only at hk
        subst hk
        exact h.1
      · exact (ih h.2).2 i z he
theorem xfin_l (l : List (Nat × Nat × List Nat)) : xfin l.length (fun t => l[t]?) := fun t ht => List.getElem?_eq_none ht
def xkinds (T : u_T) (codes : List Nat) : Bool := codes.zipIdx.all (fun q => match q.1 with
  | 0 => decide (parseFieldDescriptor (T q.2).2.2.1 = some .int)
  | 1 => decide (parseFieldDescriptor (T q.2).2.2.1 = some .long)
  | 2 => decide (parseFieldDescriptor (T q.2).2.2.1 = some .boolean)
  | _ => true)
def xshE (e : Nat × Nat × List Nat) : Prop := match e with
  | (0, ci, codes) => ∃ C T NN, vwCl[ci]? = some (C, T, NN) ∧ xkinds T codes = true
  | (_ + 1, n, _) => n < 2147483648
def xSh : List (Nat × Nat × List Nat) → Prop
  | [] => True
  | e :: r => xshE e ∧ xSh r
theorem xSh_mem : ∀ {l : List (Nat × Nat × List Nat)}, xSh l → ∀ e ∈ l, xshE e := by
  intro l
  induction l with
  | nil => intro _ e h; cases h
  | cons q l ih =>
    intro h e he
    rcases List.mem_cons.mp he with rfl | he
    · exact h.1
    · exact ih h.2 e he
theorem xSh_ok {l : List (Nat × Nat × List Nat)} (h : xSh l) : xShp (fun t => l[t]?) ∧ xLn (fun t => l[t]?) := by
  refine ⟨fun t ci codes hs C T NN hc j c hj => ?_, fun t k n r hs => ?_⟩
  · obtain ⟨C', T', NN', h1, h2⟩ := xSh_mem h _ (List.mem_of_getElem? hs)
    rw [hc] at h1
    cases h1
    have h3 := List.all_eq_true.mp h2 (c, j) (List.mem_zipIdx_iff_getElem?.mpr hj)
    refine ⟨fun e => ?_, fun e => ?_, fun e => ?_⟩ <;> subst e <;> exact of_decide_eq_true h3
  · exact xSh_mem h _ (List.mem_of_getElem? hs)
