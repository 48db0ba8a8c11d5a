theorem GL.mg {w : Nat → Bool} {σ σ1 : xS} {N : Nat} (h : GL w σ (xsel tM σ)) (hN : N = 194 ∨ N = 195) : GL w σ (xsel tM (mgS N σ σ1)) := by
  have e : ∀ t, 196 ≤ t → mgS N σ σ1 t = σ t := fun t ht => if_neg (by omega)
  exact h.rr (fun i _ => congrFun (e 198 (by omega)) i) (fun q _ => congrFun (e 201 (by omega)) q) (e 203 (by omega)) (e 204 (by omega)) (e 221 (by omega)) (e 222 (by omega)) (e 223 (by omega)) (congrFun (e 196 (by omega)) 24) (congrFun (e 196 (by omega)) 27)
theorem xbk_m {σ ς : xS} {t : Nat} (ht : t < 194) : xbk tM σ ς t = σ t := by
  have hx : xix tM t = none := by
    cases hi : xix tM t with
    | none => rfl
    | some i =>
      have hm := List.mem_of_getElem? (xix_e hi)
      simp only [tM, List.mem_cons, List.not_mem_nil, or_false] at hm
      omega
  unfold xbk
  rw [hx]
/-- behind both calls -/
theorem GL.fin {w : Nat → Bool} {σ1 σ2 ς : xS} (h : GL w σ1 ς) (e : ∀ t, t < 194 → σ2 t = σ1 t) : GL w (xbk tM σ2 ς) (xsel tM (xbk tM σ2 ς)) :=
  (h.cls (w' := w) (σ' := xbk tM σ2 ς) ⟨fun u hu => (xbk_m (by omega)).trans (e u (by omega)), fun _ _ _ => rfl⟩).rr (fun _ _ => rfl) (fun _ _ => rfl) rfl rfl rfl rfl rfl rfl rfl
/-- between two calls of the law, with the game in full -/
def LIG (a : Nat → Nat) (ρ : Nat → Nat → Option Nat) (w : Nat → Bool) (σ : xS) (b : Nat) : Prop := LI a ρ w σ b ∧ GL w σ (xsel tM σ)
