theorem s_tableJ {σ : xS} {s : TSx} {Q : Option xV → xS → Prop} (hp0 : RI σ) (hp1_ : BYx (σ 1) (σ 0 2)) (hp2_ : ∀ j : Nat, j < 19 → σ 6 j = R8.getD j 0) (hp3_ : TS0 s) (hp4_ : ∀ j : Nat, 765 ≤ j → σ 2 j = 0) (hQ : ∀ r : Int, ∀ σ' : xS, (RZ σ σ') → Fr [2, 3, 5] [0, 2, 3, 4, 5, 11, 12, 13, 14, 15, 16, 17, 18, 19, 20, 21, 22, 27] σ σ' → (TBR s σ σ' r) → Q (some (xvi r)) σ') : xT kX11_table [xvr 0] σ Q := by
  refine jkX11_table _ _ (fun o ς => ∃ r : Int, o = some (xvi r) ∧ (RZ σ ς)) (fun o ς => ∃ r : Int, o = some (xvi r) ∧ Fr [2, 3, 5] [0, 2, 3, 4, 5, 11, 12, 13, 14, 15, 16, 17, 18, 19, 20, 21, 22, 27] σ ς ∧ ((TBR s σ ς r))) _ (s_table hp0 (fun r ς p => ⟨r, rfl, p⟩)) (s_tableF2 hp0 hp1_ hp2_ hp3_ hp4_ (fun r ς f p => ⟨r, rfl, f, p⟩)) (fun o ς h1 h2 => ?_)
  obtain ⟨r, rfl, p0⟩ := h1
  obtain ⟨r2, e2, f1, p1⟩ := h2
  have e3 : r = r2 := by cases e2; rfl
  subst e3
  exact hQ r ς p0 f1 p1
theorem s_oddsJ {σ : xS} {o q kind what : Int} {Q : Option xV → xS → Prop} (hI : RI σ) (hQ : ∀ r : Int, ∀ σ' : xS, RK σ σ' → RKs σ σ' → Q (some (xvl r)) σ') : xT kX11_odds [xvr 0, xvi o, xvi q, xvi kind, xvi what] σ Q :=
  s_oddsK hI (fun r σ' h => hQ r σ' h.rk h)
theorem s_next_J {σ : xS} {o kind what : Int} {Q : Option xV → xS → Prop} (hI : RI σ) (hQ : ∀ r : Int, ∀ σ' : xS, RK σ σ' → RKs σ σ' → Q (some (xvl r)) σ') : xT kX11_next_ [xvr 0, xvi o, xvi kind, xvi what] σ Q :=
  s_next_K hI (fun r σ' h => hQ r σ' h.rk h)
theorem s_whomJ {σ : xS} {o : Int} {Q : Option xV → xS → Prop} (hI : RI σ) (hQ : ∀ r : Int, ∀ σ' : xS, RK σ σ' → RKs σ σ' → Q (some (xvi r)) σ') : xT kX11_whom [xvr 0, xvi o] σ Q :=
  s_whomK hI (fun r σ' h => hQ r σ' h.rk h)
theorem s_openJ {σ : xS} {Q : Option xV → xS → Prop} (hI : RI σ) (hQ : ∀ r : Int, ∀ σ' : xS, RK σ σ' → RKs σ σ' → Q (some (xvi r)) σ') : xT kX11_open [xvr 0] σ Q :=
  s_openK hI (fun r σ' h => hQ r σ' h.rk h)
theorem s_firstJ {σ : xS} {Q : Option xV → xS → Prop} (hI : RI σ) (hQ : ∀ r : Int, ∀ σ' : xS, RK σ σ' → RKs σ σ' → Q (some (xvi r)) σ') : xT kX11_first [xvr 0] σ Q :=
  s_firstK hI (fun r σ' h => hQ r σ' h.rk h)
theorem s_saidJ {σ : xS} {k : Int} {Q : Option xV → xS → Prop} (hI : RI σ) (hQ : ∀ r : Int, ∀ σ' : xS, RK σ σ' → RKs σ σ' → Q (some (xvi r)) σ') : xT kX11_said [xvr 0, xvi k] σ Q :=
  s_saidK hI (fun r σ' h => hQ r σ' h.rk h)
theorem s_sentenceJ {σ : xS} {Q : Option xV → xS → Prop} (hp0 : RI σ) (hQ : ∀ r : Int, ∀ σ' : xS, RZ σ σ' → RZS σ σ' → Q (some (xvi r)) σ') : xT kX11_sentence [xvr 0] σ Q :=
  s_sentenceK hp0 (fun r σ' h => hQ r σ' h.1 h)

