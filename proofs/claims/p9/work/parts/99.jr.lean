set_option maxHeartbeats 4000000 in
set_option maxRecDepth 100000 in
theorem sX10_heapF {f : Nat → Int} {σ : xS} {i : Int} {Q : Option xV → xS → Prop} (hp0 : gmC 2 σ f) (hp1 : VX f) (hQ : ∀ r : Int, (ansN (0 ≤ i ∧ i < f 7) r (f (8 + i.toNat))) → Q (some (xvi r)) σ) : xT kX10_heap [xvr 0, xvi i] σ Q := by
  refine ⟨Nat.le_of_ble_eq_true rfl, fun X hX => ?_⟩
  show X 0 [xvr 0, xvi i] σ
  refine hX 400 0 _ _ ?_
  have hH : ∀ k : Nat, (k : Int) < f 7 → σ 6 ((σ 2 8).toNat + k) = f (8 + k) := hp0.1.2.2.1.1.2
  have h89 : 0 ≤ σ 2 8 ∧ σ 2 9 - σ 2 8 = f 7 := hp0.1.2.2.1.1.1
  have h9x : σ 2 9 ≤ 52 := hp0.1.2.2.2.2.1
  have h7x := hp1.1.1.2.2.2
  have lp_35 : ∀ (_ : Unit), (¬ (0 ≤ i ∧ i < f 7)) → X 35 [xvr 0, xvi i] σ := by
    intro _ hv_35
    refine hX 400 35 _ _ ?_
    refine And.intro rfl ?_
    first | exact hQ _ (Or.inl ⟨by omega, by omega⟩) | exact hQ _ (Or.inr ⟨hv_35, rfl⟩)
  refine And.intro (fun c2 => ?_) (fun c2 => ?_)
  · exact lp_35 () (show ¬ (0 ≤ i ∧ i < f 7) from by first | trivial | omega | (refine ⟨by assumption, ?_⟩; omega) | (refine ⟨?_, ?_⟩ <;> omega))
  · refine gx_heapSize2 (sh := shB0) (f := f) (σ := σ) rfl hp0 hp1 (fun r3 p3 => ?_)
    refine And.intro (fun c4 => ?_) (fun c4 => ?_)
    · exact lp_35 () (show ¬ (0 ≤ i ∧ i < f 7) from by first | trivial | omega | (refine ⟨by assumption, ?_⟩; omega) | (refine ⟨?_, ?_⟩ <;> omega))
    · intro v5 e5 l5 h5
      have e5 : v5 = σ 2 8 := e5
      intro z6 t6 e6 l6 h6
      try have w6 : t6 = 0 := by omega
      refine And.intro (rfl) (And.intro (⟨by omega, by omega⟩) ?_)
      intro v7 e7 l7 h7
      have e7 : v7 = σ 6 z6.toNat := e7
      replace e7 : v7 = f (8 + i.toNat) := by
        rw [e7, show z6.toNat = (σ 2 8).toNat + i.toNat from by omega]; exact hH _ (by omega)
      refine And.intro rfl ?_
      first | exact hQ _ (Or.inl ⟨by omega, by omega⟩) | exact hQ _ (Or.inr ⟨hv_35, rfl⟩)
def heapEF : vE := fun w as σ Q => ∃ (i : Int) (f : Nat → Int), as = [xvr 0, xvi i] ∧ JW w σ ∧ gmC 2 σ f ∧ VX f ∧ ∀ r : Int, JW w σ → ansN (0 ≤ i ∧ i < f 7) r (f (8 + i.toNat)) → Q (some (xvi r)) w σ
theorem mvX10_heapF (l : Launch) (D : va_G) (yv : Nat → ClassId) : vMt l D yv yX10_heap cX10_heap 2 (some .int) 1 (fun _ => 0) (fun _ => 0) heapEF := by
  refine (vOf1 (mX10_heap l D yv) subB0 (by decide)).mono (fun w as σ Q h => ?_)
  obtain ⟨i, f, rfl, hJ, hf, hv, hQ⟩ := h
  refine ⟨by rfl, ?_⟩
  exact sX10_heapF (f := f) (σ := xsel tB σ) (hf.eq (fun t h1 h2 => selB (by omega))) hv (fun r p => by show Q _ w (xbk tB σ (xsel tB σ)); rw [xbk_sel]; exact hQ r hJ p)
/-! The reference's calls: both specs at once. -/
theorem s_heapJ {σ : xS} {i : Int} {Q : Option xV → xS → Prop} (hI : RI σ) (hp1_ : TV (σ 2)) (hQ : ∀ r : Int, ∀ σ' : xS, (RK σ σ') → Fr [] [0] σ σ' → (ansN (0 ≤ i ∧ i < σ 2 7) r (σ 2 (8 + i.toNat))) → Q (some (xvi r)) σ') : xT kX11_heap [xvr 0, xvi i] σ Q := by
  refine jkX11_heap _ _ (fun o ς => ∃ r : Int, o = some (xvi r) ∧ (RK σ ς)) (fun o ς => ∃ r : Int, o = some (xvi r) ∧ Fr [] [0] σ ς ∧ ((ansN (0 ≤ i ∧ i < σ 2 7) r (σ 2 (8 + i.toNat))))) _ (s_heap hI (fun r ς p => ⟨r, rfl, p⟩)) (s_heapF hI hp1_ (fun r ς f p => ⟨r, rfl, f, p⟩)) (fun o ς h1 h2 => ?_)
  obtain ⟨r, rfl, p0⟩ := h1
  obtain ⟨r2, e2, f1, p1⟩ := h2
  have e3 : r = r2 := by cases e2; rfl
  subst e3
  exact hQ r ς p0 f1 p1
theorem s_bookJ {σ : xS} {kind : Int} {Q : Option xV → xS → Prop} (hI : RI σ) (hp1_ : TV (σ 2)) (hQ : ∀ r : Int, ∀ σ' : xS, (RK σ σ') → Fr [] [0] σ σ' → (ansN (0 ≤ kind ∧ kind < σ 2 0) r (σ 2 (138 + kind.toNat) - 1)) → Q (some (xvi r)) σ') : xT kX11_book [xvr 0, xvi kind] σ Q := by
  refine jkX11_book _ _ (fun o ς => ∃ r : Int, o = some (xvi r) ∧ (RK σ ς)) (fun o ς => ∃ r : Int, o = some (xvi r) ∧ Fr [] [0] σ ς ∧ ((ansN (0 ≤ kind ∧ kind < σ 2 0) r (σ 2 (138 + kind.toNat) - 1)))) _ (s_book hI (fun r ς p => ⟨r, rfl, p⟩)) (s_bookF hI hp1_ (fun r ς f p => ⟨r, rfl, f, p⟩)) (fun o ς h1 h2 => ?_)
  obtain ⟨r, rfl, p0⟩ := h1
  obtain ⟨r2, e2, f1, p1⟩ := h2
  have e3 : r = r2 := by cases e2; rfl
  subst e3
  exact hQ r ς p0 f1 p1
theorem s_askedJ {σ : xS} {what : Int} {Q : Option xV → xS → Prop} (hI : RI σ) (hp1_ : TV (σ 2)) (hQ : ∀ r : Int, ∀ σ' : xS, (RK σ σ') → Fr [] [0] σ σ' → (ansN (¬ σ 0 24 = 0 ∧ (0 ≤ what ∧ what ≤ 7)) r (σ 7 what.toNat)) → Q (some (xvi r)) σ') : xT kX11_asked [xvr 0, xvi what] σ Q := by
  refine jkX11_asked _ _ (fun o ς => ∃ r : Int, o = some (xvi r) ∧ (RK σ ς)) (fun o ς => ∃ r : Int, o = some (xvi r) ∧ Fr [] [0] σ ς ∧ ((ansN (¬ σ 0 24 = 0 ∧ (0 ≤ what ∧ what ≤ 7)) r (σ 7 what.toNat)))) _ (s_asked hI (fun r ς p => ⟨r, rfl, p⟩)) (s_askedF hI hp1_ (fun r ς f p => ⟨r, rfl, f, p⟩)) (fun o ς h1 h2 => ?_)
  obtain ⟨r, rfl, p0⟩ := h1
  obtain ⟨r2, e2, f1, p1⟩ := h2
  have e3 : r = r2 := by cases e2; rfl
  subst e3
  exact hQ r ς p0 f1 p1
theorem s_heardJ {σ : xS} {what : Int} {Q : Option xV → xS → Prop} (hI : RI σ) (hp1_ : TV (σ 2)) (hQ : ∀ r : Int, ∀ σ' : xS, (RK σ σ') → Fr [] [0] σ σ' → (ansN (¬ σ 0 54 = 0 ∧ (0 ≤ what ∧ what ≤ 3)) r (σ 22 what.toNat)) → Q (some (xvi r)) σ') : xT kX11_heard [xvr 0, xvi what] σ Q := by
  refine jkX11_heard _ _ (fun o ς => ∃ r : Int, o = some (xvi r) ∧ (RK σ ς)) (fun o ς => ∃ r : Int, o = some (xvi r) ∧ Fr [] [0] σ ς ∧ ((ansN (¬ σ 0 54 = 0 ∧ (0 ≤ what ∧ what ≤ 3)) r (σ 22 what.toNat)))) _ (s_heard hI (fun r ς p => ⟨r, rfl, p⟩)) (s_heardF hI hp1_ (fun r ς f p => ⟨r, rfl, f, p⟩)) (fun o ς h1 h2 => ?_)
  obtain ⟨r, rfl, p0⟩ := h1
  obtain ⟨r2, e2, f1, p1⟩ := h2
  have e3 : r = r2 := by cases e2; rfl
  subst e3
  exact hQ r ς p0 f1 p1
theorem s_sweptJ {σ : xS} {i : Int} {Q : Option xV → xS → Prop} (hI : RI σ) (hp1_ : TV (σ 2)) (hQ : ∀ r : Int, ∀ σ' : xS, (RK σ σ') → Fr [] [0] σ σ' → (ansN (0 ≤ i ∧ i < σ 0 37) r (σ 15 i.toNat)) → Q (some (xvi r)) σ') : xT kX11_swept [xvr 0, xvi i] σ Q := by
  refine jkX11_swept _ _ (fun o ς => ∃ r : Int, o = some (xvi r) ∧ (RK σ ς)) (fun o ς => ∃ r : Int, o = some (xvi r) ∧ Fr [] [0] σ ς ∧ ((ansN (0 ≤ i ∧ i < σ 0 37) r (σ 15 i.toNat)))) _ (s_swept hI (fun r ς p => ⟨r, rfl, p⟩)) (s_sweptF hI hp1_ (fun r ς f p => ⟨r, rfl, f, p⟩)) (fun o ς h1 h2 => ?_)
  obtain ⟨r, rfl, p0⟩ := h1
  obtain ⟨r2, e2, f1, p1⟩ := h2
  have e3 : r = r2 := by cases e2; rfl
  subst e3
  exact hQ r ς p0 f1 p1
theorem s_countJ {σ : xS} {what : Int} {Q : Option xV → xS → Prop} (hI : RI σ) (hp1_ : TV (σ 2)) (hQ : ∀ r : Int, ∀ σ' : xS, (RK σ σ') → Fr [] [0] σ σ' → (r = if what = 4 then σ 0 2 else if 0 ≤ what ∧ what ≤ 3 then σ 2 what.toNat else -1) → Q (some (xvi r)) σ') : xT kX11_count [xvr 0, xvi what] σ Q := by
  refine jkX11_count _ _ (fun o ς => ∃ r : Int, o = some (xvi r) ∧ (RK σ ς)) (fun o ς => ∃ r : Int, o = some (xvi r) ∧ Fr [] [0] σ ς ∧ ((r = if what = 4 then σ 0 2 else if 0 ≤ what ∧ what ≤ 3 then σ 2 what.toNat else -1))) _ (s_count hI (fun r ς p => ⟨r, rfl, p⟩)) (s_countF hI hp1_ (fun r ς f p => ⟨r, rfl, f, p⟩)) (fun o ς h1 h2 => ?_)
  obtain ⟨r, rfl, p0⟩ := h1
  obtain ⟨r2, e2, f1, p1⟩ := h2
  have e3 : r = r2 := by cases e2; rfl
  subst e3
  exact hQ r ς p0 f1 p1
theorem s_faultJ {σ : xS}  {Q : Option xV → xS → Prop} (hI : RI σ) (hp1_ : TV (σ 2)) (hQ : ∀ r : Int, ∀ σ' : xS, (RK σ σ') → Fr [] [0] σ σ' → (r = σ 0 15) → Q (some (xvi r)) σ') : xT kX11_fault [xvr 0] σ Q := by
  refine jkX11_fault _ _ (fun o ς => ∃ r : Int, o = some (xvi r) ∧ (RK σ ς)) (fun o ς => ∃ r : Int, o = some (xvi r) ∧ Fr [] [0] σ ς ∧ ((r = σ 0 15))) _ (s_fault hI (fun r ς p => ⟨r, rfl, p⟩)) (s_faultF hI hp1_ (fun r ς f p => ⟨r, rfl, f, p⟩)) (fun o ς h1 h2 => ?_)
  obtain ⟨r, rfl, p0⟩ := h1
  obtain ⟨r2, e2, f1, p1⟩ := h2
  have e3 : r = r2 := by cases e2; rfl
  subst e3
  exact hQ r ς p0 f1 p1
theorem s_nowJ {σ : xS} {what : Int} {Q : Option xV → xS → Prop} (hI : RI σ) (hp1_ : TV (σ 2)) (hQ : ∀ r : Int, ∀ σ' : xS, (RK σ σ') → Fr [] [0] σ σ' → (r = nowF (σ 2) what) → Q (some (xvi r)) σ') : xT kX11_now [xvr 0, xvi what] σ Q := by
  refine jkX11_now _ _ (fun o ς => ∃ r : Int, o = some (xvi r) ∧ (RK σ ς)) (fun o ς => ∃ r : Int, o = some (xvi r) ∧ Fr [] [0] σ ς ∧ ((r = nowF (σ 2) what))) _ (s_now hI (fun r ς p => ⟨r, rfl, p⟩)) (s_nowF hI hp1_ (fun r ς f p => ⟨r, rfl, f, p⟩)) (fun o ς h1 h2 => ?_)
  obtain ⟨r, rfl, p0⟩ := h1
  obtain ⟨r2, e2, f1, p1⟩ := h2
  have e3 : r = r2 := by cases e2; rfl
  subst e3
  exact hQ r ς p0 f1 p1
theorem s_gainsJ {σ : xS} {k : Int} {Q : Option xV → xS → Prop} (hI : RI σ) (hp1_ : TV (σ 2)) (hQ : ∀ r : Int, ∀ σ' : xS, (RK σ σ') → Fr [] [0] σ σ' → (ansN (0 ≤ k ∧ k < σ 2 1) r (gnF (σ 2) k.toNat)) → Q (some (xvi r)) σ') : xT kX11_gains [xvr 0, xvi k] σ Q := by
  refine jkX11_gains _ _ (fun o ς => ∃ r : Int, o = some (xvi r) ∧ (RK σ ς)) (fun o ς => ∃ r : Int, o = some (xvi r) ∧ Fr [] [0] σ ς ∧ ((ansN (0 ≤ k ∧ k < σ 2 1) r (gnF (σ 2) k.toNat)))) _ (s_gains hI (fun r ς p => ⟨r, rfl, p⟩)) (s_gainsF hI hp1_ (fun r ς f p => ⟨r, rfl, f, p⟩)) (fun o ς h1 h2 => ?_)
  obtain ⟨r, rfl, p0⟩ := h1
  obtain ⟨r2, e2, f1, p1⟩ := h2
  have e3 : r = r2 := by cases e2; rfl
  subst e3
  exact hQ r ς p0 f1 p1
theorem s_personJ {σ : xS} {k what : Int} {Q : Option xV → xS → Prop} (hI : RI σ) (hp1_ : TV (σ 2)) (hQ : ∀ r : Int, ∀ σ' : xS, (RK σ σ') → Fr [] [0] σ σ' → (ansN (0 ≤ k ∧ k < σ 2 1) r (prsF (σ 2) k.toNat what)) → Q (some (xvi r)) σ') : xT kX11_person [xvr 0, xvi k, xvi what] σ Q := by
  refine jkX11_person _ _ (fun o ς => ∃ r : Int, o = some (xvi r) ∧ (RK σ ς)) (fun o ς => ∃ r : Int, o = some (xvi r) ∧ Fr [] [0] σ ς ∧ ((ansN (0 ≤ k ∧ k < σ 2 1) r (prsF (σ 2) k.toNat what)))) _ (s_person hI (fun r ς p => ⟨r, rfl, p⟩)) (s_personF hI hp1_ (fun r ς f p => ⟨r, rfl, f, p⟩)) (fun o ς h1 h2 => ?_)
  obtain ⟨r, rfl, p0⟩ := h1
  obtain ⟨r2, e2, f1, p1⟩ := h2
  have e3 : r = r2 := by cases e2; rfl
  subst e3
  exact hQ r ς p0 f1 p1
theorem s_sweepJ {σ : xS} {k : Int} {Q : Option xV → xS → Prop} (hI : RI σ) (hp1_ : TV (σ 2)) (hQ : ∀ r : Int, ∀ σ' : xS, (RK σ σ') → Fr [15] [0, 37] σ σ' → ((¬ (0 ≤ k ∧ k < σ 2 1) ∧ r = -1 ∧ σ' 0 37 = σ 0 37 ∧ σ' 15 = σ 15) ∨ ((0 ≤ k ∧ k < σ 2 1) ∧ r = σ' 0 37 ∧ SWR (σ' 15) (σ' 0 37) (swL (σ 2) k.toNat 13))) → Q (some (xvi r)) σ') : xT kX11_sweep [xvr 0, xvi k] σ Q := by
  refine jkX11_sweep _ _ (fun o ς => ∃ r : Int, o = some (xvi r) ∧ (RK σ ς)) (fun o ς => ∃ r : Int, o = some (xvi r) ∧ Fr [15] [0, 37] σ ς ∧ (((¬ (0 ≤ k ∧ k < σ 2 1) ∧ r = -1 ∧ ς 0 37 = σ 0 37 ∧ ς 15 = σ 15) ∨ ((0 ≤ k ∧ k < σ 2 1) ∧ r = ς 0 37 ∧ SWR (ς 15) (ς 0 37) (swL (σ 2) k.toNat 13))))) _ (s_sweep hI (fun r ς p => ⟨r, rfl, p⟩)) (s_sweepF hI hp1_ (fun r ς f p => ⟨r, rfl, f, p⟩)) (fun o ς h1 h2 => ?_)
  obtain ⟨r, rfl, p0⟩ := h1
  obtain ⟨r2, e2, f1, p1⟩ := h2
  have e3 : r = r2 := by cases e2; rfl
  subst e3
  exact hQ r ς p0 f1 p1
theorem s_knownJ {σ : xS} {k kind : Int} {Q : Option xV → xS → Prop} (hI : RI σ) (hp1_ : VX (σ 2)) (hQ : ∀ r : Int, ∀ σ' : xS, (RK σ σ') → Fr [] [0] σ σ' → (ansN (PK (σ 2) k kind) r (σ 2 (151 + 13 * k.toNat + kind.toNat))) → Q (some (xvi r)) σ') : xT kX11_known [xvr 0, xvi k, xvi kind] σ Q := by
  refine jkX11_known _ _ (fun o ς => ∃ r : Int, o = some (xvi r) ∧ (RK σ ς)) (fun o ς => ∃ r : Int, o = some (xvi r) ∧ Fr [] [0] σ ς ∧ ((ansN (PK (σ 2) k kind) r (σ 2 (151 + 13 * k.toNat + kind.toNat))))) _ (s_known hI (fun r ς p => ⟨r, rfl, p⟩)) (s_knownF hI hp1_ (fun r ς f p => ⟨r, rfl, f, p⟩)) (fun o ς h1 h2 => ?_)
  obtain ⟨r, rfl, p0⟩ := h1
  obtain ⟨r2, e2, f1, p1⟩ := h2
  have e3 : r = r2 := by cases e2; rfl
  subst e3
  exact hQ r ς p0 f1 p1
theorem s_canJ {σ : xS} {k kind : Int} {Q : Option xV → xS → Prop} (hI : RI σ) (hp1_ : VX (σ 2)) (hQ : ∀ r : Int, ∀ σ' : xS, (RK σ σ') → Fr [] [0] σ σ' → (ansN (PK (σ 2) k kind) r (canF (σ 2) k.toNat kind)) → Q (some (xvi r)) σ') : xT kX11_can [xvr 0, xvi k, xvi kind] σ Q := by
  refine jkX11_can _ _ (fun o ς => ∃ r : Int, o = some (xvi r) ∧ (RK σ ς)) (fun o ς => ∃ r : Int, o = some (xvi r) ∧ Fr [] [0] σ ς ∧ ((ansN (PK (σ 2) k kind) r (canF (σ 2) k.toNat kind)))) _ (s_can hI (fun r ς p => ⟨r, rfl, p⟩)) (s_canF hI hp1_ (fun r ς f p => ⟨r, rfl, f, p⟩)) (fun o ς h1 h2 => ?_)
  obtain ⟨r, rfl, p0⟩ := h1
  obtain ⟨r2, e2, f1, p1⟩ := h2
  have e3 : r = r2 := by cases e2; rfl
  subst e3
  exact hQ r ς p0 f1 p1
theorem s_whyJ {σ : xS} {a b kind : Int} {Q : Option xV → xS → Prop} (hI : RI σ) (hp1_ : VX (σ 2)) (hQ : ∀ r : Int, ∀ σ' : xS, (RK σ σ') → Fr [] [0] σ σ' → (ansN (ASK (σ 2) a b kind) r (whyF (σ 2) a b kind.toNat)) → Q (some (xvi r)) σ') : xT kX11_why [xvr 0, xvi a, xvi b, xvi kind] σ Q := by
  refine jkX11_why _ _ (fun o ς => ∃ r : Int, o = some (xvi r) ∧ (RK σ ς)) (fun o ς => ∃ r : Int, o = some (xvi r) ∧ Fr [] [0] σ ς ∧ ((ansN (ASK (σ 2) a b kind) r (whyF (σ 2) a b kind.toNat)))) _ (s_why hI (fun r ς p => ⟨r, rfl, p⟩)) (s_whyF hI hp1_ (fun r ς f p => ⟨r, rfl, f, p⟩)) (fun o ς h1 h2 => ?_)
  obtain ⟨r, rfl, p0⟩ := h1
  obtain ⟨r2, e2, f1, p1⟩ := h2
  have e3 : r = r2 := by cases e2; rfl
  subst e3
  exact hQ r ς p0 f1 p1
theorem s_bentJ {σ : xS} {k rule : Int} {Q : Option xV → xS → Prop} (hI : RI σ) (hp1_ : TV (σ 2)) (hQ : ∀ r : Int, ∀ σ' : xS, (RK σ σ') → Fr [] [0] σ σ' → (ansN ((0 ≤ k ∧ k < σ 2 1) ∧ 0 ≤ rule ∧ rule ≤ 3) r (bentF (σ 2) k.toNat rule)) → Q (some (xvi r)) σ') : xT kX11_bent [xvr 0, xvi k, xvi rule] σ Q := by
  refine jkX11_bent _ _ (fun o ς => ∃ r : Int, o = some (xvi r) ∧ (RK σ ς)) (fun o ς => ∃ r : Int, o = some (xvi r) ∧ Fr [] [0] σ ς ∧ ((ansN ((0 ≤ k ∧ k < σ 2 1) ∧ 0 ≤ rule ∧ rule ≤ 3) r (bentF (σ 2) k.toNat rule)))) _ (s_bent hI (fun r ς p => ⟨r, rfl, p⟩)) (s_bentF hI hp1_ (fun r ς f p => ⟨r, rfl, f, p⟩)) (fun o ς h1 h2 => ?_)
  obtain ⟨r, rfl, p0⟩ := h1
  obtain ⟨r2, e2, f1, p1⟩ := h2
  have e3 : r = r2 := by cases e2; rfl
  subst e3
  exact hQ r ς p0 f1 p1
