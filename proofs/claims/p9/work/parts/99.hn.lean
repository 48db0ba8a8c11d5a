/-! A game begins: on the row. -/
def adP (f : Nat → Int) : Nat → Nat → Int
  | 0 => f
  | p + 1 => adN (adP f p) p (cd f p).toNat
def bkK (f : Nat → Int) (p : Nat) : Nat → Nat → Int
  | 0 => f
  | n + 1 => booksF (bkK f p n) p n
def bkP (f : Nat → Int) (m : Nat) : Nat → Nat → Int
  | 0 => f
  | p + 1 => bkK (bkP f m p) p m
def begF (f : Nat → Int) : Nat → Int := stF (bkP (adP f (f 1).toNat) (f 0).toNat (f 1).toNat) 0
theorem adN_q {f : Nat → Int} {k q : Nat} (hq : q < 6) (hk : k < 6) (hn : q ≠ k) (h0 : 0 ≤ f (229 + k)) : ∀ n : Nat, f (229 + k) + n ≤ 52 → adN f k n (229 + q) = f (229 + q)
  | 0, _ => rfl
  | n + 1, h => by
    obtain ⟨_, b⟩ := adN_o (f := f) (i := 0) (Or.inl (by decide)) hk n h0 (by omega)
    show addsF (adN f k n) k 0 (229 + q) = _
    rw [addsF_o (by omega) (by omega), adN_q hq hk hn h0 n (by omega)]
theorem adN_m {f : Nat → Int} {k : Nat} (hm : MSK f) (hw : ∀ p, p < 6 → 0 ≤ f (229 + p) ∧ f (229 + p) ≤ 52) (hk : k < 6) : ∀ n : Nat, f (229 + k) + n ≤ 52 → MSK (adN f k n)
  | 0, _ => hm
  | n + 1, h => by
    have ih := adN_m hm hw hk n (by omega)
    have wk := hw k hk
    obtain ⟨_, b⟩ := adN_o (f := f) (i := 0) (Or.inl (by decide)) hk n wk.1 (by omega)
    exact ih.adds (fun p hp => by
      by_cases e : p = k
      · subst e; rw [b]; omega
      · rw [adN_q hp hk e wk.1 n (by omega)]; exact hw p hp) hk (by rw [b]; omega)
theorem VS.w {j : Int} {f : Nat → Int} (h : VS j f) : ∀ p, p < 6 → 0 ≤ f (229 + p) ∧ f (229 + p) ≤ 52 := fun p hp => by
  rw [h.2.2.2.2.2.2 p hp]
  have a := sm_nn (n := 13) (g := hd f p) (fun i hi => (h.hand hp hi).1)
  have b := sm_le (n := 13) (g := hd f p) (g' := fun _ => 4) (fun i hi => (h.hand hp hi).2)
  rw [smx_k 13] at b
  split <;> omega
theorem VS.c52 {j : Int} {f : Nat → Int} (h : VS j f) {p : Nat} (hp : p < 6) : 0 ≤ cd f p ∧ cd f p ≤ 52 := by
  have a := sm_nn (n := 13) (g := hd f p) (fun i hi => (h.hand hp hi).1)
  have b := sm_le (n := 13) (g := hd f p) (g' := fun _ => 4) (fun i hi => (h.hand hp hi).2)
  rw [smx_k 13] at b
  exact ⟨a, by show sm 13 (hd f p) ≤ 52; omega⟩
theorem adP_v {f : Nat → Int} (h : VS 0 f) : ∀ p : Nat, p ≤ 6 → VS p (adP f p) ∧ MSK (adP f p) ∧ ∀ i, i < 229 ∨ 547 ≤ i → adP f p i = f i
  | 0, _ => ⟨h, fun p i hp hi => by
      have z := h.2.2.2.2.2.2 p hp
      rw [if_neg (by omega)] at z
      have hi : (i : Int) < f (229 + p) := hi
      omega, fun _ _ => rfl⟩
  | p + 1, hp => by
    obtain ⟨a, m, o⟩ := adP_v h p (by omega)
    have z := a.2.2.2.2.2.2 p (by omega)
    rw [if_neg (by omega)] at z
    have c := h.c52 (p := p) (by omega)
    have ec : cd (adP f p) p = cd f p := sm_congr (fun i hi => o _ (by omega))
    have hn : adP f p (229 + p) + ((cd f p).toNat : Int) ≤ 52 := by omega
    have on : ∀ i, i < 229 ∨ 547 ≤ i → adN (adP f p) p (cd f p).toNat i = adP f p i := fun i hi => (adN_o (f := adP f p) hi (by omega) _ (by omega) hn).1
    have o9 := (adN_o (f := adP f p) (i := 0) (Or.inl (by decide)) (by omega) (cd f p).toNat (by omega) hn).2
    refine ⟨?_, adN_m m a.w (by omega) _ hn, fun i hi => (on i hi).trans (o i hi)⟩
    show VS ((p + 1 : Nat) : Int) (adN (adP f p) p (cd f p).toNat)
    rw [show ((p + 1 : Nat) : Int) = (p : Int) + 1 from by omega]
    refine VS.ag (k := p) (v := cd f p) a (by omega) (fun i hi => ?_) (by rw [if_pos (by omega)]; exact ec.symm) rfl
    unfold IR at hi
    by_cases e : i = 229 + p
    · rw [e, up_s, o9]; omega
    · rw [up_n e]
      by_cases e2 : i < 229 ∨ 547 ≤ i
      · exact on i e2
      · have w := adN_q (f := adP f p) (q := i - 229) (by omega) (show p < 6 by omega) (by omega) (by omega) (cd f p).toNat hn
        rw [show 229 + (i - 229) = i from by omega] at w
        exact w
theorem bkK_v {p : Nat} (hp : p < 6) : ∀ (n : Nat) {f : Nat → Int}, VX f → n ≤ 13 → VX (bkK f p n) ∧ QB f (bkK f p n)
  | 0, _, h, _ => ⟨h, QB.rf⟩
  | n + 1, f, h, hn => by
    obtain ⟨a, b⟩ := bkK_v hp n h (by omega)
    obtain ⟨a', b'⟩ := a.books (kind := n) hp (by omega)
    exact ⟨a', b.tr b'⟩
theorem bkP_v {m : Nat} (hm : m ≤ 13) : ∀ (p : Nat) {f : Nat → Int}, VX f → p ≤ 6 → VX (bkP f m p) ∧ QB f (bkP f m p)
  | 0, _, h, _ => ⟨h, QB.rf⟩
  | p + 1, f, h, hn => by
    obtain ⟨a, b⟩ := bkP_v hm p h (by omega)
    obtain ⟨a', b'⟩ := bkK_v (p := p) (by omega) m a hm
    exact ⟨a', b.tr b'⟩
/-- what stands when a game begins -/
theorem VS.beg {f : Nat → Int} (h : VS 0 f) : VX (begF f) ∧ (∀ i, (i < 7 ∨ 571 ≤ i) → i ≠ 4 → begF f i = f i) ∧ ((begF f 4 = -1) ∨ (0 ≤ begF f 4 ∧ begF f 4 < f 1 ∧ 0 < cd (begF f) (begF f 4).toNat)) := by
  have m := h.1
  obtain ⟨a, ms, o⟩ := adP_v h (f 1).toNat (by have := m.2.1; omega)
  have v : VX (adP f (f 1).toNat) := ⟨a.v0 (by rw [o 1 (by omega)]; have := m.2.1; omega), ms⟩
  obtain ⟨v2, q⟩ := bkP_v (m := (f 0).toNat) (by have := m.1; omega) (f 1).toNat v (by have := m.2.1; omega)
  have e1 := (q 1 (by omega)).trans (o 1 (by omega))
  by_cases c : 0 < f 1
  · obtain ⟨v3, l, t⟩ := v2.st (p := 0) ⟨Int.le_refl 0, by omega⟩
    exact ⟨v3, fun i hi h4 => (l i hi h4).trans ((q i (by omega)).trans (o i (by omega))), by rw [e1] at t; exact t⟩
  · have e : begF f = up (bkP (adP f (f 1).toNat) (f 0).toNat (f 1).toNat) 4 (-1) := by
      unfold begF stF
      rw [show (bkP (adP f (f 1).toNat) (f 0).toNat (f 1).toNat 1).toNat = 0 from by have := m.2.1; omega]
      rfl
    rw [e]
    exact ⟨v2.t (Or.inl rfl), fun i hi h4 => (up_n h4).trans ((q i (by omega)).trans (o i (by omega))), Or.inl up_s⟩
/-- the class's game before it begins -/
def G0 (σ : xS) (f : Nat → Int) : Prop := ((∀ i, i < 4 → σ 0 i = f i) ∧ ∀ j, j < 78 → σ 2 j = f (60 + j)) ∧ GC σ f ∧ (GH σ f ∧ f 7 ≤ 52) ∧ HX σ ∧ ∀ i, i = 5 ∨ i = 6 ∨ (138 ≤ i ∧ i < 235) ∨ (547 ≤ i ∧ i < 571) → f i = 0
theorem G0.fr {σ σ' : xS} {f : Nat → Int} {ts js : List Nat} (H : G0 σ f) (hF : Fr ts js σ σ') (t2 : 2 ∉ ts := by decide) (t3 : 3 ∉ ts := by decide) (t4 : 4 ∉ ts := by decide) (hj : ∀ j ∈ js, ¬ (j < 4 ∨ j = 8 ∨ j = 9) := by decide) : G0 σ' f := by
  obtain ⟨⟨a, b⟩, hC, ⟨hH, h7⟩, hX, z⟩ := H
  exact ⟨⟨fun i hi => by rw [hF.2 i (fun w => hj i w (Or.inl hi))]; exact a i hi, fun j h => by rw [hF.1 2 (by decide) t2]; exact b j h⟩, hC.of (fun j _ => by rw [hF.1 3 (by decide) t3]) (fun _ _ _ => rfl), ⟨hH.of (hF.2 8 (fun w => hj 8 w (by omega))) (hF.2 9 (fun w => hj 9 w (by omega))) (hF.1 4 (by decide) t4) h7 (fun _ _ _ => rfl), h7⟩, hX.of (hF.2 9 (fun w => hj 9 w (by omega))) (hF.1 4 (by decide) t4), z⟩
theorem G0.gr {σ : xS} {f : Nat → Int} (H : G0 σ f) (h5 : ∀ j, j < 13 → σ 5 j = -1) (h6 : ∀ j, j < 6 → σ 6 j = 0) (h7' : ∀ j, j < 6 → σ 7 j = 0) (h8 : ∀ j, j < 6 → σ 8 j = -1) (hA : ∀ j, j < 78 → σ 10 j = 0) (hC' : ∀ j, j < 6 → σ 12 j = 0) (h15 : σ 0 15 = 0) (h16 : σ 0 16 = 0) (h9 : σ 9 2 = 0) : GR σ f := by
  obtain ⟨⟨a, b⟩, hC, hH, hX, z⟩ := H
  refine ⟨fun i t j c h => ?_, hC, hH, ?_, hX⟩
  · rcases mp_e h with ⟨r1, r2, e1, e2, e3⟩ | ⟨r1, r2, e1, e2, e3⟩ | ⟨r1, r2, e1, e2, e3⟩ | ⟨r1, r2, e1, e2, e3⟩ | ⟨r1, r2, e1, e2, e3⟩ | ⟨r1, r2, e1, e2, e3⟩ | ⟨r1, r2, e1, e2, e3⟩ | ⟨r1, r2, e1, e2, e3⟩ | ⟨r1, r2, e1, e2, e3⟩
    · rw [e1, e2, e3, a i r2]; omega
    · have h56 : i = 5 ∨ i = 6 := by omega
      rw [e1, e2, e3]
      rcases h56 with h | h
      · rw [h, z 5 (by omega)]; exact h15
      · rw [h, z 6 (by omega)]; exact h16
    · rw [e1, e2, e3, b _ (by omega), show 60 + (i - 60) = i from by omega]; omega
    · rw [e1, e2, e3, h5 _ (by omega), z i (by omega)]; rfl
    · rw [e1, e2, e3, hA _ (by omega), z i (by omega)]; rfl
    · rw [e1, e2, e3, hC' _ (by omega), z i (by omega)]; rfl
    · rw [e1, e2, e3, h6 _ (by omega), z i (by omega)]; rfl
    · rw [e1, e2, e3, h7' _ (by omega), z i (by omega)]; rfl
    · rw [e1, e2, e3, h8 _ (by omega), z i (by omega)]; rfl
  · rw [h9]
    exact ⟨⟨Int.le_refl 0, fun p hp => by rw [z (229 + p) (by omega)]; rfl, fun i hi => by omega⟩, by decide⟩
theorem VS.all {j : Int} {f : Nat → Int} (h : VS j f) : sm 6 (fun p => cd f p) + f 7 ≤ 52 := by
  have e : sm 6 (fun p => cd f p) = sm 13 (fun k => sm 6 (fun p => hd f p k)) := (smx_swap (g := fun p k => hd f p k) 13).symm
  have c : sm 13 (fun k => ct f (f 7).toNat k) = f 7 := by
    have m := h.1.2.2.2
    show sm 13 (fun k => sm (f 7).toNat (fun i => if f (8 + i) = (k : Int) then 1 else 0)) = f 7
    rw [smx_swap (g := fun i k => if f (8 + i) = (k : Int) then 1 else 0) 13, sm_congr (g' := fun _ => (1 : Int)) (fun i hi => ?_), smx_k]
    · omega
    · have v := h.2.1 i (by omega)
      have m0 := h.1.1
      show sm 13 (fun k => if f (8 + i) = (k : Int) then 1 else 0) = 1
      rw [smx_one 13, if_pos (by omega)]
  have b := sm_le (n := 13) (g := fun k => sm 6 (fun p => hd f p k) + ct f (f 7).toNat k) (g' := fun _ => 4) (fun k hk => by
    obtain ⟨b1, b2⟩ := h.2.2.2.1 k hk
    have s : (0 : Int) ≤ if 0 < f (138 + k) then 4 else 0 := by split <;> decide
    show sm 6 (fun p => hd f p k) + ct f (f 7).toNat k ≤ 4
    omega)
  rw [smx_add, c, smx_k] at b
  rw [e]
  omega
/-- cards of the persons up to p -/
theorem GR.na {σ : xS} {f g : Nat → Int} {p i : Nat} (H : GR σ g) (h : VS 0 f) (hp : p < 6) (hi : (i : Int) < cd f p) (e : ∀ q, q < 6 → g (229 + q) = if q < p then cd f q else if q = p then i else 0) : σ 9 2 ≤ 51 := by
  have s := H.nsum
  have l := sm_le (n := 6) (g := fun q => g (229 + q) + (if q = p then 1 else 0)) (g' := fun q => cd f q) (fun q hq => by
    have c := h.c52 (p := q) hq
    show g (229 + q) + (if q = p then 1 else 0) ≤ cd f q
    rw [e q hq]
    by_cases x : q = p
    · subst x; rw [if_neg (by omega), if_pos rfl, if_pos rfl]; omega
    · rw [if_neg x]
      by_cases y : q < p
      · rw [if_pos y]; omega
      · rw [if_neg y, if_neg x]; omega)
  rw [smx_add, smx_at, if_pos hp, s] at l
  have w := h.all
  have m := h.1.2.2.2
  omega
