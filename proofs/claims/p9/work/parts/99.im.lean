/-! From the row to what the class's parts want: CG and JG. -/
theorem gcf_n {h : Nat → Int} {k : Nat} : ∀ (n : Nat) (a : Int), 0 ≤ a → a + n ≤ 52 → gcf h a (a + n) k = sm n (fun i => if h (a.toNat + i) = (k : Int) then 1 else 0)
  | 0, a, h0, h1 => sm_z (fun i hi => if_neg (fun z => by have := z.1; have := z.2.1; omega))
  | n + 1, a, h0, h1 => by
    have z := gcf_n (h := h) (k := k) n (a + 1) (by omega) (by omega)
    rw [gcf_s (h := h) (k := k) h0 (show a < a + ((n + 1 : Nat) : Int) by omega) (by omega), show a + ((n + 1 : Nat) : Int) = a + 1 + (n : Int) from by omega, z]
    have y := sm_sh (n := n) (g := fun i => if h (a.toNat + i) = (k : Int) then (1 : Int) else 0)
    have x : sm n (fun i => if h ((a + 1).toNat + i) = (k : Int) then (1 : Int) else 0) = sm n (fun i => if h (a.toNat + (i + 1)) = (k : Int) then (1 : Int) else 0) := sm_congr (fun i hi => by rw [show (a + 1).toNat + i = a.toNat + (i + 1) from by omega])
    rw [x]
    have y : sm n (fun i => if h (a.toNat + (i + 1)) = (k : Int) then (1 : Int) else 0) = sm (n + 1) (fun i => if h (a.toNat + i) = (k : Int) then (1 : Int) else 0) - (if h (a.toNat + 0) = (k : Int) then (1 : Int) else 0) := y
    rw [y]
    show _ - (if h a.toNat = (k : Int) then (1 : Int) else 0) + _ = _
    omega
theorem GR.cg {σ : xS} {f : Nat → Int} (H : GR σ f) (V : V0 f) : CG σ := by
  have V' := V
  obtain ⟨⟨m0, m1, m3, m7⟩, vH, vK, vO, vB, vD⟩ := V'
  have n0 := H.n0 (i := 0) (by decide)
  have n1 := H.n0 (i := 1) (by decide)
  obtain ⟨⟨g8, g9⟩, gh⟩ := H.2.2.1.1
  obtain ⟨hx1, hx2⟩ := H.2.2.2.2
  have hh : ∀ p k : Nat, p < 6 → k < 13 → σ 2 (13 * p + k) = f (60 + 13 * p + k) := fun p k hp hk => by
    have z := H.1 (60 + (13 * p + k)) 2 (13 * p + k) 0 (by
      unfold mp
      repeat (first | rw [if_pos (by omega)] | rw [if_neg (by omega)])
      rw [show 60 + (13 * p + k) - 60 = 13 * p + k from by omega])
    rw [z, show 60 + (13 * p + k) = 60 + 13 * p + k from by omega]
    omega
  have hu : ∀ p k : Nat, p < 6 → k < 13 → σ 10 (13 * p + k) = f (151 + 13 * p + k) := fun p k hp hk => by
    have z := H.1 (151 + (13 * p + k)) 10 (13 * p + k) 0 (mp_kn (by omega))
    rw [z, show 151 + (13 * p + k) = 151 + 13 * p + k from by omega]
    omega
  refine ⟨⟨by omega, by omega, by omega, hx2⟩, ⟨fun p k hp hk => by rw [hh p k hp hk]; exact (V.hand hp hk).1, fun k hk => ?_⟩, fun p k hp hk => ?_, ⟨H.2.2.2.1.1.1, H.2.2.2.1.2⟩⟩
  · have b := (vB k hk).2
    have b2 := (vB k hk).1
    have e1 : sm 6 (fun p => σ 2 (13 * p + k)) = sm 6 (fun p => hd f p k) := sm_congr (fun p hp => hh p k hp hk)
    have e2 : gcf (σ 4) (σ 0 8) (σ 0 9) k = ct f (f 7).toNat k := by
      rw [show σ 0 9 = σ 0 8 + (((f 7).toNat : Nat) : Int) from by omega, gcf_n (f 7).toNat (σ 0 8) g8 (by omega)]
      exact sm_congr (fun i hi => by rw [gh i (by omega)])
    unfold gsf
    rw [e1, e2]
    split at b <;> omega
  · rw [hh p k hp hk, hu p k hp hk]
    have z := kn_r V hp hk
    omega
/-- a game of the class in a world, at tags from a on, is the row f -/
def gmC (a : Nat) (σ : xS) (f : Nat → Int) : Prop := GR (xsel (g13 a) σ) f ∧ σ a 14 = f 4
theorem g13_at {a t : Nat} (h : t < 13) : (g13 a).getD t 0 = a + t := by
  have e : t = 0 ∨ t = 1 ∨ t = 2 ∨ t = 3 ∨ t = 4 ∨ t = 5 ∨ t = 6 ∨ t = 7 ∨ t = 8 ∨ t = 9 ∨ t = 10 ∨ t = 11 ∨ t = 12 := by omega
  rcases e with rfl | rfl | rfl | rfl | rfl | rfl | rfl | rfl | rfl | rfl | rfl | rfl | rfl <;> rfl
theorem xsel13 {a t : Nat} {σ : xS} (h : t < 13) : xsel (g13 a) σ t = σ (a + t) := by
  show σ ((g13 a).getD t 0) = _
  rw [g13_at h]
theorem GR.loc {σ σ' : xS} {f : Nat → Int} (H : GR σ f) (e : ∀ t, t < 13 → σ' t = σ t) : GR σ' f := by
  obtain ⟨a, b, ⟨c1, c2⟩, ⟨d1, d2⟩, h⟩ := H
  refine ⟨fun i t j c hm => ?_, fun p hp => by rw [e 3 (by decide)]; exact b p hp, ⟨?_, c2⟩, ?_, ?_⟩
  · have := mp_e hm
    rw [e t (by omega)]
    exact a i t j c hm
  · unfold GH at c1 ⊢
    rw [e 0 (by decide), e 4 (by decide)]
    exact c1
  · rw [e 11 (by decide), e 9 (by decide)]
    exact ⟨d1, d2⟩
  · unfold HX at h ⊢
    rw [e 0 (by decide), e 4 (by decide)]
    exact h
/-- the same game, at tags b on in another state -/
theorem gmC.to {a b : Nat} {σ σ' : xS} {f : Nat → Int} (h : gmC a σ f) (e : ∀ t, t < 13 → σ' (b + t) = σ (a + t)) : gmC b σ' f := by
  refine ⟨h.1.loc (fun t ht => by rw [xsel13 ht, xsel13 ht]; exact e t ht), ?_⟩
  have z := congrFun (e 0 (by decide)) 14
  rw [show b + 0 = b from rfl, show a + 0 = a from rfl] at z
  rw [z]
  exact h.2
theorem gmC.eq {a : Nat} {σ σ' : xS} {f : Nat → Int} (h : gmC a σ f) (e : ∀ t, a ≤ t → t < a + 13 → σ' t = σ t) : gmC a σ' f := h.to (fun t ht => e (a + t) (by omega) (by omega))

