/-! The reference stands at the TOKEN that begins at p. -/
def RRs (σ : xS) (b : Nat → Int) (n m p : Int) : Prop := tct (σ 0 11) (σ 0 14) (σ 0 17) = tkc b n m p ∧ (0 ≤ σ 0 11 ∧ σ 0 11 ≤ 4) ∧ (σ 0 11 = 3 → sgC (σ 0 14)) ∧ (tkc b n m p = 301 → σ 0 14 = tkv b n m p ∧ 0 ≤ tkv b n m p ∧ tkv b n m p < 1000) ∧ (tkc b n m p = 300 → σ 0 17 = tkw b n m p) ∧ σ 0 12 = tka b n m p ∧ σ 0 4 = tkp b n m p
theorem tct_c {k v w v2 w2 : Int} (h1 : k = 3 ∨ k = 2 → v = v2) (h2 : k = 1 → w = w2) : tct k v w = tct k v2 w2 := by
  unfold tct
  by_cases z0 : k = 0
  · rw [if_pos z0, if_pos z0]
  · rw [if_neg z0, if_neg z0]
    by_cases z2 : k = 2
    · rw [if_pos z2, if_pos z2]
    · rw [if_neg z2, if_neg z2]
      by_cases z3 : k = 3
      · rw [if_pos z3, if_pos z3]; exact h1 (Or.inl z3)
      · rw [if_neg z3, if_neg z3]
        by_cases z1 : k = 1
        · rw [if_pos z1, if_pos z1, h2 z1]
        · rw [if_neg z1, if_neg z1]
theorem NXT.rr {σ : xS} {b : Nat → Int} {n m p : Int} (h : NXT b n m p (σ 0 11) (σ 0 14) (σ 0 17) (σ 0 12) (σ 0 4)) : RRs σ b n m p := by
  obtain ⟨e1, e2, e3, e4, e5⟩ := nxt_e h
  obtain ⟨r1, r2, r3⟩ := h.rg
  have hc : tct (σ 0 11) (σ 0 14) (σ 0 17) = tkc b n m p := by
    unfold tkc
    rw [← e1]
    exact tct_c e2 e3
  have hr := tct_r (k := σ 0 11) (v := σ 0 14) (w := σ 0 17) r1 r2
  refine ⟨hc, r1, r2, fun h => ?_, fun h => ?_, e4, e5⟩
  · have z2 : σ 0 11 = 2 := by rw [← hc] at h; omega
    have f4 : σ 0 14 = tkv b n m p := e2 (Or.inr z2)
    rw [← f4]; exact ⟨rfl, r3 z2⟩
  · have z1 : σ 0 11 = 1 := by rw [← hc] at h; omega
    exact e3 z1
theorem RRs.tr {σ : xS} {b : Nat → Int} {n m p : Int} (h : RRs σ b n m p) : (σ 0 11 = 0 ∧ tkc b n m p = 302) ∨ (σ 0 11 = 4 ∧ tkc b n m p = 303) ∨ (σ 0 11 = 3 ∧ tkc b n m p = σ 0 14 ∧ (σ 0 14 = 59 ∨ σ 0 14 = 40 ∨ σ 0 14 = 41 ∨ (60 ≤ σ 0 14 ∧ σ 0 14 ≤ 62))) ∨ (σ 0 11 = 2 ∧ tkc b n m p = 301) ∨ (σ 0 11 = 1 ∧ ((0 ≤ tkc b n m p ∧ tkc b n m p < 19) ∨ tkc b n m p = 300)) := by
  have hr := tct_r (k := σ 0 11) (v := σ 0 14) (w := σ 0 17) h.2.1 h.2.2.1
  rw [h.1] at hr
  exact hr
theorem RRs.w {σ : xS} {b : Nat → Int} {n m p : Int} (h : RRs σ b n m p) {j : Nat} (hj : j < 19) : tkc b n m p = j ↔ (σ 0 11 = 1 ∧ σ 0 17 = R8.getD j 0) := by
  have e := tct_w (k := σ 0 11) (v := σ 0 14) (w := σ 0 17) hj h.2.1 h.2.2.1
  rw [h.1] at e
  exact e
theorem RRs.nm {σ : xS} {b : Nat → Int} {n m p : Int} (h : RRs σ b n m p) : tkc b n m p = 300 ↔ (σ 0 11 = 1 ∧ ∀ j : Nat, j < 19 → ¬ R8.getD j 0 = σ 0 17) := by
  have ht := h.tr
  refine ⟨fun hc => ?_, fun hc => ?_⟩
  · have h1 : σ 0 11 = 1 := by omega
    exact ⟨h1, fun j hj he => by have := (h.w hj).mpr ⟨h1, he.symm⟩; omega⟩
  · rcases ht with t | t | t | t | ⟨t1, t2⟩
    · omega
    · omega
    · omega
    · omega
    · rcases t2 with t2 | t2
      · have e : tkc b n m p = ((tkc b n m p).toNat : Int) := by omega
        have f := (h.w (j := (tkc b n m p).toNat) (by omega)).mp e
        exact absurd f.2.symm (hc.2 _ (by omega))
      · exact t2
set_option maxHeartbeats 4000000 in
set_option maxRecDepth 100000 in
theorem s_isWordR {σ : xS} {w : Int} {Q : Option xV → xS → Prop} (hQ : ∀ r : Int, ((r = 1 ∧ σ 0 11 = 1 ∧ σ 0 17 = w) ∨ (r = 0 ∧ ¬ (σ 0 11 = 1 ∧ σ 0 17 = w))) → Q (some (xvi r)) σ) : xT kX11_isWord [xvr 0, xvl w] σ Q := by
  refine ⟨Nat.le_of_ble_eq_true rfl, fun X hX => ?_⟩
  show X 0 [xvr 0, xvl w, xvu] σ
  refine hX 400 0 _ _ ?_
  intro v1 e1 l1 h1
  have e1 : v1 = σ 0 11 := e1
  refine And.intro (fun c2 => ?_) (fun c2 => ?_)
  · refine hX 400 21 _ _ ?_
    refine And.intro rfl ?_
    refine And.intro (by omega) ?_
    exact hQ _ (show (0 = 1 ∧ σ 0 11 = 1 ∧ σ 0 17 = w) ∨ (0 = 0 ∧ ¬ (σ 0 11 = 1 ∧ σ 0 17 = w)) from by first | trivial | omega)
  · intro v3 e3 l3 h3
    have e3 : v3 = σ 0 17 := e3
    intro z4 a4 b4 c4 l4 h4
    refine And.intro (fun c5 => ?_) (fun c5 => ?_)
    · refine hX 400 21 _ _ ?_
      refine And.intro rfl ?_
      refine And.intro (by omega) ?_
      exact hQ _ (show (0 = 1 ∧ σ 0 11 = 1 ∧ σ 0 17 = w) ∨ (0 = 0 ∧ ¬ (σ 0 11 = 1 ∧ σ 0 17 = w)) from by first | trivial | omega)
    · refine And.intro rfl ?_
      refine And.intro (by omega) ?_
      exact hQ _ (show (1 = 1 ∧ σ 0 11 = 1 ∧ σ 0 17 = w) ∨ (1 = 0 ∧ ¬ (σ 0 11 = 1 ∧ σ 0 17 = w)) from by first | trivial | omega)
set_option maxHeartbeats 4000000 in
set_option maxRecDepth 100000 in
theorem s_isSignR {σ : xS} {c : Int} {Q : Option xV → xS → Prop} (hQ : ∀ r : Int, ((r = 1 ∧ σ 0 11 = 3 ∧ σ 0 14 = c) ∨ (r = 0 ∧ ¬ (σ 0 11 = 3 ∧ σ 0 14 = c))) → Q (some (xvi r)) σ) : xT kX11_isSign [xvr 0, xvi c] σ Q := by
  refine ⟨Nat.le_of_ble_eq_true rfl, fun X hX => ?_⟩
  show X 0 [xvr 0, xvi c] σ
  refine hX 400 0 _ _ ?_
  intro v1 e1 l1 h1
  have e1 : v1 = σ 0 11 := e1
  refine And.intro (fun c2 => ?_) (fun c2 => ?_)
  · refine hX 400 20 _ _ ?_
    refine And.intro rfl ?_
    refine And.intro (by omega) ?_
    exact hQ _ (show (0 = 1 ∧ σ 0 11 = 3 ∧ σ 0 14 = c) ∨ (0 = 0 ∧ ¬ (σ 0 11 = 3 ∧ σ 0 14 = c)) from by first | trivial | omega)
  · intro v3 e3 l3 h3
    have e3 : v3 = σ 0 14 := e3
    refine And.intro (fun c4 => ?_) (fun c4 => ?_)
    · refine hX 400 20 _ _ ?_
      refine And.intro rfl ?_
      refine And.intro (by omega) ?_
      exact hQ _ (show (0 = 1 ∧ σ 0 11 = 3 ∧ σ 0 14 = c) ∨ (0 = 0 ∧ ¬ (σ 0 11 = 3 ∧ σ 0 14 = c)) from by first | trivial | omega)
    · refine And.intro rfl ?_
      refine And.intro (by omega) ?_
      exact hQ _ (show (1 = 1 ∧ σ 0 11 = 3 ∧ σ 0 14 = c) ∨ (1 = 0 ∧ ¬ (σ 0 11 = 3 ∧ σ 0 14 = c)) from by first | trivial | omega)
def NOW (f : Nat → Int) (w k : Int) : Prop := ∀ q : Nat, (q : Int) < k → ¬ f q = w
theorem NOW.s {f : Nat → Int} {w k : Int} (h : NOW f w k) (h0 : 0 ≤ k) (hk : ¬ f k.toNat = w) : NOW f w (k + 1) := fun q hq => by
  by_cases e : (q : Int) = k
  · rw [show q = k.toNat by omega]; exact hk
  · exact h q (by omega)
set_option maxHeartbeats 4000000 in
set_option maxRecDepth 100000 in
theorem s_isNameR {σ : xS} {Q : Option xV → xS → Prop} (hQ : ∀ r : Int, ((r = 1 ∧ σ 0 11 = 1 ∧ NOW (σ 6) (σ 0 17) 19) ∨ (r = 0 ∧ ¬ (σ 0 11 = 1 ∧ NOW (σ 6) (σ 0 17) 19))) → Q (some (xvi r)) σ) : xT kX11_isName [xvr 0] σ Q := by
  refine ⟨Nat.le_of_ble_eq_true rfl, fun X hX => ?_⟩
  show X 0 [xvr 0, xvu, xvu] σ
  refine hX 400 0 _ _ ?_
  intro v1 e1 l1 h1
  have e1 : v1 = σ 0 11 := e1
  refine And.intro (fun c2 => ?_) (fun c2 => ?_)
  · refine And.intro (Nat.le_of_ble_eq_true rfl) ?_
    show xw _ _ _ _ _ _ _ _ _ _ [xvr 0, xvi 0, xvu] _ _
    refine And.intro (Nat.le_of_ble_eq_true rfl) ?_
    show xw _ _ _ _ _ _ _ _ _ _ [xvr 0, xvi 0, xvi 0] _ _
    have lp_16 : ∀ (m16 : Nat) (is : Int) (k : Int), ((19 - k).toNat) = m16 → ((0 ≤ k ∧ k ≤ 19) ∧ ((is = 1 ∧ σ 0 11 = 1 ∧ NOW (σ 6) (σ 0 17) k) ∨ (is = 0 ∧ ¬ (σ 0 11 = 1 ∧ NOW (σ 6) (σ 0 17) 19)))) → X 16 [xvr 0, xvi is, xvi k] σ := by
      intro m16
      induction m16 using Nat.strongRecOn with
      | _ m16 ih_16 =>
      intro is k hm_16 hv_16
      obtain ⟨hv_16, hn⟩ := hv_16
      refine hX 400 16 _ _ ?_
      refine And.intro (fun c4 => ?_) (fun c4 => ?_)
      · refine And.intro rfl ?_
        refine And.intro (by omega) ?_
        exact hQ _ (by
              rcases hn with ⟨a1, a2, a3⟩ | ⟨a1, a2⟩
              · exact Or.inl ⟨a1, a2, by rw [show (19 : Int) = k from by omega]; exact a3⟩
              · exact Or.inr ⟨a1, a2⟩)
      · refine And.intro (fun c5 => ?_) (fun c5 => ?_)
        · refine hX 400 44 _ _ ?_
          refine And.intro (Nat.le_of_ble_eq_true rfl) ?_
          show xw _ _ _ _ _ _ _ _ _ _ [xvr 0, xvi 0, xvi k] _ _
          intro z6 t6 e6 l6 h6
          try have w6 : t6 = 0 := by omega
          show xw _ _ _ _ _ _ _ _ _ _ [xvr 0, xvi 0, xvi z6] _ _
          exact ih_16 _ (show (19 - z6).toNat < m16 from by omega) 0 z6 rfl ⟨by omega, by
                        rcases hn with ⟨a1, a2, a3⟩ | ⟨a1, a2⟩
                        · exact Or.inr ⟨rfl, fun h => h.2 k.toNat (by omega) (by omega)⟩
                        · exact Or.inr ⟨rfl, a2⟩⟩
        · intro v7 e7 l7 h7
          have e7 : v7 = σ 0 17 := e7
          refine And.intro (rfl) (And.intro (⟨by omega, by omega⟩) ?_)
          intro v8 e8 l8 h8
          have e8 : v8 = σ 6 k.toNat := e8
          intro z9 a9 b9 c9 l9 h9
          refine And.intro (fun c10 => ?_) (fun c10 => ?_)
          · refine hX 400 44 _ _ ?_
            refine And.intro (Nat.le_of_ble_eq_true rfl) ?_
            show xw _ _ _ _ _ _ _ _ _ _ [xvr 0, xvi 0, xvi k] _ _
            intro z11 t11 e11 l11 h11
            try have w11 : t11 = 0 := by omega
            show xw _ _ _ _ _ _ _ _ _ _ [xvr 0, xvi 0, xvi z11] _ _
            exact ih_16 _ (show (19 - z11).toNat < m16 from by omega) 0 z11 rfl ⟨by omega, by
                          rcases hn with ⟨a1, a2, a3⟩ | ⟨a1, a2⟩
                          · exact Or.inr ⟨rfl, fun h => h.2 k.toNat (by omega) (by omega)⟩
                          · exact Or.inr ⟨rfl, a2⟩⟩
          · refine And.intro (Nat.le_of_ble_eq_true rfl) ?_
            show xw _ _ _ _ _ _ _ _ _ _ [xvr 0, xvi 1, xvi k] _ _
            intro z12 t12 e12 l12 h12
            try have w12 : t12 = 0 := by omega
            show xw _ _ _ _ _ _ _ _ _ _ [xvr 0, xvi 1, xvi z12] _ _
            exact ih_16 _ (show (19 - z12).toNat < m16 from by omega) 1 z12 rfl ⟨by omega, by
                          rcases hn with ⟨a1, a2, a3⟩ | ⟨a1, -⟩
                          · exact Or.inl ⟨rfl, a2, by rw [show z12 = k + 1 from by omega]; exact a3.s (by omega) (by omega)⟩
                          · omega⟩
    exact lp_16 _ 0 0 rfl ⟨by omega, Or.inr ⟨rfl, fun h => by omega⟩⟩
  · refine And.intro (Nat.le_of_ble_eq_true rfl) ?_
    show xw _ _ _ _ _ _ _ _ _ _ [xvr 0, xvi 1, xvu] _ _
    refine And.intro (Nat.le_of_ble_eq_true rfl) ?_
    show xw _ _ _ _ _ _ _ _ _ _ [xvr 0, xvi 1, xvi 0] _ _
    have lp_16 : ∀ (m16 : Nat) (is : Int) (k : Int), ((19 - k).toNat) = m16 → ((0 ≤ k ∧ k ≤ 19) ∧ ((is = 1 ∧ σ 0 11 = 1 ∧ NOW (σ 6) (σ 0 17) k) ∨ (is = 0 ∧ ¬ (σ 0 11 = 1 ∧ NOW (σ 6) (σ 0 17) 19)))) → X 16 [xvr 0, xvi is, xvi k] σ := by
      intro m16
      induction m16 using Nat.strongRecOn with
      | _ m16 ih_16 =>
      intro is k hm_16 hv_16
      obtain ⟨hv_16, hn⟩ := hv_16
      refine hX 400 16 _ _ ?_
      refine And.intro (fun c14 => ?_) (fun c14 => ?_)
      · refine And.intro rfl ?_
        refine And.intro (by omega) ?_
        exact hQ _ (by
              rcases hn with ⟨a1, a2, a3⟩ | ⟨a1, a2⟩
              · exact Or.inl ⟨a1, a2, by rw [show (19 : Int) = k from by omega]; exact a3⟩
              · exact Or.inr ⟨a1, a2⟩)
      · refine And.intro (fun c15 => ?_) (fun c15 => ?_)
        · refine hX 400 44 _ _ ?_
          refine And.intro (Nat.le_of_ble_eq_true rfl) ?_
          show xw _ _ _ _ _ _ _ _ _ _ [xvr 0, xvi 0, xvi k] _ _
          intro z16 t16 e16 l16 h16
          try have w16 : t16 = 0 := by omega
          show xw _ _ _ _ _ _ _ _ _ _ [xvr 0, xvi 0, xvi z16] _ _
          exact ih_16 _ (show (19 - z16).toNat < m16 from by omega) 0 z16 rfl ⟨by omega, by
                        rcases hn with ⟨a1, a2, a3⟩ | ⟨a1, a2⟩
                        · exact Or.inr ⟨rfl, fun h => h.2 k.toNat (by omega) (by omega)⟩
                        · exact Or.inr ⟨rfl, a2⟩⟩
        · intro v17 e17 l17 h17
          have e17 : v17 = σ 0 17 := e17
          refine And.intro (rfl) (And.intro (⟨by omega, by omega⟩) ?_)
          intro v18 e18 l18 h18
          have e18 : v18 = σ 6 k.toNat := e18
          intro z19 a19 b19 c19 l19 h19
          refine And.intro (fun c20 => ?_) (fun c20 => ?_)
          · refine hX 400 44 _ _ ?_
            refine And.intro (Nat.le_of_ble_eq_true rfl) ?_
            show xw _ _ _ _ _ _ _ _ _ _ [xvr 0, xvi 0, xvi k] _ _
            intro z21 t21 e21 l21 h21
            try have w21 : t21 = 0 := by omega
            show xw _ _ _ _ _ _ _ _ _ _ [xvr 0, xvi 0, xvi z21] _ _
            exact ih_16 _ (show (19 - z21).toNat < m16 from by omega) 0 z21 rfl ⟨by omega, by
                          rcases hn with ⟨a1, a2, a3⟩ | ⟨a1, a2⟩
                          · exact Or.inr ⟨rfl, fun h => h.2 k.toNat (by omega) (by omega)⟩
                          · exact Or.inr ⟨rfl, a2⟩⟩
          · refine And.intro (Nat.le_of_ble_eq_true rfl) ?_
            show xw _ _ _ _ _ _ _ _ _ _ [xvr 0, xvi 1, xvi k] _ _
            intro z22 t22 e22 l22 h22
            try have w22 : t22 = 0 := by omega
            show xw _ _ _ _ _ _ _ _ _ _ [xvr 0, xvi 1, xvi z22] _ _
            exact ih_16 _ (show (19 - z22).toNat < m16 from by omega) 1 z22 rfl ⟨by omega, by
                          rcases hn with ⟨a1, a2, a3⟩ | ⟨a1, -⟩
                          · exact Or.inl ⟨rfl, a2, by rw [show z22 = k + 1 from by omega]; exact a3.s (by omega) (by omega)⟩
                          · omega⟩
    exact lp_16 _ 1 0 rfl ⟨by omega, Or.inl ⟨rfl, by omega, fun q hq => by omega⟩⟩
theorem s_nx {σ : xS} {p : Int} {Q : Option xV → xS → Prop} (hp0 : 0 ≤ σ 0 4 ∧ σ 0 4 ≤ σ 0 3 ∧ σ 0 3 ≤ 940) (hp1 : BYx (σ 1) (σ 0 3)) (hp : σ 0 4 = p) (hQ : ∀ σ' : xS, Fr [] [4, 11, 12, 13, 14, 17] σ σ' → (0 ≤ σ' 0 4 ∧ σ' 0 4 ≤ σ 0 3) ∧ RRs σ' (σ 1) (σ 0 3) (σ 0 5) p → Q none σ') : xT kX11_next [xvr 0] σ Q := by
  subst hp
  exact s_nextF hp0 hp1 (fun σ' f h => hQ σ' f ⟨h.1, h.2.rr⟩)
theorem s_isWordT {σ : xS} {b : Nat → Int} {n m p w : Int} {j : Nat} {Q : Option xV → xS → Prop} (hR : RRs σ b n m p) (hj : j < 19) (hw : w = R8.getD j 0) (hQ : ∀ r : Int, ((r = 1 ∧ tkc b n m p = j) ∨ (r = 0 ∧ ¬ tkc b n m p = j)) → Q (some (xvi r)) σ) : xT kX11_isWord [xvr 0, xvl w] σ Q := s_isWordR (fun r h => hQ r (by
  have e := hR.w hj
  rw [hw] at h
  rcases h with ⟨h1, h2, h3⟩ | ⟨h1, h2⟩
  · exact Or.inl ⟨h1, e.mpr ⟨h2, h3⟩⟩
  · exact Or.inr ⟨h1, fun h => h2 (e.mp h)⟩))
