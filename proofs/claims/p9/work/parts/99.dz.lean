/-! the words that the rows use, each by its place in the tables; printed by wip/p2/genx.py -/
theorem q_2_193 : Cond.methodLink RX9 38 yX6_begin ∈ gw := gw_2 193 (by decide +kernel) rfl
theorem q_2_194 : Cond.instanceMethod yX6_begin ∈ gw := gw_2 194 (by decide +kernel) rfl
theorem q_2_195 : Cond.selects RX6 yX6_begin yX6_begin ∈ gw := gw_2 195 (by decide +kernel) rfl
theorem q_2_196 : Cond.code yX6_begin cX6_begin 4 none ∈ gw := gw_2 196 (by decide +kernel) rfl
theorem q_5_147 : Cond.methodLink RX8 29 yX6_begin ∈ gw := gw_5 147 (by decide +kernel) rfl
theorem q_5_97 : Cond.methodLink RX1 23 yX6_begin ∈ gw := gw_5 97 (by decide +kernel) rfl
theorem hout_of {l l2 : List (Nat × Nat × List Nat)} {τ : List Nat} (k : Nat) (h : l2 = l.set k (l2.getD k (0, 0, []))) (hk : (xix τ k).isSome = true) : ∀ t, xix τ t = none → (fun t => l2[t]?) t = (fun t => l[t]?) t := by
  intro t ht
  have hne : k ≠ t := fun e => by rw [e, ht] at hk; cases hk
  show l2[t]? = l[t]?
  rw [h, List.getElem?_set_ne hne]
def TRQ (σ : xS) (Q : Option xV → xS → Prop) : Prop := ∀ (r : Int) (σ' : xS), Fr [1, 2, 5, 6, 7, 8, 9] [2, 3] σ σ' → (TG σ' ∧ (r = 0 ∨ r = 1)) → Q (some (xvi r)) σ'
def TRE : xE := fun as σ Q => ∃ size : Int, as = [xvr 0, xvr 4, xvi size, xvr 5] ∧ (0 ≤ size ∧ size ≤ 940) ∧ TRQ σ Q
theorem TRE_i {size : Int} {σ : xS} {Q : Option xV → xS → Prop} (h0 : 0 ≤ size ∧ size ≤ 940) (hQ : ∀ (r : Int) (σ' : xS), Fr [1, 2, 5, 6, 7, 8, 9] [2, 3] σ σ' → (TG σ' ∧ (r = 0 ∨ r = 1)) → Q (some (xvi r)) σ') : TRE [xvr 0, xvr 4, xvi size, xvr 5] σ Q := ⟨size, rfl, h0, hQ⟩
set_option maxRecDepth 100000 in
set_option maxHeartbeats 4000000 in
theorem mX9_read (l : Launch) (D : va_G) (yv : Nat → ClassId) : xMt2 l D yv yX9_read cX9_read 4 (some .boolean) 4 18 shT0 shT TRE := by
  intro a ρ sz as σ Q hE hσ has
  obtain ⟨size, rfl, h0, hQ⟩ := hE
  refine xEnter (d := 4) (mc := 0) (ms := 0) (by decide +kernel) (by simp [xargs]) hσ has ?_
  intro p e s m below meth c hsz hC
  refine xTE_s (C := kX9_read_a) (c0 := 0) (L0 := [xvr 0, xvr 4, xvi size, xvr 5]) (Q := fun _ _ => False) (Z := fun c L σ1 => c = 22 ∧ L = [xvr 0, xvr 4, xvi size, xvr 5] ∧ Fr [1, 2, 5, 6, 7, 8, 9] [2, 3] σ σ1 ∧ TG σ1 ∧ σ1 0 3 = 0) hC zX9_read_a (fun v i n E he => (hX9_read_a l D yv v i n E he).up (by decide)) (Nat.zero_le _) (Nat.zero_le _) (fun _ _ _ h => h.elim) (pX9_read_a (fun σ' f h1 h2 => ⟨rfl, rfl, f, h1, h2⟩)) ?_
  rintro c0 L1 σ1 ⟨rfl, rfl, hF, hT, hl0⟩
  refine xs_aload hC (i := 0) (x := 0) (by decide +kernel) rfl ?_
  refine xs_get hC fiT0 (i := 23) (t := 0) (v := xvr 2) (foX9 23 9 0 rfl) rfl rfl rfl (fun _ => trivial) (by decide +kernel) ?_
  refine xs_aload hC (i := 1) (x := 4) (by decide +kernel) rfl ?_
  refine xs_iload hC (i := 2) (x := size) (by decide +kernel) rfl ?_
  refine xs_sipush hC (z := 900) (by decide) (by decide) (by decide +kernel) ?_
  refine xs_call2 (y := yX6_begin) (τ := [2, 3, 4]) (N' := 3) (sh' := shR0) (sh'2 := shR) (sh2 := shT) (t := 2) (as' := [xvr 4, xvi size, xvi 900]) (rest := []) (n := 3) (ci := 6) (E := EB) (K := fun r σ2 => r = none ∧ Fr [2] [] σ1 σ2 ∧ (0 ≤ σ2 2 4 ∧ σ2 2 4 ≤ σ2 2 2 ∧ σ2 2 2 ≤ 940)) hC (mX6_begin l D yv) (by decide) (xsubB_ok (l' := wlR0) (l := wlT0) (by decide +kernel)) (xsubB_ok (l' := wlR) (l := wlT) (by decide +kernel)) (hout_of (l := wlT0) (l2 := wlT) 2 (by decide) (by decide)) q_2_193 q_2_194 q_2_195 q_1_6 q_2_196 rfl rfl (by decide +kernel) (by decide) fiT0 (Nat.zero_le _) (Nat.zero_le _) (by decide +kernel) rfl rfl rfl (by decide) ?_ ?_
  · exact EB_i h0 (fun σ' f p => ⟨rfl, f.bk (by decide) (by decide), p⟩)
  rintro r σ2 ⟨rfl, f2, hr2⟩
  have hF2 := hF.tr f2 (by decide) (by decide)
  have hT2 := hT.fr f2 (by decide) (by decide) (by decide) (by decide)
  have hl2 : 0 ≤ σ2 0 3 := by rw [f2.2 3 (by decide), hl0]; decide
  exact xTE_s (C := kX9_read_b) (c0 := 34) (L0 := [xvr 0, xvr 4, xvi size, xvr 5]) (Z := fun _ _ _ => False) hC zX9_read_b (fun v i n E he => (hX9_read_b l D yv v i n E he).up (by decide)) (Nat.zero_le _) (Nat.zero_le _) (fun r σ t h1 h2 h3 h4 h5 h6 => ⟨⟨r, σ, rfl, h1, h2, h3, h4, h5⟩, h6⟩) (pX9_read_b hT2 hr2 hl2 (fun r σ3 f3 p3 => hQ r σ3 (hF2.tr f3 (by decide) (by decide)) p3)) (fun _ _ _ h => h.elim)
def ERQ (σ : xS) (Q : Option xV → xS → Prop) : Prop := ∀ (r : Int) (σ' : xS), Fr [1, 2] [2] σ σ' → (RWx (σ' 1) (σ' 0 2) ∧ (0 ≤ σ' 0 2 ∧ σ' 0 2 ≤ 30) ∧ (r = 0 ∨ r = 1)) → Q (some (xvi r)) σ'
def ERE : xE := fun as σ Q => ∃ size : Int, as = [xvr 0, xvr 4, xvi size, xvr 5] ∧ (0 ≤ size ∧ size ≤ 940) ∧ (0 ≤ σ 5 0 ∧ σ 5 0 ≤ 13) ∧ (0 ≤ σ 5 1 ∧ σ 5 1 ≤ 6) ∧ ERQ σ Q
theorem ERE_i {size : Int} {σ : xS} {Q : Option xV → xS → Prop} (h0 : 0 ≤ size ∧ size ≤ 940) (h1 : 0 ≤ σ 5 0 ∧ σ 5 0 ≤ 13) (h2 : 0 ≤ σ 5 1 ∧ σ 5 1 ≤ 6) (hQ : ∀ (r : Int) (σ' : xS), Fr [1, 2] [2] σ σ' → (RWx (σ' 1) (σ' 0 2) ∧ (0 ≤ σ' 0 2 ∧ σ' 0 2 ≤ 30) ∧ (r = 0 ∨ r = 1)) → Q (some (xvi r)) σ') : ERE [xvr 0, xvr 4, xvi size, xvr 5] σ Q := ⟨size, rfl, h0, h1, h2, hQ⟩
set_option maxRecDepth 100000 in
set_option maxHeartbeats 4000000 in
theorem mX1_read (l : Launch) (D : va_G) (yv : Nat → ClassId) : xMt2 l D yv yX1_read cX1_read 4 (some .boolean) 5 18 shE0 shE ERE := by
  intro a ρ sz as σ Q hE hσ has
  obtain ⟨size, rfl, h0, h1, h2, hQ⟩ := hE
  refine xEnter (d := 5) (mc := 0) (ms := 0) (by decide +kernel) (by simp [xargs]) hσ has ?_
  intro p e s m below meth c hsz hC
  refine xTE_s (C := kX1_read_a) (c0 := 0) (L0 := [xvr 0, xvr 4, xvi size, xvr 5]) (Q := fun _ _ => False) (Z := fun c L σ1 => c = 5 ∧ L = [xvr 0, xvr 4, xvi size, xvr 5] ∧ Fr [1, 2] [2] σ σ1 ∧ σ1 0 2 = 0) hC zX1_read_a (fun v i n E he => (hX1_read_a l D yv v i n E he).up (by decide)) (Nat.zero_le _) (Nat.zero_le _) (fun _ _ _ h => h.elim) (pX1_read_a (fun σ' f h1 => ⟨rfl, rfl, f, h1⟩)) ?_
  rintro c0 L1 σ1 ⟨rfl, rfl, hF, hl0⟩
  refine xs_aload hC (i := 0) (x := 0) (by decide +kernel) rfl ?_
  refine xs_get hC fiE0 (i := 19) (t := 0) (v := xvr 2) (foX1 19 1 0 rfl) rfl rfl rfl (fun _ => trivial) (by decide +kernel) ?_
  refine xs_aload hC (i := 1) (x := 4) (by decide +kernel) rfl ?_
  refine xs_iload hC (i := 2) (x := size) (by decide +kernel) rfl ?_
  refine xs_sipush hC (z := 500) (by decide) (by decide) (by decide +kernel) ?_
  refine xs_call2 (y := yX6_begin) (τ := [2, 3, 4]) (N' := 3) (sh' := shR0) (sh'2 := shR) (sh2 := shE) (t := 2) (as' := [xvr 4, xvi size, xvi 500]) (rest := []) (n := 3) (ci := 6) (E := EB) (K := fun r σ2 => r = none ∧ Fr [2] [] σ1 σ2 ∧ (0 ≤ σ2 2 4 ∧ σ2 2 4 ≤ σ2 2 2 ∧ σ2 2 2 ≤ 940)) hC (mX6_begin l D yv) (by decide) (xsubB_ok (l' := wlR0) (l := wlE0) (by decide +kernel)) (xsubB_ok (l' := wlR) (l := wlE) (by decide +kernel)) (hout_of (l := wlE0) (l2 := wlE) 2 (by decide) (by decide)) q_5_97 q_2_194 q_2_195 q_1_6 q_2_196 rfl rfl (by decide +kernel) (by decide) fiE0 (Nat.zero_le _) (Nat.zero_le _) (by decide +kernel) rfl rfl rfl (by decide) ?_ ?_
  · exact EB_i h0 (fun σ' f p => ⟨rfl, f.bk (by decide) (by decide), p⟩)
  rintro r σ2 ⟨rfl, f2, hr2⟩
  have hF2 := hF.tr f2 (by decide) (by decide)
  have hl2 : σ2 0 2 = 0 := by rw [f2.2 2 (by decide), hl0]
  have e0 : σ2 5 = σ 5 := hF2.1 5 (by decide) (by decide)
  exact xTE_s (C := kX1_read_b) (c0 := 17) (L0 := [xvr 0, xvr 4, xvi size, xvr 5]) (Z := fun _ _ _ => False) hC zX1_read_b (fun v i n E he => (hX1_read_b l D yv v i n E he).up (by decide)) (Nat.zero_le _) (Nat.zero_le _) (fun r σ t h1 h2 h3 h4 h5 h6 => ⟨⟨r, σ, rfl, h1, h2, h3, h4, h5⟩, h6⟩) (pX1_read_b (by rw [e0]; exact h1) (by rw [e0]; exact h2) hr2 hl2 (fun r σ3 f3 p3 => hQ r σ3 (hF2.tr f3 (by decide) (by decide)) p3)) (fun _ _ _ h => h.elim)
def SRQ (σ : xS) (Q : Option xV → xS → Prop) : Prop := ∀ (r : Int) (σ' : xS), Fr [1, 2, 3] [2] σ σ' → ((0 ≤ σ' 1 1 ∧ σ' 1 1 ≤ 40) ∧ (r = 0 ∨ r = 1)) → Q (some (xvi r)) σ'
def SRE : xE := fun as σ Q => ∃ size : Int, as = [xvr 0, xvr 5, xvi size, xvr 6] ∧ (0 ≤ size ∧ size ≤ 940) ∧ (0 ≤ σ 6 1 ∧ σ 6 1 ≤ 6) ∧ SRQ σ Q
theorem SRE_i {size : Int} {σ : xS} {Q : Option xV → xS → Prop} (h0 : 0 ≤ size ∧ size ≤ 940) (h1 : 0 ≤ σ 6 1 ∧ σ 6 1 ≤ 6) (hQ : ∀ (r : Int) (σ' : xS), Fr [1, 2, 3] [2] σ σ' → ((0 ≤ σ' 1 1 ∧ σ' 1 1 ≤ 40) ∧ (r = 0 ∨ r = 1)) → Q (some (xvi r)) σ') : SRE [xvr 0, xvr 5, xvi size, xvr 6] σ Q := ⟨size, rfl, h0, h1, hQ⟩
set_option maxRecDepth 100000 in
set_option maxHeartbeats 4000000 in
theorem mX8_read (l : Launch) (D : va_G) (yv : Nat → ClassId) : xMt2 l D yv yX8_read cX8_read 4 (some .boolean) 33 19 shS0 shS SRE := by
  intro a ρ sz as σ Q hE hσ has
  obtain ⟨size, rfl, h0, h1, hQ⟩ := hE
  refine xEnter (d := 33) (mc := 0) (ms := 0) (by decide +kernel) (by simp [xargs]) hσ has ?_
  intro p e s m below meth c hsz hC
  refine xTE_s (C := kX8_read_a) (c0 := 0) (L0 := [xvr 0, xvr 5, xvi size, xvr 6]) (Q := fun _ _ => False) (Z := fun c L σ1 => c = 12 ∧ L = [xvr 0, xvr 5, xvi size, xvr 6] ∧ Fr [1, 2, 3] [2] σ σ1 ∧ σ1 1 1 = 0) hC zX8_read_a (fun v i n E he => (hX8_read_a l D yv v i n E he).up (by decide)) (Nat.zero_le _) (Nat.zero_le _) (fun _ _ _ h => h.elim) (pX8_read_a (fun σ' f h1 => ⟨rfl, rfl, f, h1⟩)) ?_
  rintro c0 L1 σ1 ⟨rfl, rfl, hF, hl0⟩
  refine xs_aload hC (i := 0) (x := 0) (by decide +kernel) rfl ?_
  refine xs_get hC fiS0 (i := 22) (t := 0) (v := xvr 3) (foX8 22 8 0 rfl) rfl rfl rfl (fun _ => trivial) (by decide +kernel) ?_
  refine xs_aload hC (i := 1) (x := 5) (by decide +kernel) rfl ?_
  refine xs_iload hC (i := 2) (x := size) (by decide +kernel) rfl ?_
  refine xs_sipush hC (z := 200) (by decide) (by decide) (by decide +kernel) ?_
  refine xs_call2 (y := yX6_begin) (τ := [3, 4, 5]) (N' := 3) (sh' := shR0) (sh'2 := shR) (sh2 := shS) (t := 3) (as' := [xvr 5, xvi size, xvi 200]) (rest := []) (n := 3) (ci := 6) (E := EB) (K := fun r σ2 => r = none ∧ Fr [3] [] σ1 σ2 ∧ (0 ≤ σ2 3 4 ∧ σ2 3 4 ≤ σ2 3 2 ∧ σ2 3 2 ≤ 940)) hC (mX6_begin l D yv) (by decide) (xsubB_ok (l' := wlR0) (l := wlS0) (by decide +kernel)) (xsubB_ok (l' := wlR) (l := wlS) (by decide +kernel)) (hout_of (l := wlS0) (l2 := wlS) 3 (by decide) (by decide)) q_5_147 q_2_194 q_2_195 q_1_6 q_2_196 rfl rfl (by decide +kernel) (by decide) fiS0 (Nat.zero_le _) (Nat.zero_le _) (by decide +kernel) rfl rfl rfl (by decide) ?_ ?_
  · exact EB_i h0 (fun σ' f p => ⟨rfl, f.bk (by decide) (by decide), p⟩)
  rintro r σ2 ⟨rfl, f2, hr2⟩
  have hF2 := hF.tr f2 (by decide) (by decide)
  have hl2 : σ2 1 1 = 0 := by rw [f2.1 1 (by decide) (by decide), hl0]
  have e0 : σ2 6 = σ 6 := hF2.1 6 (by decide) (by decide)
  exact xTE_s (C := kX8_read_b) (c0 := 24) (L0 := [xvr 0, xvr 5, xvi size, xvr 6]) (Z := fun _ _ _ => False) hC zX8_read_b (fun v i n E he => (hX8_read_b l D yv v i n E he).up (by decide)) (Nat.zero_le _) (Nat.zero_le _) (fun r σ t h1 h2 h3 h4 h5 h6 => ⟨⟨r, σ, rfl, h1, h2, h3, h4, h5⟩, h6⟩) (pX8_read_b (by rw [hl2]; decide) hr2 (by rw [e0]; exact h1) (fun r σ3 f3 p3 => hQ r σ3 (hF2.tr f3 (by decide) (by decide)) p3)) (fun _ _ _ h => h.elim)
