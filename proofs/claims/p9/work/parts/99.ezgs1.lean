set_option maxHeartbeats 4000000 in
set_option maxRecDepth 100000 in
theorem pX10_tableF {σ : xS} {fine : Int} {Q : Option xV → xS → Prop} {Z : Nat → List xV → xS → Prop} (hp0 : JG (xsel [2, 3, 4, 5, 6, 7, 8, 9, 10, 11, 12, 13, 14] σ)) (hp1 : TG (xsel [32, 33, 30, 31, 1, 15, 16, 17, 18, 19, 20, 21, 22, 23, 24, 25, 26, 27] σ)) (hp2 : 0 ≤ σ 28 1 ∧ σ 28 1 ≤ 40) (hp3 : (0 ≤ σ 39 2 ∧ σ 39 2 ≤ 8) ∧ (0 ≤ σ 39 1 ∧ σ 39 1 ≤ 7)) (hQ : ∀ r : Int, ∀ σ' : xS, Fr [2, 3, 4, 5, 6, 7, 8, 9, 10, 11, 12, 13, 14, 15, 16, 17, 18, 19, 20, 21, 22, 23, 24, 25, 26, 27, 28, 39] [1, 2] σ σ' → ((JG (xsel [2, 3, 4, 5, 6, 7, 8, 9, 10, 11, 12, 13, 14] σ') ∧ σ' 0 1 = 0 ∧ (0 ≤ σ' 28 1 ∧ σ' 28 1 ≤ 40) ∧ (0 ≤ σ' 39 2 ∧ σ' 39 2 ≤ 8) ∧ (0 ≤ σ' 39 1 ∧ σ' 39 1 ≤ 7)) ∧ ((fine = 0 ∧ r = -1 - σ 30 10) ∨ (¬ fine = 0 ∧ r = σ 32 3))) → Q (some (xvi r)) σ') : xTE kX10_table_b Q Z 20 [xvr 0, xvi fine] σ := by
  intro X hX hZZ
  have hF : Fr [2, 3, 4, 5, 6, 7, 8, 9, 10, 11, 12, 13, 14, 15, 16, 17, 18, 19, 20, 21, 22, 23, 24, 25, 26, 27, 28, 39] [1, 2] σ σ := Fr.rf
  refine hX 400 20 _ _ ?_
  have hF := hF.p (j := 1) (v := 0) (by decide)
  intro v2 e2 l2 h2
  have e2 : v2 = σ 30 9 := e2
  have hF := hF.p (j := 2) (v := v2) (by decide)
  refine And.intro (fun c4 => ?_) (fun c4 => ?_)
  · refine xMVf (sh := shB1) (ci := 2) (τ := [15, 16, 17, 18, 19, 20, 21, 22, 23, 24, 25, 26, 27]) (E := xT kX2_start) (t := 15) (r := []) (σ := (xput (xput σ 0 1 0) 0 2 v2)) rfl rfl (fun Q5 hQ5 => sX2_start (σ := xsel [15, 16, 17, 18, 19, 20, 21, 22, 23, 24, 25, 26, 27] (xput (xput σ 0 1 0) 0 2 v2))  (show C0x (xsel [15, 16, 17, 18, 19, 20, 21, 22, 23, 24, 25, 26, 27] (xput (xput σ 0 1 0) 0 2 v2)) from by exact hp1.1) (fun ς5 f5 p5 => hQ5 _ _ ?_))
    have kq5_0 : (xbk [15, 16, 17, 18, 19, 20, 21, 22, 23, 24, 25, 26, 27] (xput (xput σ 0 1 0) 0 2 v2) ς5) 15 0 = σ 15 0 := f5.2 0 (by decide)
    have kq5_1 : (xbk [15, 16, 17, 18, 19, 20, 21, 22, 23, 24, 25, 26, 27] (xput (xput σ 0 1 0) 0 2 v2) ς5) 15 1 = σ 15 1 := f5.2 1 (by decide)
    have kq5_2 : (xbk [15, 16, 17, 18, 19, 20, 21, 22, 23, 24, 25, 26, 27] (xput (xput σ 0 1 0) 0 2 v2) ς5) 15 2 = σ 15 2 := f5.2 2 (by decide)
    have kq5_9 : (xbk [15, 16, 17, 18, 19, 20, 21, 22, 23, 24, 25, 26, 27] (xput (xput σ 0 1 0) 0 2 v2) ς5) 15 9 = σ 15 9 := f5.2 9 (by decide)
    replace f5 : Fr [15, 17, 18, 20, 21, 22, 23, 24, 25, 26, 27] [] (xput (xput σ 0 1 0) 0 2 v2) (xbk [15, 16, 17, 18, 19, 20, 21, 22, 23, 24, 25, 26, 27] (xput (xput σ 0 1 0) 0 2 v2) ς5) := f5.bk (by decide) (by decide)
    replace p5 : CG (xsel [15, 16, 17, 18, 19, 20, 21, 22, 23, 24, 25, 26, 27] (xbk [15, 16, 17, 18, 19, 20, 21, 22, 23, 24, 25, 26, 27] (xput (xput σ 0 1 0) 0 2 v2) ς5)) := p5
    generalize xbk [15, 16, 17, 18, 19, 20, 21, 22, 23, 24, 25, 26, 27] (xput (xput σ 0 1 0) 0 2 v2) ς5 = σ5 at f5 kq5_0 kq5_1 kq5_2 kq5_9 p5 ⊢
    have hF := hF.tr f5 (by decide) (by decide)
    have hJT : JG (xsel [15, 16, 17, 18, 19, 20, 21, 22, 23, 24, 25, 26, 27] σ5) := by
      refine ⟨p5, ?_, fun i hi => ?_⟩
      · show σ5 15 2 = 0 ∨ σ5 15 2 = 1
        rw [kq5_2]; exact hp1.2.2.1
      · have hi : (i : Int) < σ5 15 9 := hi
        show σ5 19 i < σ5 15 0
        rw [kq5_9] at hi
        rw [kq5_0, f5.1 19 (by decide) (by decide)]; exact hp1.2.2.2 i hi
    have kz1 : σ5 0 1 = 0 := f5.2 1 (by decide)
    have k39 : σ5 39 1 = σ 39 1 := congrFun (f5.1 39 (by decide) (by decide)) 1
    refine xMVf (sh := shB1) (ci := 2) (τ := [2, 3, 4, 5, 6, 7, 8, 9, 10, 11, 12, 13, 14, 15, 16, 17, 18, 19, 20, 21, 22, 23, 24, 25, 26, 27]) (E := xT kX2_copyFrom) (t := 2) (r := [xvr 15]) (σ := σ5) rfl rfl (fun Q6 hQ6 => sX2_copyFrom (σ := xsel [2, 3, 4, 5, 6, 7, 8, 9, 10, 11, 12, 13, 14, 15, 16, 17, 18, 19, 20, 21, 22, 23, 24, 25, 26, 27] σ5)  (show 0 ≤ (σ5 24 2) ∧ (σ5 24 2) ≤ 52 from hJT.1.2.2.2) (show (σ5 15 2) = 0 ∨ (σ5 15 2) = 1 from hJT.2.1) (fun ς6 f6 p6 => hQ6 _ _ ?_))
    replace f6 : Fr [2, 3, 4, 5, 6, 7, 8, 9, 10, 11, 12, 13, 14] [] σ5 (xbk [2, 3, 4, 5, 6, 7, 8, 9, 10, 11, 12, 13, 14, 15, 16, 17, 18, 19, 20, 21, 22, 23, 24, 25, 26, 27] σ5 ς6) := f6.bk (by decide) (by decide)
    replace p6 : (∀ i : Nat, (i : Int) < 78 → (xbk [2, 3, 4, 5, 6, 7, 8, 9, 10, 11, 12, 13, 14, 15, 16, 17, 18, 19, 20, 21, 22, 23, 24, 25, 26, 27] σ5 ς6) 4 i = σ5 17 i) ∧ (∀ i : Nat, (i : Int) < 52 → (xbk [2, 3, 4, 5, 6, 7, 8, 9, 10, 11, 12, 13, 14, 15, 16, 17, 18, 19, 20, 21, 22, 23, 24, 25, 26, 27] σ5 ς6) 6 i = σ5 19 i) ∧ (∀ i : Nat, (i : Int) < 78 → (xbk [2, 3, 4, 5, 6, 7, 8, 9, 10, 11, 12, 13, 14, 15, 16, 17, 18, 19, 20, 21, 22, 23, 24, 25, 26, 27] σ5 ς6) 12 i = σ5 25 i) ∧ ((xbk [2, 3, 4, 5, 6, 7, 8, 9, 10, 11, 12, 13, 14, 15, 16, 17, 18, 19, 20, 21, 22, 23, 24, 25, 26, 27] σ5 ς6) 2 0 = (σ5 15 0) ∧ (xbk [2, 3, 4, 5, 6, 7, 8, 9, 10, 11, 12, 13, 14, 15, 16, 17, 18, 19, 20, 21, 22, 23, 24, 25, 26, 27] σ5 ς6) 2 1 = (σ5 15 1) ∧ (xbk [2, 3, 4, 5, 6, 7, 8, 9, 10, 11, 12, 13, 14, 15, 16, 17, 18, 19, 20, 21, 22, 23, 24, 25, 26, 27] σ5 ς6) 2 2 = (σ5 15 2) ∧ (xbk [2, 3, 4, 5, 6, 7, 8, 9, 10, 11, 12, 13, 14, 15, 16, 17, 18, 19, 20, 21, 22, 23, 24, 25, 26, 27] σ5 ς6) 2 8 = (σ5 15 8) ∧ (xbk [2, 3, 4, 5, 6, 7, 8, 9, 10, 11, 12, 13, 14, 15, 16, 17, 18, 19, 20, 21, 22, 23, 24, 25, 26, 27] σ5 ς6) 2 9 = (σ5 15 9)) ∧ (xbk [2, 3, 4, 5, 6, 7, 8, 9, 10, 11, 12, 13, 14, 15, 16, 17, 18, 19, 20, 21, 22, 23, 24, 25, 26, 27] σ5 ς6) 11 2 = (σ5 24 2) := p6
    generalize xbk [2, 3, 4, 5, 6, 7, 8, 9, 10, 11, 12, 13, 14, 15, 16, 17, 18, 19, 20, 21, 22, 23, 24, 25, 26, 27] σ5 ς6 = σ6 at f6  p6 ⊢
    have hF := hF.tr f6 (by decide) (by decide)
    have hJ : JG (xsel [2, 3, 4, 5, 6, 7, 8, 9, 10, 11, 12, 13, 14] σ6) := by
      obtain ⟨c1, c2, c3, c4, c5⟩ := p6
      exact hJT.cp c1 c2 c3 c4 c5
    clear p6
    have kz1 : σ6 0 1 = 0 := (f6.2 1 (by decide)).trans kz1
    have k39 : σ6 39 1 = σ 39 1 := (congrFun (f6.1 39 (by decide) (by decide)) 1).trans k39
    refine xMVf (sh := shB1) (ci := 7) (τ := [28, 29]) (E := xT kX7_clear) (t := 28) (r := []) (σ := σ6) rfl rfl (fun Q7 hQ7 => sX7_clear (σ := xsel [28, 29] σ6)   (fun ς7 f7 p7 => hQ7 _ _ ?_))
    replace f7 : Fr [28] [] σ6 (xbk [28, 29] σ6 ς7) := f7.bk (by decide) (by decide)
    replace p7 : (xbk [28, 29] σ6 ς7) 28 1 = 0 := p7
    generalize xbk [28, 29] σ6 ς7 = σ7 at f7  p7 ⊢
    have hF := hF.tr f7 (by decide) (by decide)
    have hJ := hJ.fr2 f7 (by decide)
    have k39 : σ7 39 1 = σ 39 1 := (congrFun (f7.1 39 (by decide) (by decide)) 1).trans k39
    have kz1 : σ7 0 1 = 0 := (f7.2 1 (by decide)).trans kz1
    have kt1 : σ7 28 1 = 0 := p7
    refine xMVf (sh := shB1) (ci := 5) (τ := [39, 40]) (E := xT kX5_clear) (t := 39) (r := []) (σ := σ7) rfl rfl (fun Q8 hQ8 => sX5_clear (σ := xsel [39, 40] σ7)   (fun ς8 f8 p8 => hQ8 _ _ ?_))
    have kq8_1 : (xbk [39, 40] σ7 ς8) 39 1 = σ7 39 1 := f8.2 1 (by decide)
    replace f8 : Fr [39] [] σ7 (xbk [39, 40] σ7 ς8) := f8.bk (by decide) (by decide)
    replace p8 : (xbk [39, 40] σ7 ς8) 39 2 = 0 := p8
    generalize xbk [39, 40] σ7 ς8 = σ8 at f8 kq8_1 p8 ⊢
    have hF := hF.tr f8 (by decide) (by decide)
    have hJ := hJ.fr2 f8 (by decide)
    have kz1 : σ8 0 1 = 0 := (f8.2 1 (by decide)).trans kz1
    have kt1 : σ8 28 1 = 0 := (congrFun (f8.1 28 (by decide) (by decide)) 1).trans kt1
    intro v9 e9 l9 h9
    have e9 : v9 = σ8 32 3 := e9
    refine And.intro rfl ?_
    have h32 : σ8 32 3 = σ 32 3 := congrFun (hF.1 32 (by decide) (by decide)) 3
    exact hQ _ _ hF ⟨⟨hJ, (show σ8 0 1 = 0 from by omega), (show 0 ≤ σ8 28 1 ∧ σ8 28 1 ≤ 40 from by omega), (show 0 ≤ σ8 39 2 ∧ σ8 39 2 ≤ 8 from by omega), (show 0 ≤ σ8 39 1 ∧ σ8 39 1 ≤ 7 from by omega)⟩, Or.inr ⟨by omega, by omega⟩⟩
  · intro v10 e10 l10 h10
    have e10 : v10 = σ 30 10 := e10
    intro z11 t11 e11 l11 h11
    try have w11 : t11 = 0 := by omega
    refine And.intro rfl ?_
    exact hQ _ _ hF ⟨⟨(show JG (xsel [2, 3, 4, 5, 6, 7, 8, 9, 10, 11, 12, 13, 14] (xput (xput σ 0 1 0) 0 2 v2)) from hp0), (show 0 = 0 from by omega), (show 0 ≤ σ 28 1 ∧ σ 28 1 ≤ 40 from by omega), (show 0 ≤ σ 39 2 ∧ σ 39 2 ≤ 8 from by omega), (show 0 ≤ σ 39 1 ∧ σ 39 1 ≤ 7 from by omega)⟩, Or.inl ⟨by omega, by omega⟩⟩
/-- the answer of table -/
def TBA (s : TSx) (b : Nat → Int) (n r : Int) : Prop := ∃ x, TEND b n 900 s x ∧ ((∃ y : Int × Int, x = .inl y ∧ r = -1 - y.2) ∨ (∃ (i : Nat) (t : TSx), x = .inr (i, t) ∧ r = i))
theorem TBA.of {σ' : xS} {n r z : Int} {b : Nat → Int} {s : TSx} (hX : TRX (xsel [32, 33, 30, 31, 1, 15, 16, 17, 18, 19, 20, 21, 22, 23, 24, 25, 26, 27] σ') b n 900 s z) (h : (z = 0 ∧ r = -1 - σ' 30 10) ∨ (¬ z = 0 ∧ r = σ' 32 3)) : TBA s b n r := by
  rcases hX with ⟨h1, i, t, a1, a2, a3, a4⟩ | ⟨h1, i, t, a1, a2, a3⟩
  · refine ⟨_, ⟨i, t, a1, Or.inl ⟨a2, rfl⟩⟩, Or.inr ⟨i, t, rfl, ?_⟩⟩
    have a4 : σ' 32 3 = i := a4
    omega
  · refine ⟨_, ⟨i, t, a1, Or.inr ⟨a2, _, a3, rfl⟩⟩, Or.inl ⟨_, rfl, ?_⟩⟩
    show r = -1 - σ' 30 10
    omega
def TABFQ (σ : xS) (Q : Option xV → xS → Prop) : Prop := ∀ (r : Int) (σ' : xS), Fr [30, 32, 33, 2, 3, 4, 5, 6, 7, 8, 9, 10, 11, 12, 13, 14, 15, 16, 17, 18, 19, 20, 21, 22, 23, 24, 25, 26, 27, 28, 39] [1, 2] σ σ' → (JG (xsel [2, 3, 4, 5, 6, 7, 8, 9, 10, 11, 12, 13, 14] σ') ∧ σ' 0 1 = 0 ∧ (0 ≤ σ' 28 1 ∧ σ' 28 1 ≤ 40) ∧ (0 ≤ σ' 39 2 ∧ σ' 39 2 ≤ 8) ∧ (0 ≤ σ' 39 1 ∧ σ' 39 1 ≤ 7)) → (∃ s, TS0 s ∧ TBA s (σ 1) (σ 0 1) r) → Q (some (xvi r)) σ'
def TABFE : xE := fun as σ Q => as = [xvr 0] ∧ (0 ≤ σ 0 1 ∧ σ 0 1 ≤ 940) ∧ (JG (xsel [2, 3, 4, 5, 6, 7, 8, 9, 10, 11, 12, 13, 14] σ)) ∧ (0 ≤ σ 28 1 ∧ σ 28 1 ≤ 40) ∧ ((0 ≤ σ 39 2 ∧ σ 39 2 ≤ 8) ∧ (0 ≤ σ 39 1 ∧ σ 39 1 ≤ 7)) ∧ WDS (σ 31) ∧ TABFQ σ Q
theorem TABFE_i {σ : xS} {Q : Option xV → xS → Prop} (h1 : 0 ≤ σ 0 1 ∧ σ 0 1 ≤ 940) (h2 : JG (xsel [2, 3, 4, 5, 6, 7, 8, 9, 10, 11, 12, 13, 14] σ)) (h3 : 0 ≤ σ 28 1 ∧ σ 28 1 ≤ 40) (h4 : (0 ≤ σ 39 2 ∧ σ 39 2 ≤ 8) ∧ (0 ≤ σ 39 1 ∧ σ 39 1 ≤ 7)) (h5 : WDS (σ 31)) (hQ : ∀ (r : Int) (σ' : xS), Fr [30, 32, 33, 2, 3, 4, 5, 6, 7, 8, 9, 10, 11, 12, 13, 14, 15, 16, 17, 18, 19, 20, 21, 22, 23, 24, 25, 26, 27, 28, 39] [1, 2] σ σ' → (JG (xsel [2, 3, 4, 5, 6, 7, 8, 9, 10, 11, 12, 13, 14] σ') ∧ σ' 0 1 = 0 ∧ (0 ≤ σ' 28 1 ∧ σ' 28 1 ≤ 40) ∧ (0 ≤ σ' 39 2 ∧ σ' 39 2 ≤ 8) ∧ (0 ≤ σ' 39 1 ∧ σ' 39 1 ≤ 7)) → (∃ s, TS0 s ∧ TBA s (σ 1) (σ 0 1) r) → Q (some (xvi r)) σ') : TABFE [xvr 0] σ Q := ⟨rfl, h1, h2, h3, h4, h5, hQ⟩
set_option maxRecDepth 100000 in
set_option maxHeartbeats 4000000 in
theorem mX10_tableF (l : Launch) (D : va_G) (yv : Nat → ClassId) : xMt2 l D yv yX10_table cX10_table 2 (some .int) 7 47 shB0 shB1 TABFE := by
  intro a ρ sz as σ Q hE hσ has
  obtain ⟨rfl, h1, h2, h3, h4, h5, hQ⟩ := hE
  refine xEnter (d := 7) (mc := 0) (ms := 0) (by decide +kernel) (by simp [xargs]) hσ has ?_
  intro p e s m below meth c hsz hC
  show XA _ _ _ _ _ _ _ _ _ _ _ _ _ _ _ _ _ _ _ _ 0 [xvr 0, xvu] [] σ
  refine xs_aload hC (i := 0) (x := 0) (by decide +kernel) rfl ?_
  refine xs_get hC fiB0 (i := 49) (t := 0) (v := xvr 32) (foX10 49 10 7 rfl) rfl rfl rfl (fun _ => trivial) (by decide +kernel) ?_
  refine xs_aload hC (i := 0) (x := 0) (by decide +kernel) rfl ?_
  refine xs_get hC fiB0 (i := 9) (t := 0) (v := xvr 1) (foX10 9 10 0 rfl) rfl rfl rfl (fun _ => trivial) (by decide +kernel) ?_
  refine xs_aload hC (i := 0) (x := 0) (by decide +kernel) rfl ?_
  refine xs_get hC fiB0 (i := 13) (t := 0) (v := xvi (σ 0 1)) (foX10 13 10 1 rfl) rfl rfl rfl (fun h => (h.1 0 10 _ rfl 1 0 rfl).1 (Or.inl rfl)) (by decide +kernel) ?_
  refine xs_aload hC (i := 0) (x := 0) (by decide +kernel) rfl ?_
  refine xs_get hC fiB0 (i := 27) (t := 0) (v := xvr 15) (foX10 27 10 4 rfl) rfl rfl rfl (fun _ => trivial) (by decide +kernel) ?_
  refine xs_call2 (y := yX9_read) (τ := [32, 33, 30, 31, 1, 15, 16, 17, 18, 19, 20, 21, 22, 23, 24, 25, 26, 27]) (N' := 18) (sh' := shT0) (sh'2 := shT) (sh2 := shB1) (t := 32) (as' := [xvr 1, xvi (σ 0 1), xvr 15]) (rest := []) (n := 3) (ci := 9) (E := TRFE) (K := fun r σ2 => ∃ z : Int, r = some (xvi z) ∧ (z = 0 ∨ z = 1) ∧ Fr [30, 32, 33, 15, 16, 17, 18, 19] [] σ σ2 ∧ TG (xsel [32, 33, 30, 31, 1, 15, 16, 17, 18, 19, 20, 21, 22, 23, 24, 25, 26, 27] σ2) ∧ (∃ s, TS0 s ∧ TRX (xsel [32, 33, 30, 31, 1, 15, 16, 17, 18, 19, 20, 21, 22, 23, 24, 25, 26, 27] σ2) (σ 1) (σ 0 1) 900 s z)) hC (mX9_readF l D yv) (by decide) (xsubB_ok (l' := wlT0) (l := wlB0) (by decide +kernel)) (xsubB_ok (l' := wlT) (l := wlB1) (by decide +kernel)) (hout_of (l := wlB0) (l2 := wlB1) 30 (by decide +kernel) (by decide)) q_2_180 q_2_181 q_2_182 q_1_11 q_2_183 rfl rfl (by decide +kernel) (by decide) fiB0 (Nat.zero_le _) (Nat.zero_le _) (by decide +kernel) rfl rfl rfl (by decide) ?_ ?_
  · exact TRFE_i h1 (by exact h5) (fun r σ' f p => ⟨r, rfl, by
      obtain ⟨_, s, _, hX⟩ := p
      rcases hX with h | h
      · exact Or.inr h.1
      · exact Or.inl h.1, f.bk (by decide) (by decide), p.1, p.2⟩)
  rintro r σ2 ⟨z, rfl, hz, f2, hT2, sx, hS0, hX⟩
  refine xs_istore hC (i := 1) (x := z) (by decide +kernel) (by decide) ?_
  show XA _ _ _ _ _ _ _ _ _ _ _ _ _ _ _ _ _ _ _ _ 20 [xvr 0, xvi z] [] σ2
  have e28 : σ2 28 = σ 28 := f2.1 28 (by decide) (by decide)
  have e39 : σ2 39 = σ 39 := f2.1 39 (by decide) (by decide)
  exact xTE_s (C := kX10_table_b) (c0 := 20) (L0 := [xvr 0, xvi z]) (Z := fun _ _ _ => False) hC zX10_table_b (fun v i n E he => (hX10_table_b l D yv v i n E he).up (by decide)) (Nat.zero_le _) (Nat.zero_le _) (fun r σ t h1 h2 h3 h4 h5 h6 => ⟨⟨r, σ, rfl, h1, h2, h3, h4, h5⟩, h6⟩) (pX10_tableF (h2.fr2 f2 (by decide)) hT2 (by rw [e28]; exact h3) (by rw [e39]; exact h4) (fun r σ3 f3 p3 => hQ r σ3 ((Fr.rf.tr f2 (by decide) (by decide)).tr f3 (by decide) (by decide)) p3.1 ⟨_, hS0, TBA.of hX p3.2⟩)) (fun _ _ _ h => h.elim)
/-- table, with its answer -/
def pubT : vE := fun w as σ Q => JW w σ ∧ as = [xvr 0] ∧ WDS (σ 31) ∧ ∀ (r : Int) w' σ', JW w' σ' → (σ' 0 1 = 0 ∧ w' 9 = w 9 ∧ keptW w w' σ σ') → (∃ s, TS0 s ∧ TBA s (σ 1) (σ 0 1) r) → Q (some (xvi r)) w' σ'
