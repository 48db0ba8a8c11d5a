set_option maxHeartbeats 4000000 in
set_option maxRecDepth 100000 in
theorem sX2_clearC {σ : xS} {Q : Option xV → xS → Prop} (hQ : ∀ σ' : xS, Fr [2, 3] [0, 1, 2, 3, 8, 9] σ σ' → (σ' 0 0 = 0 ∧ σ' 0 1 = 0 ∧ σ' 0 2 = 0 ∧ σ' 0 3 = 0 ∧ (∀ i : Nat, i < 78 → σ' 2 i = 0) ∧ (∀ i : Nat, i < 6 → σ' 3 i = 0) ∧ σ' 0 8 = 0 ∧ σ' 0 9 = 0) → Q none σ') : xT kX2_clear [xvr 0] σ Q := by
  refine ⟨Nat.le_of_ble_eq_true rfl, fun X hX => ?_⟩
  show X 0 [xvr 0] σ
  have hF : Fr [2, 3] [0, 1, 2, 3, 8, 9] σ σ := Fr.rf
  refine hX 400 0 _ _ ?_
  have hF := hF.p (j := 0) (v := 0) (by decide)
  have hF := hF.p (j := 1) (v := 0) (by decide)
  refine And.intro (by omega) ?_
  have hF := hF.p (j := 2) (v := 0) (by decide)
  have hF := hF.p (j := 3) (v := 0) (by decide)
  refine sX2_takeCardsAwayF (σ := (xput (xput (xput (xput σ 0 0 0) 0 1 0) 0 2 0) 0 3 0)) (fun σ5 f5 p5 => ?_)
  have hF := hF.tr f5 (by decide) (by decide)
  refine And.intro rfl (And.intro rfl ?_)
  exact hQ _ hF ⟨(f5.2 0 (by decide)).trans rfl, (f5.2 1 (by decide)).trans rfl, (f5.2 2 (by decide)).trans rfl, (f5.2 3 (by decide)).trans rfl, p5.1, p5.2.1, p5.2.2.1, p5.2.2.2⟩
set_option maxHeartbeats 4000000 in
set_option maxRecDepth 100000 in
theorem pX9_read_aC {σ : xS} {size : Int} {Q : Option xV → xS → Prop} {Z : Nat → List xV → xS → Prop} (hZ : ∀ σ' : xS, Fr [1, 2, 5, 6, 7, 8, 9] [2, 3] σ σ' → TG σ' → σ' 0 3 = 0 → (σ' 5 0 = 0 ∧ σ' 5 1 = 0 ∧ σ' 5 2 = 0 ∧ σ' 5 3 = 0 ∧ σ' 0 2 = 0 ∧ σ' 5 8 = 0 ∧ σ' 5 9 = 0) ∧ (∀ i : Nat, i < 78 → σ' 7 i = 0) ∧ (∀ j : Nat, j < 13 → σ' 1 j = 0) ∧ (∀ i : Nat, i < 6 → σ' 8 i = 0) → Z 22 [xvr 0, xvr 4, xvi size, xvr 5] σ') : xTE kX9_read_a Q Z 0 [xvr 0, xvr 4, xvi size, xvr 5] σ := by
  intro X hX hZZ
  have hF : Fr [1, 2, 5, 6, 7, 8, 9] [2, 3] σ σ := Fr.rf
  refine hX 400 0 _ _ ?_
  refine xMVf (sh := shT0) (ci := 2) (τ := [5, 6, 7, 8, 9, 10, 11, 12, 13, 14, 15, 16, 17]) (E := xT kX2_clear) (t := 5) (r := []) (σ := σ) rfl rfl (fun Q1 hQ1 => sX2_clearC (σ := xsel [5, 6, 7, 8, 9, 10, 11, 12, 13, 14, 15, 16, 17] σ)   (fun ς1 f1 p1 => hQ1 _ _ ?_))
  replace f1 : Fr [5, 7, 8] [] σ (xbk [5, 6, 7, 8, 9, 10, 11, 12, 13, 14, 15, 16, 17] σ ς1) := f1.bk (by decide) (by decide)
  replace p1 : (xbk [5, 6, 7, 8, 9, 10, 11, 12, 13, 14, 15, 16, 17] σ ς1) 5 0 = 0 ∧ (xbk [5, 6, 7, 8, 9, 10, 11, 12, 13, 14, 15, 16, 17] σ ς1) 5 1 = 0 ∧ (xbk [5, 6, 7, 8, 9, 10, 11, 12, 13, 14, 15, 16, 17] σ ς1) 5 2 = 0 ∧ (xbk [5, 6, 7, 8, 9, 10, 11, 12, 13, 14, 15, 16, 17] σ ς1) 5 3 = 0 ∧ (∀ i : Nat, i < 78 → (xbk [5, 6, 7, 8, 9, 10, 11, 12, 13, 14, 15, 16, 17] σ ς1) 7 i = 0) ∧ (∀ i : Nat, i < 6 → (xbk [5, 6, 7, 8, 9, 10, 11, 12, 13, 14, 15, 16, 17] σ ς1) 8 i = 0) ∧ (xbk [5, 6, 7, 8, 9, 10, 11, 12, 13, 14, 15, 16, 17] σ ς1) 5 8 = 0 ∧ (xbk [5, 6, 7, 8, 9, 10, 11, 12, 13, 14, 15, 16, 17] σ ς1) 5 9 = 0 := p1
  generalize xbk [5, 6, 7, 8, 9, 10, 11, 12, 13, 14, 15, 16, 17] σ ς1 = σ1 at f1  p1 ⊢
  have hF := hF.tr f1 (by decide) (by decide)
  obtain ⟨pz0, pz1, pz2, pz3, pzh, pzc, pz8, pz9⟩ := p1
  refine And.intro (by decide) ?_
  generalize hfl2 : xfl σ1 1 13 0 = σ2
  have f2 : Fr [1] [] σ1 σ2 := hfl2 ▸ Fr.fl (by decide)
  have v2 : ∀ j : Nat, j < 13 → σ2 1 j = 0 := fun j hj => by rw [← hfl2]; exact xfl_in hj
  have hF := hF.tr f2 (by decide) (by decide)
  have k0 : σ2 5 0 = 0 := (congrFun (f2.1 5 (by decide) (by decide)) 0).trans pz0
  have k1 : σ2 5 1 = 0 := (congrFun (f2.1 5 (by decide) (by decide)) 1).trans pz1
  have k2 : σ2 5 2 = 0 := (congrFun (f2.1 5 (by decide) (by decide)) 2).trans pz2
  have k3 : σ2 5 3 = 0 := (congrFun (f2.1 5 (by decide) (by decide)) 3).trans pz3
  have k8 : σ2 5 8 = 0 := (congrFun (f2.1 5 (by decide) (by decide)) 8).trans pz8
  have k9 : σ2 5 9 = 0 := (congrFun (f2.1 5 (by decide) (by decide)) 9).trans pz9
  have kh : ∀ i : Nat, i < 78 → σ2 7 i = 0 := fun i hi => (congrFun (f2.1 7 (by decide) (by decide)) i).trans (pzh i hi)
  have kp : ∀ j : Nat, j < 13 → σ2 1 j = 0 := v2
  have kc : ∀ i : Nat, i < 6 → σ2 8 i = 0 := fun i hi => (congrFun (f2.1 8 (by decide) (by decide)) i).trans (pzc i hi)
  refine And.intro (by omega) ?_
  have hF := hF.p (j := 2) (v := 0) (by decide)
  have hF := hF.p (j := 3) (v := 0) (by decide)
  exact hZZ _ _ _ (hZ _ hF (TG.zero k0 k1 k2 k8 k9 kh kp) (show 0 = 0 from rfl) ⟨⟨k0, k1, k2, k3, (show 0 = 0 from rfl), k8, k9⟩, kh, kp, kc⟩)
def TRCQ (size : Int) (σ : xS) (Q : Option xV → xS → Prop) : Prop := ∀ (r : Int) (σ' : xS), Fr [1, 2, 5, 6, 7, 8, 9] [2, 3] σ σ' → (TG σ' ∧ CRD σ' ∧ ∃ s, TS0 s ∧ TRX σ' (σ 4) size 900 s r) → Q (some (xvi r)) σ'
def TRCE : xE := fun as σ Q => ∃ size : Int, as = [xvr 0, xvr 4, xvi size, xvr 5] ∧ (0 ≤ size ∧ size ≤ 940) ∧ WDS (σ 3) ∧ TRCQ size σ Q
theorem TRCE_i {size : Int} {σ : xS} {Q : Option xV → xS → Prop} (h0 : 0 ≤ size ∧ size ≤ 940) (hw : WDS (σ 3)) (hQ : ∀ (r : Int) (σ' : xS), Fr [1, 2, 5, 6, 7, 8, 9] [2, 3] σ σ' → (TG σ' ∧ CRD σ' ∧ ∃ s, TS0 s ∧ TRX σ' (σ 4) size 900 s r) → Q (some (xvi r)) σ') : TRCE [xvr 0, xvr 4, xvi size, xvr 5] σ Q := ⟨size, rfl, h0, hw, hQ⟩
set_option maxHeartbeats 4000000 in
set_option maxRecDepth 100000 in
theorem mX9_readC (l : Launch) (D : va_G) (yv : Nat → ClassId) : xMt2 l D yv yX9_read cX9_read 4 (some .boolean) 4 18 shT0 shT TRCE := by
  intro a ρ sz as σ Q hE hσ has
  obtain ⟨size, rfl, h0, hw0, hQ⟩ := hE
  refine xEnter (d := 4) (mc := 0) (ms := 0) (by decide +kernel) (by simp [xargs]) hσ has ?_
  intro p e s m below meth c hsz hC
  refine xTE_s (C := kX9_read_a) (c0 := 0) (L0 := [xvr 0, xvr 4, xvi size, xvr 5]) (Q := fun _ _ => False) (Z := fun c L σ1 => c = 22 ∧ L = [xvr 0, xvr 4, xvi size, xvr 5] ∧ Fr [1, 2, 5, 6, 7, 8, 9] [2, 3] σ σ1 ∧ TG σ1 ∧ σ1 0 3 = 0 ∧ (σ1 5 0 = 0 ∧ σ1 5 1 = 0 ∧ σ1 5 2 = 0 ∧ σ1 5 3 = 0 ∧ σ1 0 2 = 0 ∧ σ1 5 8 = 0 ∧ σ1 5 9 = 0) ∧ (∀ i : Nat, i < 78 → σ1 7 i = 0) ∧ (∀ j : Nat, j < 13 → σ1 1 j = 0) ∧ ∀ i : Nat, i < 6 → σ1 8 i = 0) hC zX9_read_a (fun v i n E he => (hX9_read_a l D yv v i n E he).up (by decide)) (Nat.zero_le _) (Nat.zero_le _) (fun _ _ _ h => h.elim) (pX9_read_aC (fun σ' f h1 h2 h3 => ⟨rfl, rfl, f, h1, h2, h3⟩)) ?_
  rintro c0 L1 σ1 ⟨rfl, rfl, hF, hT, hl0, hA1, hA2, hA3, hA4⟩
  refine xs_aload hC (i := 0) (x := 0) (by decide +kernel) rfl ?_
  refine xs_get hC fiT0 (i := 23) (t := 0) (v := xvr 2) (foX9 23 9 0 rfl) rfl rfl rfl (fun _ => trivial) (by decide +kernel) ?_
  refine xs_aload hC (i := 1) (x := 4) (by decide +kernel) rfl ?_
  refine xs_iload hC (i := 2) (x := size) (by decide +kernel) rfl ?_
  refine xs_sipush hC (z := 900) (by decide) (by decide) (by decide +kernel) ?_
  refine xs_call2 (y := yX6_begin) (τ := [2, 3, 4]) (N' := 3) (sh' := shR0) (sh'2 := shR) (sh2 := shT) (t := 2) (as' := [xvr 4, xvi size, xvi 900]) (rest := []) (n := 3) (ci := 6) (E := EBF) (K := fun r σ2 => r = none ∧ Fr [2] [] σ1 σ2 ∧ (0 ≤ σ2 2 4 ∧ σ2 2 4 ≤ σ2 2 2 ∧ σ2 2 2 ≤ 940) ∧ (σ2 2 2 = size ∧ σ2 2 3 = 900 ∧ σ2 2 9 = 0 ∧ RCs (xsel [2, 3, 4] σ2) (σ1 4) size 900 0)) hC (mX6_beginF l D yv) (by decide) (xsubB_ok (l' := wlR0) (l := wlT0) (by decide +kernel)) (xsubB_ok (l' := wlR) (l := wlT) (by decide +kernel)) (hout_of (l := wlT0) (l2 := wlT) 2 (by decide) (by decide)) q_2_193 q_2_194 q_2_195 q_1_6 q_2_196 rfl rfl (by decide +kernel) (by decide) fiT0 (Nat.zero_le _) (Nat.zero_le _) (by decide +kernel) rfl rfl rfl (by decide) ?_ ?_
  · exact EBF_i h0 (by have e3 : σ1 3 = σ 3 := hF.1 3 (by decide) (by decide); show WDS (σ1 3); rw [e3]; exact hw0) (fun σ' f p => ⟨rfl, f.bk (by decide) (by decide), p.1, p.2⟩)
  rintro r σ2 ⟨rfl, f2, hr2, hn2, hm2, h92, hC2⟩
  have e4 : σ1 4 = σ 4 := hF.1 4 (by decide) (by decide)
  have g1 := f2.1 1 (by decide) (by decide); have g5 := f2.1 5 (by decide) (by decide); have g7 := f2.1 7 (by decide) (by decide); have g3 := f2.1 3 (by decide) (by decide); have g4 := f2.1 4 (by decide) (by decide)
  have g3' : σ1 3 = σ 3 := hF.1 3 (by decide) (by decide)
  have hRT : RTC σ2 (σ 4) size 900 (tsx 0 0 0 0 0 0 0 (fun _ => 0) (σ2 7) (σ2 9) (σ2 1)) := by
    refine ⟨⟨⟨g4.trans e4, hn2, hm2, by rw [g3, g3']; exact hw0⟩, by rw [e4] at hC2; exact hC2, h92⟩, ?_, fun q hq => ?_, rfl, rfl, rfl⟩
    · rw [g5, f2.2 2 (by decide)]; exact hA1
    · have hq : (q : Int) < 0 := hq
      omega
  have hS0 : TS0 (tsx 0 0 0 0 0 0 0 (fun _ => 0) (σ2 7) (σ2 9) (σ2 1)) := ⟨σ2 7, σ2 9, σ2 1, fun i hi => by rw [g7]; exact hA2 i hi, fun i hi => by rw [g1]; exact hA3 i hi, rfl⟩
  have hF2 := hF.tr f2 (by decide) (by decide)
  have hT2 := hT.fr f2 (by decide) (by decide) (by decide) (by decide)
  have hC2x : CRD σ2 := CRD.fr (σ := σ1) (fun p hp => by
    rw [hA4 p hp]; exact (sm_z (fun k hk => hA2 _ (by omega))).symm) f2
  have hl2 : σ2 0 3 = 0 := by rw [f2.2 3 (by decide), hl0]
  exact xTE_s (C := kX9_read_b) (c0 := 34) (L0 := [xvr 0, xvr 4, xvi size, xvr 5]) (Z := fun _ _ _ => False) hC zX9_read_b (fun v i n E he => (hX9_read_b l D yv v i n E he).up (by decide)) (Nat.zero_le _) (Nat.zero_le _) (fun r σ t h1 h2 h3 h4 h5 h6 => ⟨⟨r, σ, rfl, h1, h2, h3, h4, h5⟩, h6⟩) (pX9_read_bC ⟨hT2, hC2x⟩ hr2 hl2 hRT ⟨Int.le_refl 0, h0.1⟩ (fun r σ3 f3 p3 => hQ r σ3 (hF2.tr f3 (by decide) (by decide)) ⟨p3.1.1, p3.1.2, _, hS0, p3.2.2⟩)) (fun _ _ _ h => h.elim)

/-- the class's trial game holds the table's row before it begins -/
theorem TRX.g0 {σ' : xS} {b : Nat → Int} {n m : Int} {t : TSx} (h : RTC σ' b n m t) (hT : TG σ') (hC : CRD σ') : G0 (xsel [5, 6, 7, 8, 9, 10, 11, 12, 13, 14, 15, 16, 17] σ') (rowT t) := by
  obtain ⟨_, ⟨c0, c1, c2, c3, _, c8, c9⟩, _, c7, c9h, _⟩ := h
  obtain ⟨f0, f1, f2, f3, f7⟩ := rowT_n (t := t)
  obtain ⟨⟨g1, g2, g3, g4⟩, g5, g6⟩ := hT.1
  have g3 : 0 ≤ σ' 5 8 ∧ σ' 5 8 ≤ σ' 5 9 ∧ σ' 5 9 ≤ 52 := g3
  refine ⟨⟨fun i hi => ?_, fun j hj => ?_⟩, fun p hp => ?_, ⟨⟨⟨?_, ?_⟩, fun i hi => ?_⟩, by omega⟩, ⟨g3.2.2, g4⟩, fun i hi => rowT_z (by omega)⟩
  · show σ' 5 i = rowT t i
    have e : i = 0 ∨ i = 1 ∨ i = 2 ∨ i = 3 := by omega
    rcases e with rfl | rfl | rfl | rfl
    · exact c0
    · exact c1
    · exact c2
    · exact c3
  · show σ' 7 j = rowT t (60 + j)
    rw [c7, rowT_hd hj]
  · show σ' 8 p = sm 13 (hd (rowT t) p)
    rw [hC p hp]
    refine sm_congr (fun k hk => ?_)
    show σ' 7 (13 * p + k) = rowT t (60 + 13 * p + k)
    rw [c7, show 60 + 13 * p + k = 60 + (13 * p + k) from by omega, rowT_hd (by omega)]
  · exact g3.1
  · show σ' 5 9 - σ' 5 8 = rowT t 7
    rw [c8, c9, f7]; omega
  · have hi : (i : Int) < t.hpn := hi
    show σ' 9 ((σ' 5 8).toNat + i) = rowT t (8 + i)
    rw [c8, c9h, show (0 : Int).toNat + i = i from by omega, rowT_hp (by omega), if_pos hi]
/-- the answer of table, and the state behind it: the class -/
def TBC (s : TSx) (σ σ' : xS) (r : Int) : Prop := ∃ x, TEND (σ 1) (σ 0 1) 900 s x ∧ ((∃ y : Int × Int, x = .inl y ∧ r = -1 - y.2 ∧ σ' 0 2 = y.1 ∧ Fr [30, 32, 33, 15, 16, 17, 18, 19, 20, 21, 22, 23, 24, 25, 26, 27] [1, 2] σ σ') ∨ (∃ (i : Nat) (t : TSx), x = .inr (i, t) ∧ r = i ∧ σ' 0 2 = 0 ∧ (VS 0 (rowT t) → gmC 2 σ' (begF (rowT t))) ∧ NMR (σ' 3) t.nm t.ps ∧ σ' 28 1 = 0 ∧ σ' 39 2 = 0))
theorem sX2_startJ {σ : xS} {f : Nat → Int} {Q : Option xV → xS → Prop} (hp0 : C0x σ) (hp0_ : G0 σ f) (hp1_ : VS 0 f) (hQ : ∀ σ' : xS, Fr [2, 3, 5, 6, 7, 8, 9, 10, 11, 12] [8, 14, 15, 16] σ σ' → ((CG σ') ∧ (GR σ' (begF f) ∧ σ' 0 14 = begF f 4)) → Q none σ') : xT kX2_start [xvr 0] σ Q := by
  refine jkX2_start _ _ (fun o ς => o = none ∧ Fr [2, 3, 5, 6, 7, 8, 9, 10, 11, 12] [8, 14, 15, 16] σ ς ∧ ((CG ς))) (fun o ς => o = none ∧ Fr [2, 3, 5, 6, 7, 8, 9, 10, 11, 12] [8, 14, 15, 16] σ ς ∧ ((GR ς (begF f) ∧ ς 0 14 = begF f 4))) _ (sX2_start hp0 (fun ς f p => ⟨rfl, f, p⟩)) (sX2_startG hp0_ hp1_ (fun ς f p => ⟨rfl, f, p⟩)) (fun o ς h1 h2 => ?_)
  obtain ⟨rfl, f0, p0⟩ := h1
  obtain ⟨e2, f1, p1⟩ := h2
  exact hQ ς f0 ⟨p0, p1⟩
theorem sX2_startV {f : Nat → Int} {σ : xS} {Q : Option xV → xS → Prop} (hp0 : C0x σ) (h0 : G0 σ f) (hQ : ∀ σ' : xS, Fr [2, 3, 5, 6, 7, 8, 9, 10, 11, 12] [8, 14, 15, 16] σ σ' → (CG σ' ∧ (VS 0 f → GR σ' (begF f) ∧ σ' 0 14 = begF f 4)) → Q none σ') : xT kX2_start [xvr 0] σ Q := by
  by_cases hv : VS 0 f
  · refine sX2_startJ hp0 h0 hv (fun σ' f1 p => hQ σ' f1 ⟨p.1, fun _ => p.2⟩)
  · exact sX2_start hp0 (fun σ' f1 p => hQ σ' f1 ⟨p, fun h => absurd h hv⟩)
