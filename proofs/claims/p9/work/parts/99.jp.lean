/-! GL behind play, evening, table, image and restore. -/
theorem plyD_nn {R : Nat → Int} : ∀ (n : Nat) (f : Nat → Int), 0 ≤ plyD f R n
  | 0, _ => Int.le_refl 0
  | n + 1, f => by
    rw [plyD_s]
    split
    · omega
    · have := plyD_nn (R := R) n (stA f R); omega
theorem plyR_ind {r r' f R : Nat → Int} {n : Nat} (h4 : ¬ f 4 = -1) (hn : 0 < n) : plyR r f R n = plyR r' f R n := by
  cases n with
  | zero => omega
  | succ n => rw [plyR_s, plyR_s, if_neg h4, if_neg h4]
theorem evG_ind {g g' f rd : Nat → Int} {n : Nat} (hn : 0 < n) : evG g f rd n = evG g' f rd n := by
  cases n with
  | zero => omega
  | succ n => rfl
theorem GL.play {w w' : Nat → Bool} {σ σ' ς ς' : xS} {n z r : Int} (h : GL w σ ς) (eb : ∀ k : Nat, (k : Int) < σ 0 1 → σ 1 k = ς 1 k) (el : σ 0 1 = ς 0 2) (c : PLC (ς 2) (ς 1) n w σ z w' σ') (fr : Fr [2, 7, 8, 20] [0, 2, 3, 4, 5, 24, 27] ς ς') (x : ς' 0 2 = 0 ∧ ((¬ RLS (ς 2) (ς 1) (ς 0 2) n ∧ r = -1 ∧ SAMEx ς ς') ∨ (RLS (ς 2) (ς 1) (ς 0 2) n ∧ ((ς 2 4 = -1 ∧ r = 0 ∧ SAMEx ς ς') ∨ (¬ ς 2 4 = -1 ∧ KPT (ς 0 27) (ς' 0 27) (ς 8) (ς' 8) (ς 2) ∧ (TV (ς' 2) ∧ (∀ i : Nat, i < 4 ∨ 571 ≤ i → ς' 2 i = ς 2 i) ∧ (0 ≤ r ∧ r ≤ n)) ∧ ς' 2 = plyN (ς 2) (ς 1) n.toNat ∧ r = plyD (ς 2) (ς 1) n.toNat ∧ (((1 : Int) = 0 ∧ ς' 7 = ς 7 ∧ ς' 0 24 = ς 0 24) ∨ (¬ (1 : Int) = 0 ∧ (∀ i : Nat, i < 8 → ς' 7 i = plyR (ς 7) (ς 2) (ς 1) n.toNat i) ∧ ((r = 0 ∧ ς' 0 24 = ς 0 24) ∨ (0 < r ∧ ς' 0 24 = 1))))))))) : GL w' σ' ς' := by
  have e5 : ς' 5 = ς 5 := fr.1 5 (by decide) (by decide)
  have e25 : ς' 25 = ς 25 := fr.1 25 (by decide) (by decide)
  have e26 : ς' 26 = ς 26 := fr.1 26 (by decide) (by decide)
  have e27 : ς' 27 = ς 27 := fr.1 27 (by decide) (by decide)
  have hRL : RLC (ς 2) (σ 1) (σ 0 1) n → 2 ≤ ς 2 1 → RLS (ς 2) (ς 1) (ς 0 2) n := fun ⟨a1, a2, a3, a4⟩ b => ⟨a1, b, by omega, fun k hk => by rw [← eb k (by omega)]; exact a4 k hk⟩
  have hLR : RLS (ς 2) (ς 1) (ς 0 2) n → RLC (ς 2) (σ 1) (σ 0 1) n := fun ⟨a1, a2, a3, a4⟩ => ⟨a1, by omega, by omega, fun k hk => by rw [eb k (by omega)]; exact a4 k hk⟩
  obtain ⟨c0, c⟩ := c
  obtain ⟨x0, x⟩ := x
  rcases c with ⟨c1, c2, rfl, c4⟩ | ⟨c1, c2, rfl, c4, c5⟩ | ⟨c1, c2, c3, c4, c5, c6, c7, c8, c9⟩
  · rcases x with ⟨x1, x2, x3⟩ | ⟨x1, _⟩
    · exact (h.cls (STW.st c4)).sm x3 e5 e25 e26 e27
    · exact absurd (hLR x1) c1
  · rcases x with ⟨x1, x2, x3⟩ | ⟨x1, ⟨_, _, x3⟩ | ⟨y1, y2, y3, y4, y5, y6⟩⟩
    · exact (h.cls (STW.st c4)).sm x3 e5 e25 e26 e27
    · exact (h.cls (STW.st c4)).sm x3 e5 e25 e26 e27
    · exfalso
      have z1 := c5 x1.2.1
      have hn := x1.1.1
      rw [show n.toNat = (n.toNat - 1) + 1 from by omega, plyD_s, if_neg y1] at z1
      have z2 := plyD_nn (R := ς 1) (n.toNat - 1) (stA (ς 2) (ς 1))
      omega
  · rcases x with ⟨x1, x2, x3⟩ | ⟨x1, ⟨y1, _, _⟩ | ⟨y1, y2, y3, y4, y5, y6⟩⟩
    · exact absurd (hRL c1 c3) x1
    · exfalso
      have z1 := (ply_e (r := ς 7) (f := ς 2) (R := ς 1) (n := n.toNat) (Or.inr y1)).2.1
      omega
    · obtain ⟨⟨a1, a2, a3⟩, b, d, l⟩ := h
      obtain ⟨t1, t2, t3⟩ := y3
      have e1 : ς' 2 1 = ς 2 1 := t2 1 (by omega)
      have m1 := a2.1.1.1.1.2.1
      have hn := x1.1.1
      have hr : 0 < r := by omega
      obtain ⟨_, r1, r2⟩ : ¬ (1 : Int) = 0 ∧ (∀ i : Nat, i < 8 → ς' 7 i = plyR (ς 7) (ς 2) (ς 1) n.toNat i) ∧ ((r = 0 ∧ ς' 0 24 = ς 0 24) ∨ (0 < r ∧ ς' 0 24 = 1)) := by
        rcases y6 with q | q
        · exact absurd q.1 (by decide)
        · exact q
      refine ⟨⟨by rw [y4]; exact c6, a2.to t1 t2, ?_⟩, b.keep a2 c5 y2 (fun q hq => t2 q (by omega)) c7, by rw [e25, e26, e27]; exact d.same (fun t h1 _ => c5.hi t h1), Or.inr ⟨by omega, fun i hi => ?_⟩⟩
      · rw [e1, e5]
        exact a3.cg (fun q hq => c7 q (by omega)) (fun _ _ => rfl)
      · rw [c8 i hi, r1 i hi, plyR_ind (r' := ς 7) y1 (by omega)]
theorem GL.evening {w w' : Nat → Bool} {σ σ' ς ς' : xS} {lives z r : Int} (h : GL w σ ς) (al : ALx (σ 1) (ς 1) (σ 0 1)) (el : σ 0 1 = ς 0 2) (c : EVC (ς 5) (ς 2) lives w σ z w' σ') (fr : Fr [2, 4, 7, 8, 9, 22] [0, 2, 3, 4, 5, 11, 12, 13, 14, 15, 16, 17, 18, 24, 27, 52, 54] ς ς') (x : EVR ς ς' lives r) : GL w' σ' ς' ∧ z = r := by
  have e5 : ς' 5 = ς 5 := fr.1 5 (by decide) (by decide)
  have e25 : ς' 25 = ς 25 := fr.1 25 (by decide) (by decide)
  have e26 : ς' 26 = ς 26 := fr.1 26 (by decide) (by decide)
  have e27 : ς' 27 = ς 27 := fr.1 27 (by decide) (by decide)
  have sm : ∀ {w0 : Nat → Bool} {σ0 : xS}, GL w0 σ0 ς → SMx ς ς' → GL w0 σ0 ς' := fun g k => g.rr (fun i _ => congrFun k.1.1 i) (fun q _ => congrFun e5 q) k.1.2.1 k.1.2.2.1 e25 e26 e27 k.2.1 k.2.2.1
  rcases c with ⟨c1, c2, rfl, c4⟩ | ⟨c1, c0, x1, cE, c⟩
  · rcases x with ⟨y1, y2, y3, _⟩ | ⟨y1, _⟩
    · exact ⟨sm (h.cls (STW.all c4)) y3, by omega⟩
    · exact absurd y1 c1
  · rcases x with ⟨y1, _⟩ | ⟨y1, y0, x2, yE, y⟩
    · exact absurd c1 y1
    · have e : x1 = x2 := EEND.u (EEND_cg al (fun _ _ => rfl) cE) (by rw [el]; exact yE)
      subst e
      rcases c with ⟨v, rfl, c2, c3, rfl, c5, c6⟩ | ⟨t, n, wr, rfl, c2, c3, c4, c5, c6⟩
      · rcases y with ⟨v2, ev, y2, y3, y4⟩ | ⟨t2, _, _, ev, _⟩
        · cases ev
          exact ⟨sm (h.cls (STW.st c5)) y4, by omega⟩
        · cases ev
      · rcases y with ⟨v2, ev, _⟩ | ⟨t2, n2, wr2, ev, y2, y3, y4, y5, y6, y7⟩
        · cases ev
        · cases ev
          obtain ⟨en, ew⟩ := c2.u y3
          have en : n = n2 := by omega
          subst en
          refine ⟨?_, by rw [c3, y4]⟩
          rcases c6 with ⟨d1, d2, d3, d4, d5, d6⟩ | ⟨d1, rfl, d3⟩
          · rcases y6 with ⟨g1, g2, g3, g4⟩ | ⟨g1, _⟩
            · obtain ⟨⟨a1, a2, a3⟩, b, d, l⟩ := h
              have m1 := a2.1.1.1.1.2.1
              have hnl : (n : Int) ≤ t.l := c2.1.2
              obtain ⟨v1, v2⟩ := evF_tv a2.1 (y2.o rfl rfl) n hnl (fun i hi => c2.2.1 i (by omega))
              rw [if_pos d1.1] at y7
              refine ⟨⟨by rw [y7]; exact d3, by rw [y7]; exact a2.to v1 v2, ?_⟩, b.keep a2 d2 g2 (fun q hq => by rw [y7]; exact v2 q (by omega)) d4, by rw [e25, e26, e27]; exact d.same (fun t h1 _ => d2.hi t h1), Or.inr ⟨by omega, fun i hi => ?_⟩⟩
              · rw [y7, v2 1 (by omega), e5]
                exact a3.cg (fun q hq => d4 q (by omega)) (fun _ _ => rfl)
              · rw [d5 i hi, g4 i hi, evG_ind (g' := ς 7) d1.2]
            · exact absurd d1 g1
          · rcases y6 with ⟨g1, _⟩ | ⟨g1, ⟨g2, g3⟩, g4, g5⟩
            · exact absurd g1 d1
            · have e2 : ς' 2 = ς 2 := by
                rw [y7]
                split
                · next hl =>
                  obtain rfl : n = 0 := by
                    by_cases q : 0 < n
                    · exact absurd ⟨hl, q⟩ d1
                    · omega
                  rfl
                · rfl
              exact (h.cls (STW.st d3)).rr (fun i _ => congrFun e2 i) (fun q _ => congrFun e5 q) g3 g2 e25 e26 e27 g5 g4
theorem GL.table {w : Nat → Bool} {σ σ' ς ς' : xS} {s : TSx} {z r : Int} (h : GL w σ ς) (al : ALx (σ 1) (ς 1) (σ 0 1)) (el : σ 0 1 = ς 0 2) (c : TBC s σ σ' z) (fc : Fr [30, 32, 33, 2, 3, 4, 5, 6, 7, 8, 9, 10, 11, 12, 13, 14, 15, 16, 17, 18, 19, 20, 21, 22, 23, 24, 25, 26, 27, 28, 39] [1, 2] σ σ') (h39 : 0 ≤ σ' 39 1 ∧ σ' 39 1 ≤ 7) (fr : Fr [2, 3, 5] [0, 2, 3, 4, 5, 11, 12, 13, 14, 15, 16, 17, 18, 19, 20, 21, 22, 27] ς ς') (x : TBR s ς ς' r) : GL w σ' ς' ∧ z = r := by
  have e7 : ς' 7 = ς 7 := fr.1 7 (by decide) (by decide)
  have e8 : ς' 8 = ς 8 := fr.1 8 (by decide) (by decide)
  have e25 : ς' 25 = ς 25 := fr.1 25 (by decide) (by decide)
  have e26 : ς' 26 = ς 26 := fr.1 26 (by decide) (by decide)
  have e27 : ς' 27 = ς 27 := fr.1 27 (by decide) (by decide)
  have e24 : ς' 0 24 = ς 0 24 := fr.2 24 (by decide)
  obtain ⟨x1, cE, c⟩ := c
  obtain ⟨x2, yE, y⟩ := x
  have e : x1 = x2 := TEND.u (TEND_cg al cE) (by rw [el]; exact yE)
  subst e
  rcases c with ⟨v, rfl, c2, c3, c4⟩ | ⟨i, t, rfl, c2, c3, c4, c5, c6, c7⟩
  · rcases y with ⟨v2, ev, y2, y3, y4, y5, y6⟩ | ⟨_, _, ev, _⟩
    · cases ev
      exact ⟨(h.cls (STW.st (stc_fr c4 (by decide)))).rr (fun i _ => congrFun y3 i) y4 e7 e8 e25 e26 e27 e24 y5, by omega⟩
    · cases ev
  · rcases y with ⟨_, ev, _⟩ | ⟨i2, t2, ev, y2, y3, y4, y5, y6, y7⟩
    · cases ev
    · cases ev
      obtain ⟨_, b, d, l⟩ := h
      obtain ⟨n0, n1, n2, n3, n7⟩ := rowT_n (t := t)
      obtain ⟨v1, v2, v3⟩ := begF_tv y3 (by rw [n2]; exact y4) (rowT_z (by omega)) (fun q hq => rowT_z (by omega))
      refine ⟨⟨⟨by rw [y5]; exact c4 y3, by rw [y5]; exact ⟨v1, v2⟩, ?_⟩, ?_, ?_, ?_⟩, by omega⟩
      · rw [y5, v3 1 (by omega), n1]
        exact c5.cg (fun _ _ => rfl) y6
      · rw [y7]
        exact PASTL.z c7 h39
      · rw [e25, e26, e27]
        exact d.same (fun t h1 _ => fc.1 t (by omega) (fun hm => by simp only [List.mem_cons, List.not_mem_nil, or_false] at hm; omega))
      · rw [e24, e7]
        unfold LATL
        rw [fc.1 43 (by decide) (by decide)]; exact l
theorem GL.image {w w' : Nat → Bool} {σ σ' ς ς' : xS} {k z r : Int} (h : GL w σ ς) (hi : imgR w k z w') (c : imF w σ k w' σ' (ς 2)) (fr : Fr [25, 26, 27] [0] ς ς') (x : ((0 ≤ k ∧ k ≤ 1) ∧ r = 1 ∧ ((∀ q : Nat, q < 765 → ς' 25 (765 * k.toNat + q) = ς 2 q) ∧ ∀ q : Nat, (q < 765 * k.toNat ∨ 765 * k.toNat + 765 ≤ q) → ς' 25 q = ς 25 q) ∧ ((∀ q : Nat, q < 6 → ς' 26 (6 * k.toNat + q) = ς 5 q) ∧ ∀ q : Nat, (q < 6 * k.toNat ∨ 6 * k.toNat + 6 ≤ q) → ς' 26 q = ς 26 q) ∧ ς' 27 = up (ς 27) k.toNat 1) ∨ (¬ (0 ≤ k ∧ k ≤ 1) ∧ r = 0 ∧ ς' 25 = ς 25 ∧ ς' 26 = ς 26 ∧ ς' 27 = ς 27)) : GL w' σ' ς' := by
  have e2 : ς' 2 = ς 2 := fr.1 2 (by decide) (by decide)
  have e5 : ς' 5 = ς 5 := fr.1 5 (by decide) (by decide)
  have e7 : ς' 7 = ς 7 := fr.1 7 (by decide) (by decide)
  have e8 : ς' 8 = ς 8 := fr.1 8 (by decide) (by decide)
  have e24 : ς' 0 24 = ς 0 24 := fr.2 24 (by decide)
  have e27 : ς' 0 27 = ς 0 27 := fr.2 27 (by decide)
  obtain ⟨lo, c⟩ := c
  have hw : ∀ x, 1 ≤ x → x ≤ 8 → w' x = w x := fun x h1 h2 => by
    rcases hi with ⟨_, _, q⟩ | ⟨_, _, rfl⟩
    · rw [q x, if_neg (by omega)]
    · rfl
  obtain ⟨⟨a1, a2, a3⟩, b, d, l⟩ := h
  have m1 := a2.1.1.1.1.2.1
  refine ⟨⟨by rw [e2]; exact a1.eq (fun t h1 h2 => lo t (by omega)), by rw [e2]; exact a2, by rw [e2, e5, lo 3 (by omega)]; exact a3⟩, by rw [e8, e27, e2]; exact b.same (lo 39 (by omega)) (fun i _ => congrFun (lo 3 (by omega)) i) (fun t _ h2 => lo t h2) hw, ?_, by rw [e24, e7]; unfold LATL; rw [lo 43 (by omega)]; exact l⟩
  rcases c with ⟨k1, g1, g2, _, g4⟩ | ⟨k1, g1⟩
  · rcases x with ⟨_, _, ⟨q1, q2⟩, ⟨n1, n2⟩, u⟩ | ⟨x1, _⟩
    · intro k2 hk2 hn
      by_cases hk : k2 = k.toNat
      · have er : ∀ q, q < 584 → (fun q => ς' 25 (765 * k2 + q)) q = ς 2 q := fun q hq => by
          show ς' 25 (765 * k2 + q) = ς 2 q
          rw [hk]; exact q1 q (by omega)
        refine ⟨?_, a2.c5 er, ?_⟩
        · rw [hk]
          rw [hk] at er
          exact g1.c5 er
        · have e1 : ς' 25 (765 * k2 + 1) = ς 2 1 := by rw [hk]; exact q1 1 (by omega)
          rw [e1]
          refine a3.cg (fun q hq => ?_) (fun q hq => ?_)
          · rw [hk]; exact g2 q (by omega)
          · show ς' 26 (6 * k2 + q) = ς 5 q
            rw [hk]; exact n1 q (by omega)
      · rw [u] at hn
        unfold up at hn
        rw [if_neg hk] at hn
        obtain ⟨d1, d2, d3⟩ := d k2 hk2 hn
        have er : ∀ q, q < 584 → (fun q => ς' 25 (765 * k2 + q)) q = (fun q => ς 25 (765 * k2 + q)) q := fun q hq => q2 _ (by omega)
        have ec := (g4 k2 hk2 hk).1
        refine ⟨(d1.eq (fun t h1 h2 => ?_)).c5 er, d2.c5 er, ?_⟩
        · have z := ec (t - (151 + 13 * k2)) (by omega)
          rw [show 151 + 13 * k2 + (t - (151 + 13 * k2)) = t from by omega] at z
          exact z
        · rw [q2 _ (by omega), ec 1 (by omega)]
          have z1 := d2.1.1.1.1.2.1
          have z1 : 0 ≤ ς 25 (765 * k2 + 1) ∧ ς 25 (765 * k2 + 1) ≤ 6 := z1
          exact d3.cg (fun _ _ => rfl) (fun q hq => n2 _ (by omega))
    · omega
  · rcases x with ⟨x1, _⟩ | ⟨_, _, x3, x4, x5⟩
    · omega
    · rw [x3, x4, x5]
      exact d.same (fun t _ _ => g1 t)
theorem GL.res {w : Nat → Bool} {σ ς : xS} {k : Int} (h : GL w σ ς) (hkp : ∀ k : Nat, k < 2 → (¬ ς 27 k = 0 ↔ w (9 + k) = true)) (hk : (0 ≤ k ∧ k < 2) ∧ w (9 + k.toNat) = true) : gmC (151 + 13 * k.toNat) σ (fun q => ς 25 (765 * k.toNat + q)) := (h.2.2.1 k.toNat (by omega) ((hkp k.toNat (by omega)).mpr hk.2)).1
