theorem s_signG {σ : xS} {b : Nat → Int} {n m p c : Int} {Q : Option xV → xS → Prop} (hp0 : 0 ≤ σ 0 4 ∧ σ 0 4 ≤ n ∧ n ≤ 940) (hy : BYx b n) (hb : σ 1 = b) (hs : σ 0 3 = n) (hm : σ 0 5 = m) (hR : RRs σ b n m p) (hc : 19 ≤ c ∧ c < 300) (hQ : ∀ r : Int, ∀ σ' : xS, Fr [] [4, 11, 12, 13, 14, 15, 16, 17] σ σ' → ((r = 1 ∧ tkc b n m p = c ∧ (0 ≤ σ' 0 4 ∧ σ' 0 4 ≤ n) ∧ RRs σ' b n m (tkp b n m p)) ∨ (r = 0 ∧ ¬ tkc b n m p = c ∧ σ' 0 15 = 1 ∧ σ' 0 16 = tka b n m p)) → Q (some (xvi r)) σ') : xT kX11_sign [xvr 0, xvi c] σ Q := by
  subst hb; subst hs; subst hm
  exact s_signT hp0 hy hR hc hQ
theorem RTR.ps {σ σ' : xS} {b : Nat → Int} {n m p' : Int} {u : TSx} (h : RTR σ b n m u) (f : Fr [] [4, 11, 12, 13, 14, 15, 16, 17, 19] σ σ') (hR : RRs σ' b n m p') (h0 : 0 ≤ p') (hn : p' ≤ n) : RTR σ' b n m (u.wp p') := by
  obtain ⟨⟨_, _, _, hT⟩, h2, h3, h5, h7, h9, h1⟩ := h
  have e3 := f.1 3 (by decide) (by decide); have e5 := f.1 5 (by decide) (by decide)
  have e20 := f.2 20 (by decide); have e21 := f.2 21 (by decide); have e22 := f.2 22 (by decide)
  refine ⟨⟨hR, h0, hn, by rw [e3, e20]; exact hT⟩, ?_, ?_, ?_, ?_, ?_, ?_⟩
  · rw [e3, e22, e21]; exact h2
  · rw [e20]; exact h3
  · rw [e5]; exact h5
  · rw [e3]; exact h7
  · rw [e3]; exact h9
  · rw [e3]; exact h1
/-! The TOKENS of two texts that are alike for n bytes. -/
def ALx (b b' : Nat → Int) (n : Int) : Prop := ∀ i : Nat, (i : Int) < n → b i = b' i
theorem ALx.sy {b b' : Nat → Int} {n : Int} (h : ALx b b' n) : ALx b' b n := fun i hi => (h i hi).symm
theorem alS_cg {f : Int → Prop} {b b' : Nat → Int} {n : Int} {q k : Nat} (h : ALx b b' n) (hq : (q : Int) + k ≤ n) (a : alS f b q k) : alS f b' q k := fun i hi => by rw [← h (q + i) (by omega)]; exact a i hi
theorem W8_cg {b b' : Nat → Int} {n : Int} {q : Nat} (h : ALx b b' n) : ∀ k : Nat, (q : Int) + k ≤ n → W8 b q k = W8 b' q k
  | 0, _ => rfl
  | k + 1, hk => by
    show W8 b q k * 256 + b (q + k) = W8 b' q k * 256 + b' (q + k)
    rw [W8_cg h k (by omega), h (q + k) (by omega)]
theorem D10_cg {b b' : Nat → Int} {n : Int} {q : Nat} (h : ALx b b' n) : ∀ k : Nat, (q : Int) + k ≤ n → D10 b q k = D10 b' q k
  | 0, _ => rfl
  | k + 1, hk => by
    show D10 b q k * 10 + (b (q + k) - 48) = D10 b' q k * 10 + (b' (q + k) - 48)
    rw [D10_cg h k (by omega), h (q + k) (by omega)]
theorem NXr_cg {b b' : Nat → Int} {n : Int} {q k : Nat} {tok val wd : Int} (h : ALx b b' n) (hq : (q : Int) + k ≤ n) (a : NXr b q k tok val wd) : NXr b' q k tok val wd := by
  rcases a with ⟨a1, a2, a3, a4⟩ | ⟨a1, a2, a3, a4⟩ | ⟨a1, a2, a3⟩
  · exact Or.inl ⟨alS_cg h hq a1, a2, a3, by rw [← W8_cg h k hq]; exact a4⟩
  · exact Or.inr (Or.inl ⟨alS_cg h hq a1, a2, a3, by rw [← D10_cg h k hq]; exact a4⟩)
  · exact Or.inr (Or.inr ⟨fun z => a1 ⟨alS_cg h.sy hq z.1, z.2⟩, fun z => a2 ⟨alS_cg h.sy hq z.1, z.2⟩, a3⟩)
theorem NXT_cg {b b' : Nat → Int} {n m p tok val wd pl p' : Int} (h : ALx b b' n) (a : NXT b n m p tok val wd pl p') : NXT b' n m p tok val wd pl p' := by
  obtain ⟨q, ⟨s1, s2, s3, s4⟩, a⟩ := a
  refine ⟨q, ⟨s1, s2, fun i h1 h2 => by rw [← h i (by omega)]; exact s3 i h1 h2, fun z => by rw [← h q z]; exact s4 z⟩, ?_⟩
  rcases a with a | ⟨a1, a2, a⟩
  · exact Or.inl a
  · refine Or.inr ⟨a1, a2, ?_⟩
    rcases a with a | ⟨c1, c2, c3, a⟩ | ⟨c1, k, c2, c3, ⟨r1, r2, r3⟩, a⟩
    · exact Or.inl a
    · refine Or.inr (Or.inl ⟨c1, by rw [← h q c1]; exact c2, c3, ?_⟩)
      rw [← h q c1]; exact a
    · exact Or.inr (Or.inr ⟨c1, k, c2, c3, ⟨r1, alS_cg h r1 r2, fun z => by rw [← h (q + k) (by omega)]; exact r3 z⟩, NXr_cg h r1 a⟩)
theorem nxt_cg {b b' : Nat → Int} {n : Int} (h : ALx b b' n) (m p : Int) : nxt b n m p = nxt b' n m p := by
  unfold nxt
  congr 1
  funext t
  exact propext ⟨NXT_cg h, NXT_cg h.sy⟩
theorem tkc_cg {b b' : Nat → Int} {n : Int} (h : ALx b b' n) (m p : Int) : tkc b n m p = tkc b' n m p ∧ tkv b n m p = tkv b' n m p ∧ tkw b n m p = tkw b' n m p ∧ tka b n m p = tka b' n m p ∧ tkp b n m p = tkp b' n m p := by
  unfold tkc tkv tkw tka tkp
  rw [nxt_cg h]
  exact ⟨rfl, rfl, rfl, rfl, rfl⟩
theorem hps_cg {b b' : Nat → Int} {n : Int} (h : ALx b b' n) (m p : Int) : ∀ k : Nat, hps b n m p k = hps b' n m p k
  | 0 => (tkc_cg h m p).2.2.2.2
  | k + 1 => by
    show tkp b n m (hps b n m p k) = tkp b' n m (hps b' n m p k)
    rw [hps_cg h m p k, (tkc_cg h m _).2.2.2.2]
theorem hpl_cg {b b' : Nat → Int} {n : Int} (h : ALx b b' n) (m p : Int) (f : Nat → Int) : ∀ k : Nat, hpl b n m p f k = hpl b' n m p f k
  | 0 => rfl
  | k + 1 => by
    show up (hpl b n m p f k) (tkv b n m (hps b n m p k)).toNat (hpl b n m p f k (tkv b n m (hps b n m p k)).toNat + 1) = up (hpl b' n m p f k) (tkv b' n m (hps b' n m p k)).toNat (hpl b' n m p f k (tkv b' n m (hps b' n m p k)).toNat + 1)
    rw [hpl_cg h m p f k, hps_cg h m p k, (tkc_cg h m _).2.1]
theorem hhp_cg {b b' : Nat → Int} {n : Int} (h : ALx b b' n) (m p : Int) (f : Nat → Int) (t : Int) : ∀ k : Nat, hhp b n m p f t k = hhp b' n m p f t k
  | 0 => rfl
  | k + 1 => by
    show up (hhp b n m p f t k) (t + k).toNat (tkv b n m (hps b n m p k)) = up (hhp b' n m p f t k) (t + k).toNat (tkv b' n m (hps b' n m p k))
    rw [hhp_cg h m p f t k, hps_cg h m p k, (tkc_cg h m _).2.1]
theorem hgd_cg {b b' : Nat → Int} {n : Int} (h : ALx b b' n) (m p kn : Int) (f : Nat → Int) (k : Nat) : hgd b n m p kn f k = hgd b' n m p kn f k := by
  unfold hgd
  rw [hps_cg h m p k, hpl_cg h m p f k, (tkc_cg h m _).1, (tkc_cg h m _).2.1]
theorem hcn_cg {b b' : Nat → Int} {n : Int} (h : ALx b b' n) (m p kn : Int) (f : Nat → Int) : hcn b n m p kn f = hcn b' n m p kn f := by
  unfold hcn HGD
  congr 1
  funext k
  have e : ∀ i, hgd b n m p kn f i = hgd b' n m p kn f i := hgd_cg h m p kn f
  simp only [e]
theorem tln_cg {b b' : Nat → Int} {n : Int} (h : ALx b b' n) (m : Int) (s : TSx) : tln b n m s = tln b' n m s := by
  have ec : ∀ p, tkc b n m p = tkc b' n m p := fun p => (tkc_cg h m p).1
  have ev : ∀ p, tkv b n m p = tkv b' n m p := fun p => (tkc_cg h m p).2.1
  have ew : ∀ p, tkw b n m p = tkw b' n m p := fun p => (tkc_cg h m p).2.2.1
  have ea : ∀ p, tka b n m p = tka b' n m p := fun p => (tkc_cg h m p).2.2.2.1
  have ep : ∀ p, tkp b n m p = tkp b' n m p := fun p => (tkc_cg h m p).2.2.2.2
  unfold tln tlK tlP tlH tlE tlA tlR
  simp only [ec, ev, ew, ea, ep, hcn_cg h, hps_cg h, hpl_cg h, hhp_cg h]
theorem tst_cg {b b' : Nat → Int} {n : Int} (h : ALx b b' n) (m : Int) (s : TSx) : tst b n m s = tst b' n m s := by
  have ec : ∀ p, tkc b n m p = tkc b' n m p := fun p => (tkc_cg h m p).1
  have ea : ∀ p, tka b n m p = tka b' n m p := fun p => (tkc_cg h m p).2.2.2.1
  have ep : ∀ p, tkp b n m p = tkp b' n m p := fun p => (tkc_cg h m p).2.2.2.2
  unfold tst
  rw [tln_cg h]
  cases tln b' n m s with
  | inl x => rfl
  | inr t =>
    dsimp only
    rw [ec, ea, ep]
theorem TRN_cg {b b' : Nat → Int} {n : Int} (h : ALx b b' n) (m : Int) (s : TSx) : ∀ (i : Nat) (t : TSx), TRN b n m i s t → TRN b' n m i s t
  | 0, t, a => a
  | i + 1, t, ⟨u, a1, a2, a3⟩ => ⟨u, TRN_cg h m s i u a1, by rw [← (tkc_cg h m u.p).1]; exact a2, by rw [← tst_cg h]; exact a3⟩
theorem TEND_cg {b b' : Nat → Int} {n : Int} (h : ALx b b' n) {m : Int} {s : TSx} {x : Sum (Int × Int) (Nat × TSx)} (a : TEND b n m s x) : TEND b' n m s x := by
  obtain ⟨i, t, a1, a2⟩ := a
  refine ⟨i, t, TRN_cg h m s i t a1, ?_⟩
  rw [← (tkc_cg h m t.p).1, ← tst_cg h]
  exact a2
/-- both sides' answers -/
theorem TBA.eq {b b' : Nat → Int} {n r r' : Int} {s : TSx} (h : ALx b b' n) (a : TBA s b n r) (a' : TBA s b' n r') : r = r' := by
  obtain ⟨x, e, a⟩ := a
  obtain ⟨x', e', a'⟩ := a'
  have z := TEND.u (TEND_cg h e) e'
  subst z
  rcases a with ⟨y, rfl, a⟩ | ⟨i, t, rfl, a⟩
  · rcases a' with ⟨y', z, a'⟩ | ⟨i', t', z, a'⟩
    · rw [a, a', Sum.inl.inj z]
    · cases z
  · rcases a' with ⟨y', z, a'⟩ | ⟨i', t', z, a'⟩
    · cases z
    · have w := Sum.inr.inj z
      rw [a, a', (Prod.mk.inj w).1]
