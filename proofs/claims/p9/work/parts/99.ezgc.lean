/-! The reference's next: a run, byte by byte. -/
def BYx (b : Nat → Int) (n : Int) : Prop := ∀ i : Nat, (i : Int) < n → -128 ≤ b i ∧ b i ≤ 127
theorem x255s : ∀ k : Fin 256, (Int32.ofInt ((k.val : Int) - 128) &&& Int32.ofInt 255).toInt = if (k.val : Int) - 128 < 0 then (k.val : Int) - 128 + 256 else (k.val : Int) - 128 := by decide +kernel
theorem x255c {x : Int} (h1 : -128 ≤ x) (h2 : x ≤ 127) : (Int32.ofInt x &&& Int32.ofInt 255).toInt = if x < 0 then x + 256 else x := by
  have h := x255s ⟨(x + 128).toNat, by omega⟩
  have e : (((x + 128).toNat : Nat) : Int) - 128 = x := by omega
  simp only [e] at h
  exact h
theorem pkf_b {σ : xS} (h : BYx (σ 1) (σ 0 3)) (h0 : 0 ≤ σ 0 4) : (σ 0 3 ≤ σ 0 4 ∧ pkf σ = -1) ∨ (σ 0 4 < σ 0 3 ∧ ((0 ≤ σ 1 (σ 0 4).toNat ∧ pkf σ = σ 1 (σ 0 4).toNat ∧ pkf σ ≤ 127) ∨ (σ 1 (σ 0 4).toNat < 0 ∧ 128 ≤ pkf σ ∧ pkf σ ≤ 255))) := by
  unfold pkf
  by_cases hlt : σ 0 4 < σ 0 3
  · rw [if_pos hlt]
    have hb := h (σ 0 4).toNat (by omega)
    rw [x255c hb.1 hb.2]
    refine Or.inr ⟨hlt, ?_⟩
    generalize σ 1 (σ 0 4).toNat = x at hb ⊢
    split <;> omega
  · rw [if_neg hlt]
    exact Or.inl ⟨by omega, rfl⟩
/-- word << 8 | c -/
theorem xlor8 {w c z z2 : Int} (h0 : 0 ≤ w) (h1 : w < 281474976710656) (c0 : 0 ≤ c) (c1 : c < 256) (e1 : z = (Int64.ofInt w <<< ((Int32.ofInt 8).toInt64 &&& 63)).toInt) (e2 : z2 = (Int64.ofInt z ||| Int64.ofInt c).toInt) : z2 = w * 256 + c := by
  obtain ⟨a, rfl⟩ : ∃ a : Nat, w = (a : Int) := ⟨w.toNat, by omega⟩
  obtain ⟨d, rfl⟩ : ∃ d : Nat, c = (d : Int) := ⟨c.toNat, by omega⟩
  have hs : (Int32.ofInt 8).toInt64 &&& 63 = 8 := by decide +kernel
  have ez : z = ((a * 256 : Nat) : Int) := by
    rw [e1, hs]
    have : (Int64.ofInt (a : Int) <<< (8 : Int64)) = Int64.ofInt ((a * 256 : Nat) : Int) := by
      rw [show ((a * 256 : Nat) : Int) = (a : Int) * 256 by omega, Int64.ofInt_mul]
      have h9 : ∀ x : Int64, x <<< (8 : Int64) = x * Int64.ofInt 256 := by
        intro x
        apply Int64.toBitVec_inj.mp
        rw [Int64.toBitVec_shiftLeft, Int64.toBitVec_mul]
        show x.toBitVec <<< (8 : BitVec 64).toNat = x.toBitVec * (256#64)
        have : (256#64 : BitVec 64) = BitVec.twoPow 64 8 := by decide +kernel
        rw [this, BitVec.mul_twoPow_eq_shiftLeft]
        rfl
      exact h9 _
    rw [this]
    exact Int64.toInt_ofInt_of_le (by omega) (by omega)
  rw [e2, ez]
  have h8 : Int64.ofInt ((a * 256 : Nat) : Int) ||| Int64.ofInt (d : Int) = Int64.ofInt (((a * 256) ||| d : Nat) : Int) := by
    apply Int64.toBitVec_inj.mp
    rw [Int64.toBitVec_or]
    have f : ∀ n : Nat, (Int64.ofInt (n : Int)).toBitVec = BitVec.ofNat 64 n := fun n => by
      show BitVec.ofInt 64 (n : Int) = _
      exact BitVec.ofInt_natCast 64 n
    rw [f, f, f]
    apply BitVec.eq_of_toNat_eq
    rw [BitVec.toNat_or, BitVec.toNat_ofNat, BitVec.toNat_ofNat, BitVec.toNat_ofNat]
    rw [Nat.mod_eq_of_lt (show a * 256 < 2 ^ 64 by omega), Nat.mod_eq_of_lt (show d < 2 ^ 64 by omega)]
    rw [Nat.mod_eq_of_lt (Nat.or_lt_two_pow (show a * 256 < 2 ^ 64 by omega) (show d < 2 ^ 64 by omega))]
  rw [h8]
  have h7 : (a * 256) ||| d = a * 256 + d := by
    have := Nat.shiftLeft_add_eq_or_of_lt (i := 8) (b := d) (by omega : d < 2 ^ 8) a
    rw [Nat.shiftLeft_eq] at this
    rw [show (256 : Nat) = 2 ^ 8 from rfl]
    exact this.symm
  rw [h7]
  rw [Int64.toInt_ofInt_of_le (by omega) (by omega)]
  omega
def WY (sp w0 w1 c : Int) : Prop := sp < 7 → 0 ≤ w0 → w0 < 281474976710656 → w1 = w0 * 256 + c
def NY (sp n0 n1 c : Int) : Prop := sp < 3 → 0 ≤ n0 → n0 < 1000 → n1 = n0 * 10 + (c - 48)
/-- a run as the reference takes it -/
def RQ (b : Nat → Int) (q k : Nat) (all small w n : Int) : Prop := alS alC b q k ∧ (all = 1 → (small = 1 → alS smC b q k ∧ (k ≤ 7 → w = W8 b q k)) ∧ (small = 0 → alS dgC b q k ∧ (k ≤ 3 → n = D10 b q k))) ∧ (all = 0 → ¬ alS smC b q k ∧ ¬ alS dgC b q k)
def SM (b : Nat → Int) (q : Nat) (small : Int) : Prop := (small = 1 ∧ smC (b q)) ∨ (small = 0 ∧ dgC (b q))
theorem RQ.z {b : Nat → Int} {q : Nat} {small : Int} : RQ b q 0 1 small 0 0 := ⟨alS.z, fun _ => ⟨fun _ => ⟨alS.z, fun _ => rfl⟩, fun _ => ⟨alS.z, fun _ => rfl⟩⟩, fun h => absurd h (by decide)⟩
theorem RQ.step {b : Nat → Int} {q k : Nat} {all small w n all' w' n' c sp : Int} (h : RQ b q k all small w n) (hsm : SM b q small) (hc : c = b (q + k)) (hsp : sp = k) (hal : (all' = 1 ∧ all = 1 ∧ ((small = 1 ∧ smC c) ∨ (small = 0 ∧ dgC c))) ∨ (all' = 0 ∧ (all = 0 ∨ (small = 1 ∧ dgC c) ∨ (small = 0 ∧ smC c)))) (hca : alC c) (hw : WY sp w w' c) (hn : NY sp n n' c) : RQ b q (k + 1) all' small w' n' := by
  obtain ⟨g1, g2, g3⟩ := h
  subst hc; subst hsp
  refine ⟨g1.s hca, fun ha => ?_, fun ha => ?_⟩
  · rcases hal with ⟨a1, a2, a3⟩ | ⟨a1, -⟩
    · refine ⟨fun hs => ?_, fun hs => ?_⟩
      · obtain ⟨h1, h2⟩ := (g2 a2).1 hs
        rcases a3 with ⟨a4, a5⟩ | ⟨a4, a5⟩
        · refine ⟨h1.s a5, fun hk => ?_⟩
          have h9 := W8lt (k := k) (by omega) h1
          have h8 : W8 b q k < 281474976710656 := by
            have h7 := (W8b k h1).2
            have : (256 : Int) ^ k ≤ 281474976710656 := by
              have : k = 0 ∨ k = 1 ∨ k = 2 ∨ k = 3 ∨ k = 4 ∨ k = 5 ∨ k = 6 := by omega
              rcases this with rfl | rfl | rfl | rfl | rfl | rfl | rfl <;> decide
            omega
          have e := h2 (by omega)
          rw [hw (by omega) (by omega) (by omega), e]; rfl
        · omega
      · obtain ⟨h1, h2⟩ := (g2 a2).2 hs
        rcases a3 with ⟨a4, a5⟩ | ⟨a4, a5⟩
        · omega
        · refine ⟨h1.s a5, fun hk => ?_⟩
          have h9 := D10lt (k := k) (by omega) h1
          have e := h2 (by omega)
          rw [hn (by omega) (by omega) (by omega), e]; rfl
    · omega
  · rcases hal with ⟨a1, -⟩ | ⟨-, a2⟩
    · omega
    · have hx : ∀ c : Int, smC c → dgC c → False := fun c h1 h2 => by unfold smC at h1; unfold dgC at h2; omega
      rcases a2 with a2 | ⟨a2, a3⟩ | ⟨a2, a3⟩
      · exact ⟨fun h => (g3 a2).1 h.p, fun h => (g3 a2).2 h.p⟩
      · refine ⟨fun h => hx _ (h k (by omega)) a3, fun h => ?_⟩
        rcases hsm with ⟨s1, s2⟩ | ⟨s1, s2⟩
        · exact hx _ s2 (h 0 (by omega))
        · omega
      · refine ⟨fun h => ?_, fun h => hx _ a3 (h k (by omega))⟩
        rcases hsm with ⟨s1, s2⟩ | ⟨s1, s2⟩
        · omega
        · exact hx _ (h 0 (by omega)) s2
theorem NXr.of {b : Nat → Int} {q k : Nat} {all small w n tok : Int} (h : RQ b q k all small w n) (hsm : SM b q small) (hk : 0 < k) (ht : (all = 0 ∧ tok = 4) ∨ (all = 1 ∧ small = 1 ∧ k ≤ 7 ∧ tok = 1) ∨ (all = 1 ∧ small = 0 ∧ k ≤ 3 ∧ tok = 2) ∨ (all = 1 ∧ ((small = 1 ∧ 7 < k) ∨ (small = 0 ∧ 3 < k)) ∧ tok = 4)) : NXr b q k tok n w := by
  obtain ⟨g1, g2, g3⟩ := h
  have hx : ∀ c : Int, smC c → dgC c → False := fun c h1 h2 => by unfold smC at h1; unfold dgC at h2; omega
  rcases ht with ⟨a1, a2⟩ | ⟨a1, a2, a3, a4⟩ | ⟨a1, a2, a3, a4⟩ | ⟨a1, a2, a3⟩
  · exact Or.inr (Or.inr ⟨fun h => (g3 a1).1 h.1, fun h => (g3 a1).2 h.1, a2⟩)
  · obtain ⟨h1, h2⟩ := (g2 a1).1 a2
    exact Or.inl ⟨h1, a3, a4, h2 a3⟩
  · obtain ⟨h1, h2⟩ := (g2 a1).2 a2
    exact Or.inr (Or.inl ⟨h1, a3, a4, h2 a3⟩)
  · refine Or.inr (Or.inr ⟨fun h => ?_, fun h => ?_, a3⟩)
    · rcases a2 with ⟨b1, b2⟩ | ⟨b1, b2⟩
      · have := h.2; omega
      · exact hx _ (h.1 0 hk) (((g2 a1).2 b1).1 0 hk)
    · rcases a2 with ⟨b1, b2⟩ | ⟨b1, b2⟩
      · exact hx _ (((g2 a1).1 b1).1 0 hk) (h.1 0 hk)
      · have := h.2; omega
theorem NXT.far {b : Nat → Int} {n m p at' tok val wd pl p' : Int} (hs : Sk b n p at'.toNat) (h0 : 0 ≤ at') (h1 : m < n) (h2 : m ≤ at') (hp : pl = m) (ht : tok = 4) (hp' : p' = at') : NXT b n m p tok val wd pl p' := ⟨at'.toNat, hs, Or.inl ⟨⟨h1, by omega⟩, ht, hp, by omega⟩⟩
theorem NXT.stop {b : Nat → Int} {n m p at' tok val wd pl p' : Int} (hs : Sk b n p at'.toNat) (h0 : 0 ≤ at') (h1 : ¬ (m < n ∧ m ≤ at')) (h2 : n ≤ at') (hp : pl = at') (ht : tok = 0) (hp' : p' = at') : NXT b n m p tok val wd pl p' := ⟨at'.toNat, hs, Or.inr ⟨by omega, by omega, Or.inl ⟨by omega, ht, by omega⟩⟩⟩
theorem NXT.one {b : Nat → Int} {n m p at' tok val wd pl p' c : Int} (hs : Sk b n p at'.toNat) (h0 : 0 ≤ at') (h1 : ¬ (m < n ∧ m ≤ at')) (h2 : at' < n) (hp : pl = at') (hc : c = b at'.toNat) (ha : ¬ alC c) (ht : (sgC c ∧ tok = 3 ∧ val = c) ∨ (¬ sgC c ∧ tok = 4)) (hp' : p' = at' + 1) : NXT b n m p tok val wd pl p' := by
  subst hc
  exact ⟨at'.toNat, hs, Or.inr ⟨by omega, by omega, Or.inr (Or.inl ⟨by omega, ha, by omega, ht⟩)⟩⟩
theorem NXT.run {b : Nat → Int} {n m p at' tok val wd pl p' : Int} {k : Nat} (hs : Sk b n p at'.toNat) (h0 : 0 ≤ at') (h1 : ¬ (m < n ∧ m ≤ at')) (h2 : at' < n) (hp : pl = at') (hk : 0 < k) (hR : Rn b n at'.toNat k) (hx : NXr b at'.toNat k tok val wd) (hp' : p' = at' + k) : NXT b n m p tok val wd pl p' := ⟨at'.toNat, hs, Or.inr ⟨by omega, by omega, Or.inr (Or.inr ⟨by omega, k, hk, by omega, hR, hx⟩)⟩⟩
theorem pk_n (s : xS) : 0 ≤ pkf s → s 0 4 < s 0 3 := fun h => by have z := pkf_r s; omega
theorem pk_w {σ s : xS} (h : BYx (σ 1) (σ 0 3)) (e1 : s 1 = σ 1) (e3 : s 0 3 = σ 0 3) (h0 : 0 ≤ s 0 4) (h1 : s 0 4 < σ 0 3) : (0 ≤ pkf s ∧ pkf s = σ 1 (s 0 4).toNat) ∨ (σ 1 (s 0 4).toNat < 0 ∧ 128 ≤ pkf s ∧ pkf s ≤ 255) := by
  have z := pkf_b (σ := s) (by rw [e1, e3]; exact h) h0
  rw [e1, e3] at z
  omega
theorem pk_v {σ s : xS} (h : BYx (σ 1) (σ 0 3)) (e1 : s 1 = σ 1) (e3 : s 0 3 = σ 0 3) (h0 : 0 ≤ s 0 4) (h1 : 0 ≤ pkf s) (h2 : pkf s ≤ 127) : s 0 4 < σ 0 3 ∧ pkf s = σ 1 (s 0 4).toNat := by
  have hl := pk_n s h1
  rw [e3] at hl
  have z := pk_w h e1 e3 h0 hl
  omega

