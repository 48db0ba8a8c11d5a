/-! Bytes that feed puts: four of a number, the highest first. -/
def xb (v k : Int) : Int := xbyte ((Int32.ofInt v >>> (Int32.ofInt k &&& 31)).toInt)
theorem xbyte_r (z : Int) : -128 ≤ xbyte z ∧ xbyte z ≤ 127 := by
  have h1 := Int8.le_toInt (Int32.ofInt z).toInt8
  have h2 := Int8.toInt_lt (Int32.ofInt z).toInt8
  unfold xbyte
  rw [Int8.toInt_toInt32]
  constructor
  · exact h1
  · omega
theorem xbu_bv (w : BitVec 32) (k : Nat) (hk : k ≤ 24) : (w >>> k).signExtend 8 = (w.sshiftRight k).signExtend 8 := by
  apply BitVec.eq_of_getLsbD_eq
  intro i hi
  rw [BitVec.getLsbD_signExtend, BitVec.getLsbD_signExtend]
  have h1 : i < 32 := by omega
  have h2 : k + i < 32 := by omega
  rw [if_pos h1, if_pos h1, BitVec.getLsbD_ushiftRight, BitVec.getLsbD_sshiftRight, if_pos h2]
  first
    | rfl
    | (rw [show decide (32 ≤ i) = false from decide_eq_false (by omega)]; rfl)
    | (have h3 : ¬ 32 ≤ i := by omega
       simp [h3])
theorem xbu_24 (x : Int32) : ((x.toUInt32 >>> ((Int32.ofInt 24).toUInt32 &&& Int32.toUInt32 31)).toInt32).toInt8 = (x >>> (Int32.ofInt 24 &&& 31)).toInt8 := Int8.toBitVec_inj.mp (show (x.toBitVec >>> 24).signExtend 8 = (x.toBitVec.sshiftRight 24).signExtend 8 from xbu_bv _ 24 (by decide))
theorem xbu_16 (x : Int32) : ((x.toUInt32 >>> ((Int32.ofInt 16).toUInt32 &&& Int32.toUInt32 31)).toInt32).toInt8 = (x >>> (Int32.ofInt 16 &&& 31)).toInt8 := Int8.toBitVec_inj.mp (show (x.toBitVec >>> 16).signExtend 8 = (x.toBitVec.sshiftRight 16).signExtend 8 from xbu_bv _ 16 (by decide))
theorem xbu_8 (x : Int32) : ((x.toUInt32 >>> ((Int32.ofInt 8).toUInt32 &&& Int32.toUInt32 31)).toInt32).toInt8 = (x >>> (Int32.ofInt 8 &&& 31)).toInt8 := Int8.toBitVec_inj.mp (show (x.toBitVec >>> 8).signExtend 8 = (x.toBitVec.sshiftRight 8).signExtend 8 from xbu_bv _ 8 (by decide))
theorem xbu_0 (x : Int32) : ((x.toUInt32 >>> ((Int32.ofInt 0).toUInt32 &&& Int32.toUInt32 31)).toInt32).toInt8 = (x >>> (Int32.ofInt 0 &&& 31)).toInt8 := Int8.toBitVec_inj.mp (show (x.toBitVec >>> 0).signExtend 8 = (x.toBitVec.sshiftRight 0).signExtend 8 from xbu_bv _ 0 (by decide))
theorem xbu {v k z : Int} (hk : k = 24 ∨ k = 16 ∨ k = 8 ∨ k = 0) (hz : z = ((Int32.ofInt v).toUInt32 >>> ((Int32.ofInt k).toUInt32 &&& Int32.toUInt32 31)).toInt32.toInt) : xbyte z = xb v k := by
  unfold xb xbyte
  rw [hz, Int32.ofInt_toInt, Int32.ofInt_toInt]
  rcases hk with rfl | rfl | rfl | rfl
  · rw [xbu_24]
  · rw [xbu_16]
  · rw [xbu_8]
  · rw [xbu_0]
theorem xbb (z : Int) : xbyte (xbyte z) = xbyte z := by
  unfold xbyte
  rw [Int32.ofInt_toInt, Int8.toInt8_toInt32]
def pf (f : Nat → Int) (n v : Int) : Nat → Nat → Int
  | 0 => f
  | j + 1 => up (pf f n v j) (n + j).toNat (xb v (24 - 8 * (j : Int)))
def fd (f : Nat → Int) (n a b c d e : Int) : Nat → Int := pf (pf (pf (pf (pf f n a 4) (n + 4) b 4) (n + 8) c 4) (n + 12) d 4) (n + 16) e 4
/-- two tapes alike for n bytes, and these are bytes -/
def TPx (f g : Nat → Int) (n : Int) : Prop := ∀ i : Nat, (i : Int) < n → f i = g i ∧ -128 ≤ g i ∧ g i ≤ 127
theorem TPx_pf {f g : Nat → Int} {n v : Int} (h : TPx f g n) (h0 : 0 ≤ n) : ∀ j : Nat, TPx (pf f n v j) (pf g n v j) (n + j)
  | 0 => fun i hi => h i (by omega)
  | j + 1 => fun i hi => by
    have ih := TPx_pf h h0 (v := v) j
    show up (pf f n v j) (n + (j : Int)).toNat (xb v (24 - 8 * (j : Int))) i = up (pf g n v j) (n + (j : Int)).toNat (xb v (24 - 8 * (j : Int))) i ∧ _
    by_cases c : i = (n + (j : Int)).toNat
    · subst c
      refine ⟨by rw [up_s, up_s], ?_⟩
      show -128 ≤ up (pf g n v j) (n + (j : Int)).toNat (xb v (24 - 8 * (j : Int))) (n + (j : Int)).toNat ∧ up (pf g n v j) (n + (j : Int)).toNat (xb v (24 - 8 * (j : Int))) (n + (j : Int)).toNat ≤ 127
      rw [up_s]; exact xbyte_r _
    · have h9 := ih i (by omega)
      refine ⟨by rw [up_n c, up_n c]; exact h9.1, ?_⟩
      show -128 ≤ up (pf g n v j) (n + (j : Int)).toNat (xb v (24 - 8 * (j : Int))) i ∧ up (pf g n v j) (n + (j : Int)).toNat (xb v (24 - 8 * (j : Int))) i ≤ 127
      rw [up_n c]; exact h9.2
theorem TPx.fd {f g : Nat → Int} {n a b c d e : Int} (h : TPx f g n) (h0 : 0 ≤ n) : TPx (fd f n a b c d e) (fd g n a b c d e) (n + 20) := by
  have h1 := TPx_pf h h0 (v := a) 4
  have h2 := TPx_pf (n := n + 4) h1 (by omega) (v := b) 4
  have h3 := TPx_pf (n := n + 8) (fun i hi => h2 i (by omega)) (by omega) (v := c) 4
  have h4 := TPx_pf (n := n + 12) (fun i hi => h3 i (by omega)) (by omega) (v := d) 4
  have h5 := TPx_pf (n := n + 16) (fun i hi => h4 i (by omega)) (by omega) (v := e) 4
  exact fun i hi => h5 i (by omega)
theorem TPx.le {f g : Nat → Int} {n m : Int} (h : TPx f g n) (hm : m ≤ n) : TPx f g m := fun i hi => h i (by omega)
set_option maxHeartbeats 4000000 in
set_option maxRecDepth 100000 in
theorem sX10_putFourF {σ : xS} {number : Int} {Q : Option xV → xS → Prop} (hp0 : 0 ≤ σ 0 1 ∧ σ 0 1 ≤ 936) (hQ : ∀ σ' : xS, Fr [1] [1] σ σ' → (σ' 0 1 = σ 0 1 + 4 ∧ σ' 1 = pf (σ 1) (σ 0 1) number 4) → Q none σ') : xT kX10_putFour [xvr 0, xvi number] σ Q := by
  refine ⟨Nat.le_of_ble_eq_true rfl, fun X hX => ?_⟩
  show X 0 [xvr 0, xvi number, xvu] σ
  have hF : Fr [1] [1] σ σ := Fr.rf
  refine hX 400 0 _ _ ?_
  refine And.intro (Nat.le_of_ble_eq_true rfl) ?_
  show xw _ _ _ _ _ _ _ _ _ _ [xvr 0, xvi number, xvi 24] _ _
  have lp_3 : ∀ (m3 : Nat) (sh : Int) (s1 : xS), ((sh + 8).toNat) = m3 → (Fr [1] [1] σ s1 ∧ ∃ j : Nat, j ≤ 4 ∧ sh = 24 - 8 * (j : Int) ∧ s1 0 1 = σ 0 1 + (j : Int) ∧ s1 1 = pf (σ 1) (σ 0 1) number j) → X 3 [xvr 0, xvi number, xvi sh] s1 := by
    intro m3
    induction m3 using Nat.strongRecOn with
    | _ m3 ih_3 =>
    intro sh s1 hm_3 hv_3
    obtain ⟨hF, j, hj, hs, hl, hp⟩ := hv_3
    refine hX 400 3 _ _ ?_
    have lp_46 : ∀ (_ : Unit), (j = 4) → X 46 [xvr 0, xvi number, xvi sh] s1 := by
      intro _ hv_46
      subst hv_46
      refine hX 400 46 _ _ ?_
      refine And.intro rfl (And.intro rfl ?_)
      exact hQ _ hF ⟨by omega, hp⟩
    refine And.intro (fun c3 => ?_) (fun c3 => ?_)
    · exact lp_46 () (show j = 4 from by first | trivial | omega | (refine ⟨by assumption, ?_⟩; omega) | (refine ⟨?_, ?_⟩ <;> omega))
    · intro v4 e4 l4 h4
      have e4 : v4 = s1 0 1 := e4
      refine And.intro (fun c5 => ?_) (fun c5 => ?_)
      · exact lp_46 () (show j = 4 from by first | trivial | omega | (refine ⟨by assumption, ?_⟩; omega) | (refine ⟨?_, ?_⟩ <;> omega))
      · intro v6 e6 l6 h6
        have e6 : v6 = s1 0 1 := e6
        intro z7 e7 l7 h7
        intro z8 e8 l8 h8
        refine And.intro (Or.inl rfl) (And.intro (⟨by omega, by omega⟩) ?_)
        have hF := hF.pt (t := 1) (j := v6.toNat) (v := xbyte z8) (by decide) (by decide)
        intro v10 e10 l10 h10
        have e10 : v10 = s1 0 1 := e10
        intro z11 t11 e11 l11 h11
        try have w11 : t11 = 0 := by omega
        have hF := hF.p (j := 1) (v := z11) (by decide)
        intro z13 t13 e13 l13 h13
        try have w13 : t13 = 0 := by omega
        show xw _ _ _ _ _ _ _ _ _ _ [xvr 0, xvi number, xvi z13] _ _
        exact ih_3 _ (show (z13 + 8).toNat < m3 from by omega) z13 (xput (xput s1 1 v6.toNat (xbyte z8)) 0 1 z11) rfl ⟨hF, j + 1, by omega, by omega, (show z11 = σ 0 1 + ((j + 1 : Nat) : Int) from by omega), (by
                  show xput s1 1 v6.toNat (xbyte z8) 1 = up (pf (σ 1) (σ 0 1) number j) (σ 0 1 + (j : Int)).toNat (xb number (24 - 8 * (j : Int)))
                  rw [xput_up, hp, show v6.toNat = (σ 0 1 + (j : Int)).toNat from by omega, show 24 - 8 * (j : Int) = sh from by omega]
                  rw [show xbyte z8 = xb number sh from by rw [e8, xbb]; exact xbu (by omega) e7])⟩
  exact lp_3 _ 24 σ rfl ⟨hF, 0, by decide, by omega, by omega, rfl⟩
set_option maxHeartbeats 4000000 in
set_option maxRecDepth 100000 in
theorem sX10_feedF {σ : xS} {a b c d e : Int} {Q : Option xV → xS → Prop} (hp0 : 0 ≤ σ 0 1 ∧ σ 0 1 ≤ 940) (hQ : ∀ r : Int, ∀ σ' : xS, Fr [1] [1] σ σ' → ((940 < σ 0 1 + 20 ∧ r = -1 ∧ σ' 0 1 = σ 0 1 ∧ σ' 1 = σ 1) ∨ (σ 0 1 + 20 ≤ 940 ∧ r = σ 0 1 + 20 ∧ σ' 0 1 = σ 0 1 + 20 ∧ σ' 1 = fd (σ 1) (σ 0 1) a b c d e)) → Q (some (xvi r)) σ') : xT kX10_feed [xvr 0, xvi a, xvi b, xvi c, xvi d, xvi e] σ Q := by
  refine ⟨Nat.le_of_ble_eq_true rfl, fun X hX => ?_⟩
  show X 0 [xvr 0, xvi a, xvi b, xvi c, xvi d, xvi e] σ
  have hF : Fr [1] [1] σ σ := Fr.rf
  refine hX 400 0 _ _ ?_
  intro v1 e1 l1 h1
  have e1 : v1 = σ 0 1 := e1
  intro z2 t2 e2 l2 h2
  try have w2 : t2 = 0 := by omega
  refine And.intro (fun c3 => ?_) (fun c3 => ?_)
  · refine sX10_putFourF (σ := σ) (number := a) (show 0 ≤ (σ 0 1) ∧ (σ 0 1) ≤ 936 from by omega) (fun σ4 f4 p4 => ?_)
    have hF := hF.tr f4 (by decide) (by decide)
    have p4 : σ4 0 1 = (σ 0 1) + 4 ∧ σ4 1 = pf (σ 1) ((σ 0 1)) a 4 := p4
    refine sX10_putFourF (σ := σ4) (number := b) (show 0 ≤ (σ4 0 1) ∧ (σ4 0 1) ≤ 936 from by omega) (fun σ5 f5 p5 => ?_)
    have hF := hF.tr f5 (by decide) (by decide)
    have p5 : σ5 0 1 = (σ4 0 1) + 4 ∧ σ5 1 = pf (σ4 1) ((σ4 0 1)) b 4 := p5
    refine sX10_putFourF (σ := σ5) (number := c) (show 0 ≤ (σ5 0 1) ∧ (σ5 0 1) ≤ 936 from by omega) (fun σ6 f6 p6 => ?_)
    have hF := hF.tr f6 (by decide) (by decide)
    have p6 : σ6 0 1 = (σ5 0 1) + 4 ∧ σ6 1 = pf (σ5 1) ((σ5 0 1)) c 4 := p6
    refine sX10_putFourF (σ := σ6) (number := d) (show 0 ≤ (σ6 0 1) ∧ (σ6 0 1) ≤ 936 from by omega) (fun σ7 f7 p7 => ?_)
    have hF := hF.tr f7 (by decide) (by decide)
    have p7 : σ7 0 1 = (σ6 0 1) + 4 ∧ σ7 1 = pf (σ6 1) ((σ6 0 1)) d 4 := p7
    refine sX10_putFourF (σ := σ7) (number := e) (show 0 ≤ (σ7 0 1) ∧ (σ7 0 1) ≤ 936 from by omega) (fun σ8 f8 p8 => ?_)
    have hF := hF.tr f8 (by decide) (by decide)
    have p8 : σ8 0 1 = (σ7 0 1) + 4 ∧ σ8 1 = pf (σ7 1) ((σ7 0 1)) e 4 := p8
    intro v9 e9 l9 h9
    have e9 : v9 = σ8 0 1 := e9
    refine And.intro rfl ?_
    exact hQ _ _ hF (Or.inr ⟨by omega, by omega, by omega, by
          rw [p8.2, p7.2, p6.2, p5.2, p4.2, show σ4 0 1 = σ 0 1 + 4 from by omega, show σ5 0 1 = σ 0 1 + 8 from by omega, show σ6 0 1 = σ 0 1 + 12 from by omega, show σ7 0 1 = σ 0 1 + 16 from by omega]; rfl⟩)
  · refine And.intro rfl ?_
    exact hQ _ _ hF (Or.inl ⟨by omega, rfl, rfl, rfl⟩)
set_option maxHeartbeats 4000000 in
set_option maxRecDepth 100000 in
theorem s_fourF {σ : xS} {v : Int} {Q : Option xV → xS → Prop} (hp0 : 0 ≤ σ 0 2 ∧ σ 0 2 ≤ 936) (hQ : ∀ σ' : xS, Fr [1] [2] σ σ' → (σ' 0 2 = σ 0 2 + 4 ∧ σ' 1 = pf (σ 1) (σ 0 2) v 4) → Q none σ') : xT kX11_four [xvr 0, xvi v] σ Q := by
  refine ⟨Nat.le_of_ble_eq_true rfl, fun X hX => ?_⟩
  show X 0 [xvr 0, xvi v, xvu] σ
  have hF : Fr [1] [2] σ σ := Fr.rf
  refine hX 400 0 _ _ ?_
  refine And.intro (Nat.le_of_ble_eq_true rfl) ?_
  show xw _ _ _ _ _ _ _ _ _ _ [xvr 0, xvi v, xvi 24] _ _
  have lp_3 : ∀ (m3 : Nat) (k : Int) (s1 : xS), ((k + 8).toNat) = m3 → (Fr [1] [2] σ s1 ∧ ∃ j : Nat, j ≤ 4 ∧ k = 24 - 8 * (j : Int) ∧ s1 0 2 = σ 0 2 + (j : Int) ∧ s1 1 = pf (σ 1) (σ 0 2) v j) → X 3 [xvr 0, xvi v, xvi k] s1 := by
    intro m3
    induction m3 using Nat.strongRecOn with
    | _ m3 ih_3 =>
    intro k s1 hm_3 hv_3
    obtain ⟨hF, j, hj, hs, hl, hp⟩ := hv_3
    refine hX 400 3 _ _ ?_
    refine And.intro (fun c2 => ?_) (fun c2 => ?_)
    · refine And.intro rfl (And.intro rfl ?_)
      obtain rfl : j = 4 := by omega
      exact hQ _ hF ⟨by omega, hp⟩
    · intro v3 e3 l3 h3
      have e3 : v3 = s1 0 2 := e3
      intro z4 e4 l4 h4
      intro z5 e5 l5 h5
      refine And.intro (Or.inl rfl) (And.intro (⟨by omega, by omega⟩) ?_)
      have hF := hF.pt (t := 1) (j := v3.toNat) (v := xbyte z5) (by decide) (by decide)
      intro v7 e7 l7 h7
      have e7 : v7 = s1 0 2 := e7
      intro z8 t8 e8 l8 h8
      try have w8 : t8 = 0 := by omega
      have hF := hF.p (j := 2) (v := z8) (by decide)
      intro z10 t10 e10 l10 h10
      try have w10 : t10 = 0 := by omega
      show xw _ _ _ _ _ _ _ _ _ _ [xvr 0, xvi v, xvi z10] _ _
      exact ih_3 _ (show (z10 + 8).toNat < m3 from by omega) z10 (xput (xput s1 1 v3.toNat (xbyte z5)) 0 2 z8) rfl ⟨hF, j + 1, by omega, by omega, (show z8 = σ 0 2 + ((j + 1 : Nat) : Int) from by omega), (by
                show xput s1 1 v3.toNat (xbyte z5) 1 = up (pf (σ 1) (σ 0 2) v j) (σ 0 2 + (j : Int)).toNat (xb v (24 - 8 * (j : Int)))
                rw [xput_up, hp, show v3.toNat = (σ 0 2 + (j : Int)).toNat from by omega, show 24 - 8 * (j : Int) = k from by omega]
                rw [show xbyte z5 = xb v k from by rw [e5, xbb, e4]; rfl])⟩
  exact lp_3 _ 24 σ rfl ⟨hF, 0, by decide, by omega, by omega, rfl⟩
