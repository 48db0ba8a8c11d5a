theorem xush8 (x : Int) : 0 ≤ ((Int32.ofInt x).toUInt32 >>> ((Int32.ofInt 8).toUInt32 &&& Int32.toUInt32 31)).toInt32.toInt := by
  have h := pk_ushr (Int32.ofInt x) (Int32.ofInt 8) 8 (by decide)
  have h2 : (Int32.ofInt x).toBitVec.toNat < 2 ^ 32 := BitVec.isLt _
  generalize ((Int32.ofInt x).toUInt32 >>> ((Int32.ofInt 8).toUInt32 &&& Int32.toUInt32 31)).toInt32 = w at h ⊢
  show 0 ≤ w.toBitVec.toInt
  rw [BitVec.toInt_eq_toNat_cond]
  split <;> omega
set_option maxHeartbeats 4000000 in
set_option maxRecDepth 100000 in
theorem s_draw {σ : xS} {n : Int} {Q : Option xV → xS → Prop} (hp0 : 1 ≤ n ∧ n ≤ 52) (hQ : ∀ r : Int, ∀ σ' : xS, Fr [] [49] σ σ' → (0 ≤ r ∧ r < n) → Q (some (xvi r)) σ') : xT kX11_draw [xvr 0, xvi n] σ Q := by
  refine ⟨Nat.le_of_ble_eq_true rfl, fun X hX => ?_⟩
  show X 0 [xvr 0, xvi n] σ
  have hF : Fr [] [49] σ σ := Fr.rf
  refine hX 400 0 _ _ ?_
  intro v1 e1 l1 h1
  have e1 : v1 = σ 0 49 := e1
  intro z2 t2 e2 l2 h2
  try have w2 : t2 = 0 := by omega
  intro z3 t3 e3 l3 h3
  try have w3 : t3 = 0 := by omega
  have hF := hF.p (j := 49) (v := z3) (by decide)
  intro v5 e5 l5 h5
  have e5 : v5 = z3 := e5
  intro z6 e6 l6 h6
  have q6 : 0 ≤ z6 := by rw [e6]; exact xush8 _
  refine And.intro (by omega) ?_
  intro z7 e7 f7 l7 h7
  replace f7 := f7 (by omega) (by omega)
  have g7 := Int.emod_nonneg z6 (b := n) (by omega); have k7 := Int.emod_lt_of_pos z6 (b := n) (by omega); rw [← f7] at g7 k7
  refine And.intro rfl ?_
  exact hQ _ _ hF (by omega)
