/-! Bits of the others' masks. -/
theorem xnI (n : Nat) : Int32.ofInt (n : Int) = nI n := Int32.ofInt_eq_ofNat
theorem xsk {k : Int} (hk : 0 ≤ k ∧ k ≤ 13) : ((Int32.ofInt k &&& 31).toBitVec.smod 32).toNat = k.toNat := by
  have h : k = 0 ∨ k = 1 ∨ k = 2 ∨ k = 3 ∨ k = 4 ∨ k = 5 ∨ k = 6 ∨ k = 7 ∨ k = 8 ∨ k = 9 ∨ k = 10 ∨ k = 11 ∨ k = 12 ∨ k = 13 := by omega
  rcases h with rfl | rfl | rfl | rfl | rfl | rfl | rfl | rfl | rfl | rfl | rfl | rfl | rfl | rfl <;> decide +kernel
theorem xshr {x k : Int} (hx : 0 ≤ x ∧ x < 65536) (hk : 0 ≤ k ∧ k ≤ 13) : (Int32.ofInt x >>> (Int32.ofInt k &&& 31)).toInt = x / ((2 ^ k.toNat : Nat) : Int) := by
  rw [pk_shr _ _ _ (xsk hk), Int32.toInt_ofInt_of_le (by omega) (by omega), Int.shiftRight_eq_div_pow]
theorem xand1 {z : Int} (hz : 0 ≤ z ∧ z < 65536) : (Int32.ofInt z &&& Int32.ofInt 1).toInt = z % 2 := by
  obtain ⟨a, rfl⟩ : ∃ a : Nat, z = a := ⟨z.toNat, by omega⟩
  rw [xnI, pk_andN (by omega) (m := Int32.ofInt 1) 1 (by decide +kernel), nI_toInt (by omega)]
  omega
/-- bit k of m -/
def bF (m k : Int) : Int := m / ((2 ^ k.toNat : Nat) : Int) % 2
theorem bF_r (m k : Int) : bF m k = 0 ∨ bF m k = 1 := by
  unfold bF
  generalize m / ((2 ^ k.toNat : Nat) : Int) = z
  omega
theorem xbit {x k z1 z2 : Int} (hx : 0 ≤ x ∧ x < 65536) (hk : 0 ≤ k ∧ k ≤ 12) (e1 : z1 = (Int32.ofInt x >>> (Int32.ofInt k &&& 31)).toInt) (e2 : z2 = (Int32.ofInt z1 &&& Int32.ofInt 1).toInt) : z2 = bF x k := by
  rw [xshr hx ⟨hk.1, by omega⟩] at e1
  have h1 : 0 ≤ z1 ∧ z1 < 65536 := by
    rw [e1]
    exact ⟨Int.ediv_nonneg hx.1 (by exact_mod_cast Nat.zero_le _), Int.lt_of_le_of_lt (Int.ediv_le_self _ hx.1) hx.2⟩
  rw [e2, xand1 h1, e1]
  rfl
/-- bit k is set -/
def orF (m k : Int) : Int := ((m.toNat ||| 2 ^ k.toNat : Nat) : Int)
theorem p2_le {k : Int} (hk : 0 ≤ k ∧ k ≤ 12) : 2 ^ k.toNat ≤ 4096 := Nat.le_trans (Nat.pow_le_pow_right (n := 2) (i := k.toNat) (j := 12) (by decide) (by omega)) (by decide)
theorem xnor {a b : Nat} (ha : a < 65536) (hb : b < 65536) : nI a ||| nI b = nI (a ||| b) := by
  apply Int32.toBitVec_inj.mp
  rw [Int32.toBitVec_or]
  show BitVec.ofNat 32 a ||| BitVec.ofNat 32 b = BitVec.ofNat 32 (a ||| b)
  apply BitVec.eq_of_toNat_eq
  rw [BitVec.toNat_or, BitVec.toNat_ofNat, BitVec.toNat_ofNat, BitVec.toNat_ofNat]
  rw [Nat.mod_eq_of_lt (show a < 2 ^ 32 by omega), Nat.mod_eq_of_lt (show b < 2 ^ 32 by omega), Nat.mod_eq_of_lt (Nat.or_lt_two_pow (show a < 2 ^ 32 by omega) (show b < 2 ^ 32 by omega))]
theorem xorb {x k z1 z2 : Int} (hx : 0 ≤ x ∧ x < 65536) (hk : 0 ≤ k ∧ k ≤ 12) (e1 : z1 = (Int32.ofInt 1 <<< (Int32.ofInt k &&& 31)).toInt) (e2 : z2 = (Int32.ofInt x ||| Int32.ofInt z1).toInt) : z2 = orF x k := by
  have hp := p2_le hk
  have e3 : Int32.ofInt 1 <<< (Int32.ofInt k &&& 31) = nI (1 * 2 ^ k.toNat) := pk_shlN (n := 1) _ _ (xsk ⟨hk.1, by omega⟩) (by omega)
  rw [e3] at e1
  rw [e1, Int32.ofInt_toInt] at e2
  obtain ⟨a, rfl⟩ : ∃ a : Nat, x = a := ⟨x.toNat, by omega⟩
  rw [xnI, Nat.one_mul, xnor (by omega) (by omega), nI_toInt (Nat.or_lt_two_pow (n := 31) (by omega) (by omega))] at e2
  exact e2
theorem orF_o {x k : Int} (hx : 0 ≤ x) (hk : 0 ≤ k ∧ k ≤ 12) : ow (orF x k) = ow x ∧ om (orF x k) = orF (om x) k := by
  have hp := p2_le hk
  obtain ⟨c, rfl⟩ : ∃ c : Nat, x = c := ⟨x.toNat, by omega⟩
  have hl : c % 8192 ||| 2 ^ k.toNat < 2 ^ 13 := Nat.or_lt_two_pow (by omega) (by omega)
  have h1 : (c / 8192) <<< 13 + c % 8192 = (c / 8192) <<< 13 ||| (c % 8192) := Nat.shiftLeft_add_eq_or_of_lt (by omega) _
  have h2 : (c / 8192) <<< 13 + (c % 8192 ||| 2 ^ k.toNat) = (c / 8192) <<< 13 ||| (c % 8192 ||| 2 ^ k.toNat) := Nat.shiftLeft_add_eq_or_of_lt hl _
  have h3 : c ||| 2 ^ k.toNat = (c / 8192) <<< 13 + (c % 8192 ||| 2 ^ k.toNat) := by
    rw [h2, ← Nat.or_assoc, ← h1, Nat.shiftLeft_eq]
    congr 1
    omega
  rw [Nat.shiftLeft_eq] at h3
  have h4 : orF (c : Int) k = ((c / 8192 * 2 ^ 13 + (c % 8192 ||| 2 ^ k.toNat) : Nat) : Int) := by
    unfold orF
    rw [Int.toNat_natCast, h3]
  have h5 : orF (om (c : Int)) k = ((c % 8192 ||| 2 ^ k.toNat : Nat) : Int) := by
    unfold orF om
    rw [show ((c : Int) % 8192).toNat = c % 8192 from by omega]
  rw [h5, h4]
  unfold ow om
  generalize c % 8192 ||| 2 ^ k.toNat = d at hl ⊢
  omega
theorem orF_r {m k : Int} (hm : 0 ≤ m ∧ m < 8192) (hk : 0 ≤ k ∧ k ≤ 12) : 0 ≤ orF m k ∧ orF m k < 8192 := by
  have hp := p2_le hk
  have hl : m.toNat ||| 2 ^ k.toNat < 2 ^ 13 := Nat.or_lt_two_pow (by omega) (by omega)
  unfold orF
  omega
theorem bF_o {x k : Int} (hk : 0 ≤ k ∧ k ≤ 12) : bF (om x) k = bF x k := by
  have h : k = 0 ∨ k = 1 ∨ k = 2 ∨ k = 3 ∨ k = 4 ∨ k = 5 ∨ k = 6 ∨ k = 7 ∨ k = 8 ∨ k = 9 ∨ k = 10 ∨ k = 11 ∨ k = 12 := by omega
  unfold bF om
  rcases h with rfl | rfl | rfl | rfl | rfl | rfl | rfl | rfl | rfl | rfl | rfl | rfl | rfl
  · show x % 8192 / 1 % 2 = x / 1 % 2; omega
  · show x % 8192 / 2 % 2 = x / 2 % 2; omega
  · show x % 8192 / 4 % 2 = x / 4 % 2; omega
  · show x % 8192 / 8 % 2 = x / 8 % 2; omega
  · show x % 8192 / 16 % 2 = x / 16 % 2; omega
  · show x % 8192 / 32 % 2 = x / 32 % 2; omega
  · show x % 8192 / 64 % 2 = x / 64 % 2; omega
  · show x % 8192 / 128 % 2 = x / 128 % 2; omega
  · show x % 8192 / 256 % 2 = x / 256 % 2; omega
  · show x % 8192 / 512 % 2 = x / 512 % 2; omega
  · show x % 8192 / 1024 % 2 = x / 1024 % 2; omega
  · show x % 8192 / 2048 % 2 = x / 2048 % 2; omega
  · show x % 8192 / 4096 % 2 = x / 4096 % 2; omega
/-- who has it -/
theorem xown {x z : Int} (hx : 0 ≤ x ∧ x < 65536) (e : z = (Int32.ofInt x >>> (Int32.ofInt 13 &&& 31)).toInt) : z = ow x := by
  rw [e, xshr hx (by decide)]
  rfl
theorem xshl13 {p z : Int} (hp : 0 ≤ p ∧ p ≤ 5) (e : z = (Int32.ofInt p <<< (Int32.ofInt 13 &&& 31)).toInt) : z = 8192 * p := by
  have h : p = 0 ∨ p = 1 ∨ p = 2 ∨ p = 3 ∨ p = 4 ∨ p = 5 := by omega
  subst e
  rcases h with rfl | rfl | rfl | rfl | rfl | rfl <;> decide +kernel

