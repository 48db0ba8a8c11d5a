/-! Ways: powers, sums, the rest of a division. -/
theorem xlrem_b {x y z : Int} (hx : -9223372036854775808 ≤ x ∧ x ≤ 9223372036854775807) (hy : -9223372036854775808 ≤ y ∧ y ≤ 9223372036854775807) (hn : ¬ y = 0) (e : z = (Int64.ofInt x - Int64.ofInt x / Int64.ofInt y * Int64.ofInt y).toInt) : z.natAbs < y.natAbs := by
  have h4 : Int64.ofInt x / Int64.ofInt y = Int64.ofInt (x.tdiv y) := Int64.toInt_inj.mp (by rw [Int64.toInt_div, x64 hx, x64 hy, Int64.toInt_ofInt])
  rw [h4, ← Int64.ofInt_mul, ← Int64.ofInt_sub, show x - x.tdiv y * y = x.tmod y by rw [Int.tmod_def, Int.mul_comm]] at e
  have h5 : (x.tmod y).natAbs < y.natAbs := by rw [Int.natAbs_tmod]; exact Nat.mod_lt _ (by omega)
  rw [x64 ⟨by omega, by omega⟩] at e
  rw [e]; exact h5
def f5 (n : Nat) : Int := match n with
  | 0 => 1
  | n + 1 => 5 * f5 n
def e24 (n : Nat) : Int := match n with
  | 0 => 1
  | n + 1 => 24 * e24 n
theorem f5_p {n : Nat} : 1 ≤ f5 n := by
  induction n with
  | zero => exact Int.le_refl _
  | succ n ih => unfold f5; omega
theorem f5_le {n m : Nat} (h : n ≤ m) : f5 n ≤ f5 m := by
  induction m with
  | zero => rw [show n = 0 from by omega]; exact Int.le_refl _
  | succ m ih =>
    by_cases c : n = m + 1
    · rw [c]; exact Int.le_refl _
    · have a := ih (by omega)
      have b := f5_p (n := m)
      have e : f5 (m + 1) = 5 * f5 m := rfl
      omega
theorem f5_6 {n : Nat} (h : n ≤ 6) : f5 n ≤ 15625 := by
  have a := f5_le h
  have e : f5 6 = 15625 := rfl
  omega
theorem f5_ok {j L : Nat} (hj : j < L) (hL : L ≤ 6) {c : Int} (h0 : 0 ≤ c) (h1 : c < f5 L) (hd : c / f5 j % 5 ≤ 3) : c + f5 j < f5 L := by
  have e0 : f5 0 = 1 := rfl
  have e1 : f5 1 = 5 := rfl
  have e2 : f5 2 = 25 := rfl
  have e3 : f5 3 = 125 := rfl
  have e4 : f5 4 = 625 := rfl
  have e5 : f5 5 = 3125 := rfl
  have e6 : f5 6 = 15625 := rfl
  rcases (by omega : L = 1 ∨ L = 2 ∨ L = 3 ∨ L = 4 ∨ L = 5 ∨ L = 6) with rfl | rfl | rfl | rfl | rfl | rfl <;>
  rcases (by omega : j = 0 ∨ j = 1 ∨ j = 2 ∨ j = 3 ∨ j = 4 ∨ j = 5) with rfl | rfl | rfl | rfl | rfl | rfl <;>
  first
  | (exfalso; omega)
  | (simp only [e0, e1, e2, e3, e4, e5, e6] at *; omega)
theorem e24_p {n : Nat} : 1 ≤ e24 n := by
  induction n with
  | zero => exact Int.le_refl _
  | succ n ih => unfold e24; omega
theorem e24_le {n m : Nat} (h : n ≤ m) : e24 n ≤ e24 m := by
  induction m with
  | zero => rw [show n = 0 from by omega]; exact Int.le_refl _
  | succ m ih =>
    by_cases c : n = m + 1
    · rw [c]; exact Int.le_refl _
    · have a := ih (by omega)
      have b := e24_p (n := m)
      have e : e24 (m + 1) = 24 * e24 m := rfl
      omega
theorem e24_11 {n : Nat} (h : n ≤ 11) : e24 n ≤ 1521681143169024 := by
  have a := e24_le h
  have e : e24 11 = 1521681143169024 := rfl
  omega
theorem e24_12 {n : Nat} (h : n ≤ 12) : e24 n ≤ 36520347436056576 := by
  have a := e24_le h
  have e : e24 12 = 36520347436056576 := rfl
  omega
/-- the others of all but o -/
def onx (o : Int) (f : Nat → Int) (n : Nat) : Int := sm n (fun p => if (p : Int) = o then 0 else f (229 + p))
theorem onx_s {o : Int} {f : Nat → Int} {n : Nat} : onx o f (n + 1) = onx o f n + (if (n : Int) = o then 0 else f (229 + n)) := rfl
theorem onx_nn {o : Int} {f : Nat → Int} (h : ∀ p, p < 6 → 0 ≤ f (229 + p) ∧ f (229 + p) ≤ 52) {n : Nat} (hn : n ≤ 6) : 0 ≤ onx o f n ∧ onx o f n ≤ 52 * n := by
  induction n with
  | zero => exact ⟨Int.le_refl _, Int.le_refl _⟩
  | succ n ih =>
    have a := ih (by omega)
    have b := h n (by omega)
    rw [onx_s]
    split <;> omega
theorem onx_le {o : Int} {f : Nat → Int} (h : ∀ p, p < 6 → 0 ≤ f (229 + p) ∧ f (229 + p) ≤ 52) {n m : Nat} (hnm : n ≤ m) (hm : m ≤ 6) : onx o f n ≤ onx o f m := by
  induction m with
  | zero => rw [show n = 0 from by omega]; exact Int.le_refl _
  | succ m ih =>
    by_cases c : n = m + 1
    · rw [c]; exact Int.le_refl _
    · have a := ih (by omega) (by omega)
      have b := h m (by omega)
      rw [onx_s]
      split <;> omega
/-- what an onlooker has counted -/
def LKx (σ : xS) (o : Int) : Prop := (0 ≤ σ 0 33 ∧ σ 0 33 ≤ 6) ∧ (∀ j : Nat, (j : Int) < σ 0 33 → (0 ≤ σ 11 j ∧ σ 11 j ≤ 12) ∧ 1 ≤ σ 10 (σ 11 j).toNat ∧ σ 10 (σ 11 j).toNat ≤ 4) ∧ (0 ≤ σ 0 34 ∧ σ 0 34 ≤ 24) ∧ σ 0 35 = onx o (σ 2) (σ 2 1).toNat ∧ σ 0 35 ≤ 12
theorem LKx.eq {σ σ' : xS} {o : Int} (h : LKx σ o) (h2 : σ' 2 = σ 2) (h10 : σ' 10 = σ 10) (h11 : σ' 11 = σ 11) (a : σ' 0 33 = σ 0 33) (b : σ' 0 34 = σ 0 34) (c : σ' 0 35 = σ 0 35) : LKx σ' o := by
  unfold LKx
  rw [h2, h10, h11, a, b, c]
  exact h
theorem mul4 {w m : Int} (h0 : 0 ≤ w) (h1 : 0 ≤ m) (h2 : m ≤ 4) : 0 ≤ w * m ∧ w * m ≤ 4 * w := by
  refine ⟨Int.mul_nonneg h0 h1, ?_⟩
  have := Int.mul_le_mul_of_nonneg_left h2 h0
  omega
theorem mul6 {w m : Int} (h0 : 0 ≤ w) (h1 : 0 ≤ m) (h2 : m ≤ 6) : 0 ≤ m * w ∧ m * w ≤ 6 * w := ⟨Int.mul_nonneg h1 h0, Int.mul_le_mul_of_nonneg_right h2 h0⟩
theorem sm_put {n j : Nat} {f f' : Nat → Int} {v : Int} (hj : j < n) (h : f' j = f j + v) (s : ∀ i, i ≠ j → f' i = f i) : sm n f' = sm n f + v := by
  rw [sm_upd hj (fun i _ hne => s i hne), h]; omega
theorem sm_mono {n m : Nat} {g : Nat → Int} (h : ∀ i, i < m → 0 ≤ g i) (hn : n ≤ m) : sm n g ≤ sm m g := by
  induction m with
  | zero => rw [show n = 0 from by omega]; exact Int.le_refl _
  | succ m ih =>
    by_cases c : n = m + 1
    · rw [c]; exact Int.le_refl _
    · have a := ih (fun i hi => h i (by omega)) (by omega)
      have b := h m (by omega)
      have e : sm (m + 1) g = sm m g + g m := rfl
      omega
