/-! Numbers and worlds of the small machine. -/
def xR32 (z : Int) : Prop := -2147483648 ≤ z ∧ z ≤ 2147483647
def xR64 (z : Int) : Prop := -9223372036854775808 ≤ z ∧ z ≤ 9223372036854775807
def xg : xV → Prop
  | .inl z => xR32 z
  | .inr (.inl z) => xR64 z
  | _ => True
def xv (a : Nat → Nat) : xV → Value
  | .inl z => .int (Int32.ofInt z)
  | .inr (.inl z) => .long (Int64.ofInt z)
  | .inr (.inr (.inl t)) => .ref (a t)
  | _ => .null
theorem x32 {z : Int} (h : xR32 z) : (Int32.ofInt z).toInt = z := Int32.toInt_ofInt_of_le (by have := h.1; omega) (by have := h.2; omega)
theorem x64 {z : Int} (h : xR64 z) : (Int64.ofInt z).toInt = z := Int64.toInt_ofInt_of_le (by have := h.1; omega) (by have := h.2; omega)
theorem x32r (w : Int32) : xR32 w.toInt := ⟨by have := w.le_toInt; omega, by have := w.toInt_lt; omega⟩
theorem x64r (w : Int64) : xR64 w.toInt := ⟨by have := w.le_toInt; omega, by have := w.toInt_lt; omega⟩
theorem x32o (w : Int32) : w = Int32.ofInt w.toInt := (Int32.ofInt_toInt w).symm
theorem x64o (w : Int64) : w = Int64.ofInt w.toInt := (Int64.ofInt_toInt w).symm
theorem x32n (e : Int) : ∃ z t : Int, z = e + 4294967296 * t ∧ -2147483648 ≤ z ∧ z ≤ 2147483647 ∧ Int32.ofInt e = Int32.ofInt z := by
  have h1 : (Int32.ofInt e).toInt = e.bmod 4294967296 := Int32.toInt_ofInt
  have h2 := x32r (Int32.ofInt e)
  have h3 := x32o (Int32.ofInt e)
  rw [h1] at h2 h3
  refine ⟨e.bmod 4294967296, if e % 4294967296 < 2147483648 then -(e / 4294967296) else -(e / 4294967296) - 1, ?_, h2.1, h2.2, h3⟩
  unfold Int.bmod; dsimp only
  split <;> split <;> omega
theorem x64n (e : Int) : ∃ z t : Int, z = e + 18446744073709551616 * t ∧ -9223372036854775808 ≤ z ∧ z ≤ 9223372036854775807 ∧ Int64.ofInt e = Int64.ofInt z := by
  have h1 : (Int64.ofInt e).toInt = e.bmod 18446744073709551616 := Int64.toInt_ofInt
  have h2 := x64r (Int64.ofInt e)
  have h3 := x64o (Int64.ofInt e)
  rw [h1] at h2 h3
  refine ⟨e.bmod 18446744073709551616, if e % 18446744073709551616 < 9223372036854775808 then -(e / 18446744073709551616) else -(e / 18446744073709551616) - 1, ?_, h2.1, h2.2, h3⟩
  unfold Int.bmod; dsimp only
  split <;> split <;> omega
theorem x32lt {x y : Int} (hx : xR32 x) (hy : xR32 y) : Int32.ofInt x < Int32.ofInt y ↔ x < y := by rw [Int32.lt_iff_toInt_lt, x32 hx, x32 hy]
theorem x32le {x y : Int} (hx : xR32 x) (hy : xR32 y) : Int32.ofInt x ≤ Int32.ofInt y ↔ x ≤ y := by rw [Int32.le_iff_toInt_le, x32 hx, x32 hy]
theorem x32eq {x y : Int} (hx : xR32 x) (hy : xR32 y) : Int32.ofInt x = Int32.ofInt y ↔ x = y := by rw [← Int32.toInt_inj, x32 hx, x32 hy]
theorem x32z : (0 : Int32) = Int32.ofInt 0 := rfl
theorem x64z : (0 : Int64) = Int64.ofInt 0 := rfl
theorem xR0 : xR32 0 := ⟨by decide, by decide⟩
theorem xL0 : xR64 0 := ⟨by decide, by decide⟩
theorem x32ne {y : Int} (hy : xR32 y) (h : ¬ y = 0) : ¬ Int32.ofInt y = 0 := fun e => h ((x32eq hy xR0).mp (e.trans x32z))
theorem x64ne {y : Int} (hy : xR64 y) (h : ¬ y = 0) : ¬ Int64.ofInt y = 0 := fun e => h (by have := congrArg Int64.toInt (e.trans x64z); rwa [x64 hy, x64 xL0] at this)
theorem x32cl {i : Int} (hi : xR32 i) : (Int32.ofInt i).toNatClampNeg = i.toNat := Int32.toNatClampNeg_ofInt_of_le (by have := hi.1; omega) (by have := hi.2; omega)
theorem x32in {i : Int} {n : Nat} (hi : xR32 i) (h : 0 ≤ i ∧ i < n) : vp_in (Int32.ofInt i) n := vp_in_iff.mpr (by rw [x32 hi]; exact h)
theorem xdivF {x y : Int} (hx : xR32 x) (hy : xR32 y) : 0 ≤ x → 0 < y → (Int32.ofInt x / Int32.ofInt y).toInt = x / y := by
  intro h1 h2
  rw [Int32.toInt_div, x32 hx, x32 hy, Int.tdiv_eq_ediv_of_nonneg h1]
  have h3 : 0 ≤ x / y := Int.ediv_nonneg h1 (Int.le_of_lt h2)
  have h4 : x / y ≤ x := Int.ediv_le_self y h1
  have h5 := hx.2
  exact Int.bmod_eq_of_le (by omega) (by omega)
theorem xremF {x y : Int} (hx : xR32 x) (hy : xR32 y) : 0 ≤ x → 0 < y → (Int32.ofInt x - Int32.ofInt x / Int32.ofInt y * Int32.ofInt y).toInt = x % y := by
  intro h1 h2
  have h3 := xdivF hx hy h1 h2
  have h6 := hx.2
  have h7 := hy.2
  have h8 : x % y < y := Int.emod_lt_of_pos x h2
  have h9 : 0 ≤ x % y := Int.emod_nonneg x (by omega)
  have h4 : Int32.ofInt x / Int32.ofInt y = Int32.ofInt (x / y) := by rw [← h3]; exact x32o _
  rw [h4, ← Int32.ofInt_mul, ← Int32.ofInt_sub, show x - x / y * y = x % y by rw [Int.emod_def, Int.mul_comm]]
  exact x32 ⟨by omega, by omega⟩
theorem xldivF {x y : Int} (hx : xR64 x) (hy : xR64 y) : 0 ≤ x → 0 < y → (Int64.ofInt x / Int64.ofInt y).toInt = x / y := by
  intro h1 h2
  rw [Int64.toInt_div, x64 hx, x64 hy, Int.tdiv_eq_ediv_of_nonneg h1]
  have h3 : 0 ≤ x / y := Int.ediv_nonneg h1 (Int.le_of_lt h2)
  have h4 : x / y ≤ x := Int.ediv_le_self y h1
  have h5 := hx.2
  exact Int.bmod_eq_of_le (by omega) (by omega)
theorem xlremF {x y : Int} (hx : xR64 x) (hy : xR64 y) : 0 ≤ x → 0 < y → (Int64.ofInt x - Int64.ofInt x / Int64.ofInt y * Int64.ofInt y).toInt = x % y := by
  intro h1 h2
  have h3 := xldivF hx hy h1 h2
  have h6 := hx.2
  have h7 := hy.2
  have h8 : x % y < y := Int.emod_lt_of_pos x h2
  have h9 : 0 ≤ x % y := Int.emod_nonneg x (by omega)
  have h4 : Int64.ofInt x / Int64.ofInt y = Int64.ofInt (x / y) := by rw [← h3]; exact x64o _
  rw [h4, ← Int64.ofInt_mul, ← Int64.ofInt_sub, show x - x / y * y = x % y by rw [Int.emod_def, Int.mul_comm]]
  exact x64 ⟨by omega, by omega⟩
theorem xcmpF {x y : Int} (hx : xR64 x) (hy : xR64 y) : ∃ z : Int, lg_cmp (Int64.ofInt x) (Int64.ofInt y) = Int32.ofInt z ∧ (x < y → z = -1) ∧ (x = y → z = 0) ∧ (y < x → z = 1) ∧ -1 ≤ z ∧ z ≤ 1 := by
  unfold lg_cmp
  have e1 : (Int64.ofInt x > Int64.ofInt y) ↔ y < x := by rw [gt_iff_lt, Int64.lt_iff_toInt_lt, x64 hx, x64 hy]
  have e2 : (Int64.ofInt x = Int64.ofInt y) ↔ x = y := by rw [← Int64.toInt_inj, x64 hx, x64 hy]
  by_cases h1 : y < x
  · rw [if_pos (e1.mpr h1)]
    exact ⟨1, rfl, by omega, by omega, by omega, by omega, by omega⟩
  · rw [if_neg (fun h => h1 (e1.mp h))]
    by_cases h2 : x = y
    · rw [if_pos (e2.mpr h2)]
      exact ⟨0, rfl, by omega, by omega, by omega, by omega, by omega⟩
    · rw [if_neg (fun h => h2 (e2.mp h))]
      exact ⟨-1, rfl, by omega, by omega, by omega, by omega, by omega⟩
theorem xi2l {x : Int} (hx : xR32 x) : (Int32.ofInt x).toInt64 = Int64.ofInt x := Int64.toInt_inj.mp (by rw [Int32.toInt_toInt64, x32 hx, x64 ⟨by have := hx.1; omega, by have := hx.2; omega⟩])
theorem xR32L {x : Int} (h : xR32 x) : xR64 x := ⟨by have := h.1; omega, by have := h.2; omega⟩
/-- cells -/
def xfv (a : Nat → Nat) (ρ : Nat → Nat → Option Nat) (σ : xS) (t j : Nat) : Nat → Value
  | 0 => .int (Int32.ofInt (σ t j))
  | 1 => .long (Int64.ofInt (σ t j))
  | 2 => .int (Int32.ofInt (σ t j))
  | 3 => va_rf (ρ t j)
  | c + 4 => .ref (a c)
def xfs (a : Nat → Nat) (ρ : Nat → Nat → Option Nat) (σ : xS) (t : Nat) (codes : List Nat) : List Value := codes.zipIdx.map (fun q => xfv a ρ σ t q.2 q.1)
theorem xfs_at (a : Nat → Nat) (ρ : Nat → Nat → Option Nat) (σ : xS) (t : Nat) (codes : List Nat) (j : Nat) : (xfs a ρ σ t codes)[j]? = codes[j]?.map (xfv a ρ σ t j) := by
  unfold xfs
  rw [List.getElem?_map, List.getElem?_zipIdx]
  cases codes[j]? <;> simp
def xcon (ρ : Nat → Nat → Option Nat) (σ : xS) (t k : Nat) : (Nat → Int32) ⊕ (Nat → Int64) ⊕ (Nat → UInt32) ⊕ (Nat → UInt64) ⊕ (Nat → Option Nat) :=
  if k = 2 then .inr (.inl (fun i => Int64.ofInt (σ t i))) else if k < 4 then .inl (fun i => Int32.ofInt (σ t i)) else .inr (.inr (.inr (.inr (ρ t))))
def xcell (a : Nat → Nat) (y : Nat → ClassId) (ρ : Nat → Nat → Option Nat) (σ : xS) (t : Nat) : Nat × Nat × List Nat → va_E
  | (0, ci, codes) => .inr (ci, xfs a ρ σ t codes)
  | (k + 1, n, _) => .inl (y k, (n, xcon ρ σ t k))
def xtags (N : Nat) (sh : xH) : List Nat := (List.range N).filter (fun t => (sh t).isSome)
def xws (a : Nat → Nat) (y : Nat → ClassId) (ρ : Nat → Nat → Option Nat) (N : Nat) (sh : xH) (σ : xS) : va_W := (xtags N sh).map (fun t => (a t, xcell a y ρ σ t ((sh t).getD (0, 0, []))))
def xfin (N : Nat) (sh : xH) : Prop := ∀ t, N ≤ t → sh t = none
theorem xtags_in {N : Nat} {sh : xH} (hN : xfin N sh) {t : Nat} {e : Nat × Nat × List Nat} (h : sh t = some e) : ∃ q : Nat, (xtags N sh)[q]? = some t := by
  have h1 : t < N := by
    rcases Nat.lt_or_ge t N with h1 | h1
    · exact h1
    · rw [hN t h1] at h; cases h
  exact List.getElem?_of_mem (List.mem_filter.mpr ⟨List.mem_range.mpr h1, by rw [h]; rfl⟩)
theorem xws_at {a : Nat → Nat} {y : Nat → ClassId} {ρ : Nat → Nat → Option Nat} {N : Nat} {sh : xH} {σ : xS} {t q : Nat} {e : Nat × Nat × List Nat} (hq : (xtags N sh)[q]? = some t) (h : sh t = some e) : (xws a y ρ N sh σ)[q]? = some (a t, xcell a y ρ σ t e) := by
  unfold xws
  rw [List.getElem?_map, hq]
  simp [h]
theorem xtags_nd (N : Nat) (sh : xH) : (xtags N sh).Nodup := List.Nodup.sublist List.filter_sublist List.nodup_range
theorem xws_set {a : Nat → Nat} {y : Nat → ClassId} {ρ : Nat → Nat → Option Nat} {N : Nat} {sh : xH} {σ σ' : xS} {t q : Nat} {e : Nat × Nat × List Nat} {x : va_E} (hq : (xtags N sh)[q]? = some t) (h : sh t = some e) (hx : x = xcell a y ρ σ' t e) (ho : ∀ u, u ≠ t → ∀ e', xcell a y ρ σ' u e' = xcell a y ρ σ u e') : (xws a y ρ N sh σ).set q (a t, x) = xws a y ρ N sh σ' := by
  refine List.ext_getElem? (fun k => ?_)
  by_cases hk : k = q
  · subst hk
    rw [List.getElem?_set_self (List.getElem?_eq_some_iff.mp (xws_at (a := a) (y := y) (ρ := ρ) (σ := σ) hq h)).1, xws_at hq h, hx]
  · rw [List.getElem?_set_ne (Ne.symm hk)]
    unfold xws
    rw [List.getElem?_map, List.getElem?_map]
    cases hu : (xtags N sh)[k]? with
    | none => rfl
    | some u =>
      have hne : u ≠ t := by
        intro hut
        subst hut
        obtain ⟨h1, h2⟩ := List.getElem?_eq_some_iff.mp hu
        obtain ⟨h3, h4⟩ := List.getElem?_eq_some_iff.mp hq
        exact hk ((List.getElem_inj (xtags_nd N sh)).mp (h2.trans h4.symm))
      simp [ho u hne]
/-- the numbers have their bounds -/
def xgs (sh : xH) (σ : xS) : Prop := (∀ t ci codes, sh t = some (0, ci, codes) → ∀ j c, codes[j]? = some c → (c = 0 ∨ c = 2 → xR32 (σ t j)) ∧ (c = 1 → xR64 (σ t j))) ∧ (∀ t k n l, sh t = some (k + 1, n, l) → ∀ i, i < n → (k = 2 → xR64 (σ t i)) ∧ (¬ k = 2 → k < 4 → xR32 (σ t i)))
theorem xput_ne {σ : xS} {t j : Nat} {v : Int} {u : Nat} (h : u ≠ t) : xput σ t j v u = σ u := by
  funext i
  simp [xput, h]
theorem xput_f {a : Nat → Nat} {ρ : Nat → Nat → Option Nat} {σ : xS} {t j : Nat} {v : Int} {codes : List Nat} {c : Nat} {w : Value} (hc : codes[j]? = some c) (hw : w = xfv a ρ (xput σ t j v) t j c) : (xfs a ρ σ t codes).set j w = xfs a ρ (xput σ t j v) t codes := by
  have hl : j < (xfs a ρ σ t codes).length := by
    unfold xfs
    rw [List.length_map, List.length_zipIdx]
    exact (List.getElem?_eq_some_iff.mp hc).1
  refine List.ext_getElem? (fun k => ?_)
  by_cases hk : k = j
  · subst hk
    rw [List.getElem?_set_self hl, xfs_at, hc, hw]
    rfl
  · rw [List.getElem?_set_ne (Ne.symm hk), xfs_at, xfs_at]
    cases codes[k]? with
    | none => rfl
    | some c' =>
      have e : xput σ t j v t k = σ t k := by simp [xput, hk]
      match c' with
      | 0 => simp [xfv, e]
      | 1 => simp [xfv, e]
      | 2 => simp [xfv, e]
      | 3 => rfl
      | c'' + 4 => rfl
theorem xcell_ne {a : Nat → Nat} {y : Nat → ClassId} {ρ : Nat → Nat → Option Nat} {σ : xS} {t j : Nat} {v : Int} {u : Nat} (h : u ≠ t) (e' : Nat × Nat × List Nat) : xcell a y ρ (xput σ t j v) u e' = xcell a y ρ σ u e' := by
  have e := xput_ne (σ := σ) (j := j) (v := v) h
  match e' with
  | (0, ci, codes) =>
    have : xfs a ρ (xput σ t j v) u codes = xfs a ρ σ u codes := by
      refine List.ext_getElem? (fun k => ?_)
      rw [xfs_at, xfs_at]
      cases codes[k]? with
      | none => rfl
      | some c =>
        have e2 : xput σ t j v u k = σ u k := by rw [e]
        match c with
        | 0 => simp [xfv, e2]
        | 1 => simp [xfv, e2]
        | 2 => simp [xfv, e2]
        | 3 => rfl
        | c'' + 4 => rfl
    simp [xcell, this]
  | (k + 1, n, _) => simp [xcell, xcon, e]
/-- locals -/
def xlv (a : Nat → Nat) (L : List xV) : List (Nat × Value) := L.zipIdx.filterMap (fun q => match q.1 with
  | .inl z => some (q.2, .int (Int32.ofInt z))
  | .inr (.inl z) => some (q.2, .long (Int64.ofInt z))
  | .inr (.inr (.inl t)) => some (q.2, .ref (a t))
  | .inr (.inr (.inr _)) => none)
theorem xlv_mem {a : Nat → Nat} {L : List xV} {q : Nat × Value} (h : q ∈ xlv a L) : ∃ v : xV, L[q.1]? = some v ∧ v ≠ xvu ∧ q.2 = xv a v := by
  obtain ⟨⟨v, i⟩, h1, h2⟩ := List.mem_filterMap.mp h
  have h3 : L[i]? = some v := List.mem_zipIdx_iff_getElem?.mp h1
  match v, h2, h3 with
  | .inl z, h2, h3 => cases h2; exact ⟨_, h3, by simp, rfl⟩
  | .inr (.inl z), h2, h3 => cases h2; exact ⟨_, h3, by simp, rfl⟩
  | .inr (.inr (.inl t)), h2, h3 => cases h2; exact ⟨_, h3, by simp, rfl⟩
theorem xlv_in {a : Nat → Nat} {L : List xV} {i : Nat} {v : xV} (h : L[i]? = some v) (hv : v ≠ xvu) : (i, xv a v) ∈ xlv a L := by
  refine List.mem_filterMap.mpr ⟨(v, i), List.mem_zipIdx_iff_getElem?.mpr h, ?_⟩
  match v, hv with
  | .inl z, _ => rfl
  | .inr (.inl z), _ => rfl
  | .inr (.inr (.inl t)), _ => rfl
  | .inr (.inr (.inr ())), hv => exact absurd rfl hv
theorem xv_cat {a : Nat → Nat} {v : xV} (h : (xv a v).category = 2) : ∃ z : Int, v = xvl z := by
  match v, h with
  | .inl z, h => cases h
  | .inr (.inl z), _ => exact ⟨z, rfl⟩
  | .inr (.inr (.inl t)), h => cases h
  | .inr (.inr (.inr ())), h => cases h
theorem xcl_len (L : List xV) (i : Nat) : (xcl L i).length = L.length := by
  unfold xcl
  split
  · rfl
  · split
    · exact List.length_set
    · rfl
theorem xcl_at {L : List xV} {i j : Nat} {v : xV} (h : (xcl L i)[j]? = some v) (hv : v ≠ xvu) : L[j]? = some v ∧ ¬ (j + 1 = i ∧ ∃ z, v = xvl z) := by
  unfold xcl at h
  match i, h with
  | 0, h => exact ⟨h, by omega⟩
  | k + 1, h =>
    dsimp only at h
    split at h
    · rename_i z hz
      by_cases hk : k = j
      · subst hk
        rw [List.getElem?_set_self (List.getElem?_eq_some_iff.mp hz).1] at h
        exact absurd (Option.some.inj h).symm hv
      · rw [List.getElem?_set_ne hk] at h
        exact ⟨h, by omega⟩
    · rename_i hz
      refine ⟨h, fun ⟨h1, z, h2⟩ => ?_⟩
      have : j = k := by omega
      subst this
      subst h2
      exact hz z h
theorem xst1_l {a : Nat → Nat} {L : List xV} {i nL : Nat} {v : xV} {ls : Array Slot} (hi : i < L.length) (h : lv_has ls nL ((i, xv a v) :: (xlv a L).filter (fun q => !(q.1 == i) && !(q.1 + 1 == i && q.2.category == 2)))) : lv_has ls nL (xlv a (xst1 L i v)) := by
  refine ⟨h.1, h.2.1, fun q hq => h.2.2 q ?_⟩
  obtain ⟨w, h1, h2, h3⟩ := xlv_mem hq
  unfold xst1 at h1
  by_cases hk : i = q.1
  · subst hk
    rw [List.getElem?_set_self (by rw [xcl_len]; exact hi)] at h1
    obtain rfl : v = w := Option.some.inj h1
    exact List.mem_cons.mpr (Or.inl (by rw [← h3]))
  · rw [List.getElem?_set_ne hk] at h1
    obtain ⟨h4, h5⟩ := xcl_at h1 h2
    refine List.mem_cons.mpr (Or.inr (List.mem_filter.mpr ⟨?_, ?_⟩))
    · have := xlv_in (a := a) h4 h2
      rw [← h3] at this
      exact this
    · have e1 : (q.1 == i) = false := by simp; omega
      rw [e1]
      by_cases e2 : q.1 + 1 = i
      · have e3 : ¬ (q.2.category = 2) := fun e3 => h5 ⟨e2, xv_cat (by rw [← h3]; exact e3)⟩
        have e4 : (q.2.category == 2) = false := by simpa using e3
        rw [e4]; simp
      · have e4 : (q.1 + 1 == i) = false := by simpa using e2
        rw [e4]; simp
theorem xst2_l {a : Nat → Nat} {L : List xV} {i nL : Nat} {v : xV} {ls : Array Slot} (hi : i + 1 < L.length) (h : lv_has ls nL ((i, xv a v) :: (xlv a L).filter (fun q => !(q.1 == i) && (!(q.1 == i + 1) && !(q.1 + 1 == i && q.2.category == 2))))) : lv_has ls nL (xlv a (xst2 L i v)) := by
  refine ⟨h.1, h.2.1, fun q hq => h.2.2 q ?_⟩
  obtain ⟨w, h1, h2, h3⟩ := xlv_mem hq
  unfold xst2 at h1
  by_cases hk1 : i + 1 = q.1
  · rw [← hk1, List.getElem?_set_self (by rw [List.length_set, xcl_len]; exact hi)] at h1
    exact absurd (Option.some.inj h1).symm h2
  rw [List.getElem?_set_ne hk1] at h1
  by_cases hk : i = q.1
  · subst hk
    rw [List.getElem?_set_self (by rw [xcl_len]; omega)] at h1
    obtain rfl : v = w := Option.some.inj h1
    exact List.mem_cons.mpr (Or.inl (by rw [← h3]))
  · rw [List.getElem?_set_ne hk] at h1
    obtain ⟨h4, h5⟩ := xcl_at h1 h2
    refine List.mem_cons.mpr (Or.inr (List.mem_filter.mpr ⟨?_, ?_⟩))
    · have := xlv_in (a := a) h4 h2
      rw [← h3] at this
      exact this
    · have e1 : (q.1 == i) = false := by simp; omega
      have e5 : (q.1 == i + 1) = false := by simp; omega
      rw [e1, e5]
      by_cases e2 : q.1 + 1 = i
      · have e3 : ¬ (q.2.category = 2) := fun e3 => h5 ⟨e2, xv_cat (by rw [← h3]; exact e3)⟩
        have e4 : (q.2.category == 2) = false := by simpa using e3
        rw [e4]; simp
      · have e4 : (q.1 + 1 == i) = false := by simpa using e2
        rw [e4]; simp
theorem xcl_g {L : List xV} {i : Nat} (h : ∀ v ∈ L, xg v) : ∀ v ∈ xcl L i, xg v := by
  unfold xcl
  split
  · exact h
  · split
    · intro v hv
      rcases List.mem_or_eq_of_mem_set hv with hv | rfl
      · exact h v hv
      · exact trivial
    · exact h
theorem xst1_g {L : List xV} {i : Nat} {v : xV} (h : ∀ v ∈ L, xg v) (hv : xg v) : ∀ w ∈ xst1 L i v, xg w := by
  intro w hw
  rcases List.mem_or_eq_of_mem_set hw with hw | rfl
  · exact xcl_g h w hw
  · exact hv
theorem xst2_g {L : List xV} {i : Nat} {v : xV} (h : ∀ v ∈ L, xg v) (hv : xg v) : ∀ w ∈ xst2 L i v, xg w := by
  intro w hw
  rcases List.mem_or_eq_of_mem_set hw with hw | rfl
  · exact xst1_g h hv w hw
  · exact trivial
theorem xst1_n (L : List xV) (i : Nat) (v : xV) : (xst1 L i v).length = L.length := by unfold xst1; rw [List.length_set, xcl_len]
theorem xst2_n (L : List xV) (i : Nat) (v : xV) : (xst2 L i v).length = L.length := by unfold xst2; rw [List.length_set, List.length_set, xcl_len]
/-- ways in -/
theorem x1i_e {st : List xV} {f : Int → List xV → Prop} (h : x1i st f) : ∃ x r, st = xvi x :: r ∧ f x r := by
  unfold x1i at h
  split at h
  · exact ⟨_, _, rfl, h⟩
  · exact h.elim
theorem x2i_e {st : List xV} {f : Int → Int → List xV → Prop} (h : x2i st f) : ∃ x y r, st = xvi y :: xvi x :: r ∧ f x y r := by
  unfold x2i at h
  split at h
  · exact ⟨_, _, _, rfl, h⟩
  · exact h.elim
theorem x1l_e {st : List xV} {f : Int → List xV → Prop} (h : x1l st f) : ∃ x r, st = xvl x :: r ∧ f x r := by
  unfold x1l at h
  split at h
  · exact ⟨_, _, rfl, h⟩
  · exact h.elim
theorem x2l_e {st : List xV} {f : Int → Int → List xV → Prop} (h : x2l st f) : ∃ x y r, st = xvl y :: xvl x :: r ∧ f x y r := by
  unfold x2l at h
  split at h
  · exact ⟨_, _, _, rfl, h⟩
  · exact h.elim
theorem x1r_e {st : List xV} {f : Nat → List xV → Prop} (h : x1r st f) : ∃ t r, st = xvr t :: r ∧ f t r := by
  unfold x1r at h
  split at h
  · exact ⟨_, _, rfl, h⟩
  · exact h.elim
theorem xldi_e {L : List xV} {i : Nat} {f : Int → Prop} (h : xldi L i f) : ∃ x, L[i]? = some (xvi x) ∧ f x := by
  unfold xldi at h
  split at h
  · exact ⟨_, by assumption, h⟩
  · exact h.elim
theorem xldl_e {L : List xV} {i : Nat} {f : Int → Prop} (h : xldl L i f) : ∃ x, L[i]? = some (xvl x) ∧ f x := by
  unfold xldl at h
  split at h
  · exact ⟨_, by assumption, h⟩
  · exact h.elim
theorem xldr_e {L : List xV} {i : Nat} {f : Nat → Prop} (h : xldr L i f) : ∃ x, L[i]? = some (xvr x) ∧ f x := by
  unfold xldr at h
  split at h
  · exact ⟨_, by assumption, h⟩
  · exact h.elim
theorem xarr_e {sh : xH} {t : Nat} {f : Nat → Nat → Prop} (h : xarr sh t f) : ∃ k n l, sh t = some (k + 1, n, l) ∧ f k n := by
  unfold xarr at h
  split at h
  · exact ⟨_, _, _, by assumption, h⟩
  · exact h.elim
