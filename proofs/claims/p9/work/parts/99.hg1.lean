theorem rfN_v {p : Nat} (hp : p < 6) : ∀ (n : Nat) {f : Nat → Int}, VX f → (p : Int) < f 1 → VX (rfN f p n) ∧ QF f (rfN f p n)
  | 0, _, h, _ => ⟨h, QF.rf⟩
  | n + 1, f, h, hpp => by
    rw [rfN_s]
    by_cases c : cd f p = 0 ∧ 0 < f 3 ∧ 0 < f 7
    · rw [if_pos c]
      obtain ⟨a, b⟩ := drN_v hp (f 3).toNat h hpp
      obtain ⟨a', b'⟩ := rfN_v hp n a (by rw [b 1 (by omega)]; exact hpp)
      exact ⟨a', b.tr b'⟩
    · rw [if_neg c]; exact ⟨h, QF.rf⟩
theorem VX.rf {f : Nat → Int} {p : Nat} (h : VX f) (hp : p < 6) (hpp : (p : Int) < f 1) : VX (rfF f p) ∧ QF f (rfF f p) := rfN_v hp 52 h hpp
theorem VX.t {f : Nat → Int} {i : Nat} {v : Int} (h : VX f) (hi : i = 4 ∨ i = 6) : VX (up f i v) := ⟨h.1.t4 (fun j _ h4 h6 => up_n (by omega)), h.2.c (fun p hp => (h.1.w p hp).2) (fun j a b => up_n (by omega))⟩
/-! Whose turn it is. -/
theorem aft_r {n p : Int} (h0 : 0 ≤ p) (h1 : 0 < n) : 0 ≤ aft n p ∧ aft n p < n := by
  unfold aft
  split <;> omega
def L4x (f g : Nat → Int) : Prop := ∀ i, (i < 7 ∨ 571 ≤ i) → i ≠ 4 → g i = f i
theorem stN_v : ∀ (n : Nat) {f : Nat → Int} {p : Int}, VX f → f 4 = -1 → 0 ≤ p ∧ p < f 1 → VX (stN f p n) ∧ L4x f (stN f p n) ∧ ((stN f p n 4 = -1) ∨ (0 ≤ stN f p n 4 ∧ stN f p n 4 < f 1 ∧ 0 < cd (stN f p n) (stN f p n 4).toNat))
  | 0, f, p, h, h4, _ => ⟨h, fun _ _ _ => rfl, Or.inl h4⟩
  | n + 1, f, p, h, h4, hp => by
    have m := h.1.1.2.1
    obtain ⟨a, b⟩ := h.rf (p := p.toNat) (by omega) (by omega)
    rw [stN_s]
    by_cases c : 0 < cd (rfF f p.toNat) p.toNat
    · rw [if_pos c]
      refine ⟨a.t (Or.inl rfl), fun i hi h4 => by rw [up_n h4]; exact b i hi, Or.inr ?_⟩
      rw [up_s]
      refine ⟨hp.1, hp.2, ?_⟩
      have e : cd (up (rfF f p.toNat) 4 p) p.toNat = cd (rfF f p.toNat) p.toNat := sm_congr (fun i hi => up_n (by omega))
      rw [e]; exact c
    · rw [if_neg c]
      have b1 := b 1 (by omega)
      have r := aft_r (n := f 1) hp.1 (by omega)
      obtain ⟨a', b', c'⟩ := stN_v n (p := aft (f 1) p) a ((b 4 (by omega)).trans h4) (by rw [b1]; exact r)
      exact ⟨a', fun i hi h4 => (b' i hi h4).trans (b i hi), by rw [b1] at c'; exact c'⟩
theorem VX.st {f : Nat → Int} {p : Int} (h : VX f) (hp : 0 ≤ p ∧ p < f 1) : VX (stF f p) ∧ L4x f (stF f p) ∧ ((stF f p 4 = -1) ∨ (0 ≤ stF f p 4 ∧ stF f p 4 < f 1 ∧ 0 < cd (stF f p) (stF f p 4).toNat)) := by
  have e1 : up f 4 (-1) 1 = f 1 := up_n (by decide)
  obtain ⟨a, b, c⟩ := stN_v (f 1).toNat (f := up f 4 (-1)) (p := p) (h.t (Or.inl rfl)) up_s (by rw [e1]; exact hp)
  exact ⟨a, fun i hi h4 => (b i hi h4).trans (up_n h4), by rw [e1] at c; exact c⟩
/-! How many others there are in all. -/
theorem smx_add {g h : Nat → Int} : ∀ n : Nat, sm n (fun i => g i + h i) = sm n g + sm n h
  | 0 => rfl
  | n + 1 => by
    have z := smx_add (g := g) (h := h) n
    show sm n (fun i => g i + h i) + (g n + h n) = sm n g + g n + (sm n h + h n)
    omega
theorem smx_swap {g : Nat → Nat → Int} {m : Nat} : ∀ n : Nat, sm n (fun k => sm m (fun p => g p k)) = sm m (fun p => sm n (fun k => g p k))
  | 0 => by
    show 0 = sm m (fun p => 0)
    have e : ∀ m : Nat, sm m (fun _ => (0 : Int)) = 0 := fun m => by
      induction m with
      | zero => rfl
      | succ m ih => show sm m (fun _ => (0 : Int)) + 0 = 0; omega
    exact (e m).symm
  | n + 1 => by
    show sm n (fun k => sm m (fun p => g p k)) + sm m (fun p => g p n) = sm m (fun p => sm n (fun k => g p k) + g p n)
    rw [smx_add, smx_swap n]
theorem smx_one {x : Int} : ∀ n : Nat, sm n (fun k => if x = (k : Int) then 1 else 0) = if 0 ≤ x ∧ x < n then 1 else 0
  | 0 => by rw [if_neg (by omega)]; rfl
  | n + 1 => by
    show sm n (fun k => if x = (k : Int) then 1 else 0) + (if x = (n : Int) then 1 else 0) = _
    rw [smx_one n]
    by_cases c : x = (n : Int)
    · rw [if_pos c, if_neg (by omega), if_pos (by omega)]; rfl
    · rw [if_neg c]
      by_cases d : 0 ≤ x ∧ x < n
      · rw [if_pos d, if_pos (by omega)]; rfl
      · rw [if_neg d, if_neg (by omega)]; rfl
theorem smx_k {c : Int} : ∀ n : Nat, sm n (fun _ => c) = n * c
  | 0 => by show (0 : Int) = ((0 : Nat) : Int) * c; simp
  | n + 1 => by
    show sm n (fun _ => c) + c = ((n + 1 : Nat) : Int) * c
    rw [smx_k n, show ((n + 1 : Nat) : Int) = (n : Int) + 1 from by omega, Int.add_mul, Int.one_mul]
theorem rk_sum {h : Nat → Int} : ∀ n : Nat, (∀ i : Nat, i < n → ∃ p : Nat, p < 6 ∧ ow (h i) = p) → sm 6 (fun p => rk h (p : Int) n) = n
  | 0, _ => by show sm 6 (fun p => (0 : Int)) = _; decide
  | n + 1, hh => by
    obtain ⟨q, hq, e⟩ := hh n (by omega)
    have z := rk_sum (h := h) n (fun i hi => hh i (by omega))
    show sm 6 (fun p => rk h (p : Int) n + (if ow (h n) = (p : Int) then 1 else 0)) = _
    rw [smx_add, z, smx_one 6, if_pos (by omega)]
    omega
theorem V0.cd52 {f : Nat → Int} (h : V0 f) {p : Nat} (hp : p < 6) : 0 ≤ cd f p ∧ cd f p ≤ 52 := by
  have a := sm_nn (n := 13) (g := hd f p) (fun i hi => (h.hand hp hi).1)
  have b := sm_le (n := 13) (g := hd f p) (g' := fun _ => 4) (fun i hi => (h.hand hp hi).2)
  rw [smx_k 13] at b
  exact ⟨a, by show sm 13 (hd f p) ≤ 52; omega⟩
/-- all cards that are in hands, and the heap's -/
theorem V0.all52 {f : Nat → Int} (h : V0 f) : sm 6 (fun p => cd f p) + f 7 ≤ 52 := by
  have e : sm 6 (fun p => cd f p) = sm 13 (fun k => sm 6 (fun p => hd f p k)) := (smx_swap (g := fun p k => hd f p k) 13).symm
  have c : sm 13 (fun k => ct f (f 7).toNat k) = f 7 := by
    have m := h.1.2.2.2
    show sm 13 (fun k => sm (f 7).toNat (fun i => if f (8 + i) = (k : Int) then 1 else 0)) = f 7
    rw [smx_swap (g := fun i k => if f (8 + i) = (k : Int) then 1 else 0) 13, sm_congr (g' := fun _ => (1 : Int)) (fun i hi => ?_), smx_k]
    · omega
    · have v := h.2.1 i (by omega)
      have m0 := h.1.1
      show sm 13 (fun k => if f (8 + i) = (k : Int) then 1 else 0) = 1
      rw [smx_one 13, if_pos (by omega)]
  have b := sm_le (n := 13) (g := fun k => sm 6 (fun p => hd f p k) + ct f (f 7).toNat k) (g' := fun _ => 4) (fun k hk => by
    obtain ⟨b1, b2⟩ := h.2.2.2.2.1 k hk
    have s : (0 : Int) ≤ if 0 < f (138 + k) then 4 else 0 := by split <;> decide
    show sm 6 (fun p => hd f p k) + ct f (f 7).toNat k ≤ 4
    omega)
  rw [smx_add, c, smx_k] at b
  rw [e]
  omega
theorem smx_at {c : Int} {k : Nat} : ∀ n : Nat, sm n (fun p => if p = k then c else 0) = if k < n then c else 0
  | 0 => by rw [if_neg (by omega)]; rfl
  | n + 1 => by
    show sm n (fun p => if p = k then c else 0) + (if n = k then c else 0) = _
    rw [smx_at n]
    by_cases e : n = k
    · rw [if_pos e, if_neg (by omega), if_pos (by omega)]; omega
    · rw [if_neg e]
      by_cases d : k < n
      · rw [if_pos d, if_pos (by omega)]; omega
      · rw [if_neg d, if_neg (by omega)]; omega
theorem GR.nsum {σ : xS} {f : Nat → Int} (H : GR σ f) : sm 6 (fun p => f (229 + p)) = σ 9 2 := by
  have hO := H.2.2.2.1.1
  have s := rk_sum (h := σ 11) (σ 9 2).toNat (fun i hi => by
    obtain ⟨q, hq, a, _⟩ := hO.2.2 i (by have := hO.1; omega)
    exact ⟨q, hq, a⟩)
  rw [sm_congr (g' := fun p => f (229 + p)) (fun p hp => hO.2.1 p hp)] at s
  have := hO.1
  omega
/-- those known of one kind could be added too -/
theorem GR.nk {σ : xS} {f : Nat → Int} (H : GR σ f) (hV : V0 f) {k kind : Nat} (hk : k < 6) (hd' : kind < 13) : σ 9 2 + f (151 + 13 * k + kind) ≤ 52 := by
  have s := H.nsum
  have l := sm_le (n := 6) (g := fun p => f (229 + p) + (if p = k then f (151 + 13 * k + kind) else 0)) (g' := fun p => cd f p) (fun p hp => by
    have a := hV.2.2.2.1 p hp
    have b0 := sm_nn (n := 13) (g := kn f p) (fun i hi => (hV.2.2.1 p i hp hi).1)
    show f (229 + p) + (if p = k then f (151 + 13 * k + kind) else 0) ≤ sm 13 (hd f p)
    by_cases e : p = k
    · subst e
      have c : f (151 + 13 * p + kind) ≤ sm 13 (kn f p) := sm_ge (n := 13) (g := kn f p) (fun i hi => (hV.2.2.1 p i hp hi).1) hd'
      rw [if_pos rfl]; omega
    · rw [if_neg e]; omega)
  rw [smx_add, smx_at, if_pos hk, s] at l
  have w := hV.all52
  have m := hV.1.2.2.2.1
  omega
theorem GR.nall {σ : xS} {f : Nat → Int} (H : GR σ f) (hV : V0 f) : σ 9 2 + f 7 ≤ 52 := by
  have hO := H.2.2.2.1.1
  have s := rk_sum (h := σ 11) (σ 9 2).toNat (fun i hi => by
    obtain ⟨q, hq, a, _⟩ := hO.2.2 i (by have := hO.1; omega)
    exact ⟨q, hq, a⟩)
  rw [sm_congr (g' := fun p => f (229 + p)) (fun p hp => hO.2.1 p hp)] at s
  have l := sm_le (n := 6) (g := fun p => f (229 + p)) (g' := fun p => cd f p) (fun p hp => by
    have a := hV.2.2.2.1 p hp
    have b := sm_nn (n := 13) (g := kn f p) (fun i hi => (hV.2.2.1 p i hp hi).1)
    show f (229 + p) ≤ sm 13 (hd f p)
    omega)
  have w := hV.all52
  have := hO.1
  omega

