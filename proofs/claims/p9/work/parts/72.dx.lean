/-! A deal: how many of a kind lie in the pack's first places. -/
def pcx (pk : Nat → Int) (n : Nat) (k : Nat) : Int := sm n (fun i => if pk i = (k : Int) then 1 else 0)
theorem pcx_s {pk : Nat → Int} {n k : Nat} : pcx pk (n + 1) k = pcx pk n k + (if pk n = (k : Int) then 1 else 0) := rfl
theorem pcx_le {pk : Nat → Int} {n m k : Nat} (h : n ≤ m) : pcx pk n k ≤ pcx pk m k := sm_mono (fun i _ => by split <;> omega) h
theorem pcx_eq {pk pk' : Nat → Int} {n k : Nat} (h : ∀ i, i < n → pk' i = pk i) : pcx pk' n k = pcx pk n k := sm_congr (fun i hi => by rw [h i hi])
theorem pcx_new {pk : Nat → Int} {K : Nat} (h : ∀ i : Nat, i < 4 * K → pk i = ((i / 4 : Nat) : Int)) (k : Nat) : pcx pk (4 * K) k = if k < K then 4 else 0 := by
  induction K with
  | zero => rw [if_neg (by omega)]; rfl
  | succ K ih =>
    have e : pcx pk (4 * (K + 1)) k = pcx pk (4 * K) k + (if pk (4 * K) = (k : Int) then 1 else 0) + (if pk (4 * K + 1) = (k : Int) then 1 else 0) + (if pk (4 * K + 2) = (k : Int) then 1 else 0) + (if pk (4 * K + 3) = (k : Int) then 1 else 0) := rfl
    rw [e, ih (fun i hi => h i (by omega)), h (4 * K) (by omega), h (4 * K + 1) (by omega), h (4 * K + 2) (by omega), h (4 * K + 3) (by omega), show 4 * K / 4 = K from by omega, show (4 * K + 1) / 4 = K from by omega, show (4 * K + 2) / 4 = K from by omega, show (4 * K + 3) / 4 = K from by omega]
    by_cases c : K = k
    · rw [if_neg (show ¬ k < K from by omega), if_pos (show (K : Int) = (k : Int) from by omega), if_pos (show k < K + 1 from by omega)]; omega
    · rw [if_neg (show ¬ (K : Int) = (k : Int) from by omega)]
      by_cases d : k < K
      · rw [if_pos d, if_pos (by omega)]; omega
      · rw [if_neg d, if_neg (by omega)]; omega
theorem pcx_swap {pk pk' : Nat → Int} {n i j k : Nat} (hi : i < n) (hj : j < n) (e1 : pk' j = pk i) (e2 : i ≠ j → pk' i = pk j) (s : ∀ q, q ≠ i → q ≠ j → pk' q = pk q) : pcx pk' n k = pcx pk n k := by
  have h1 := sm_upd (n := n) (g := fun q => if pk q = (k : Int) then (1 : Int) else 0) (g' := fun q => if up pk i (pk j) q = (k : Int) then (1 : Int) else 0) (j := i) hi (fun q _ hq => by rw [up_n hq])
  have h2 := sm_upd (n := n) (g := fun q => if up pk i (pk j) q = (k : Int) then (1 : Int) else 0) (g' := fun q => if pk' q = (k : Int) then (1 : Int) else 0) (j := j) hj (fun q _ hq => by
    by_cases c : q = i
    · subst c; rw [up_s, e2 hq]
    · rw [up_n c, s q c hq])
  have h3 : up pk i (pk j) j = pk j := by
    by_cases c : j = i
    · rw [c, up_s]
    · rw [up_n c]
  rw [up_s] at h1
  rw [h3, e1] at h2
  unfold pcx
  rw [h2, h1]
  omega
/-- i cards of the pack are dealt -/
def DL (f pk : Nat → Int) (i : Nat) : Prop := VM f ∧ VH f ∧ VK f ∧ (∀ k, k < 13 → f (138 + k) = 0 ∧ f (571 + k) = (if (k : Int) < f 0 then 4 else 0) ∧ sm 6 (fun p => hd f p k) + ct f (f 7).toNat k = pcx pk i k) ∧ VD f ∧ (∀ p k, p < 6 → k < 13 → kn f p k = 0) ∧ (∀ p : Nat, p < 6 → f (229 + p) = 0) ∧ f 6 = 0
theorem DL.vs {f pk : Nat → Int} {n : Nat} (h : DL f pk n) (e : ∀ k, k < 13 → pcx pk n k = if (k : Int) < f 0 then 4 else 0) : VS 0 f ∧ f 6 = 0 := by
  obtain ⟨h1, h2, h3, h4, h5, h6, h7, h8⟩ := h
  refine ⟨⟨h1, h2, h3, fun k hk => ?_, h5, h6, fun p hp => by rw [if_neg (by omega)]; exact h7 p hp⟩, h8⟩
  have a := h4 k hk
  rw [a.1, a.2.1]
  refine ⟨⟨by omega, by omega, by split <;> omega⟩, ?_⟩
  rw [if_neg (by omega)]
  have := a.2.2
  rw [e k hk] at this
  omega
theorem DL.b {f pk : Nat → Int} {i n : Nat} (h : DL f pk i) (hn : i ≤ n) (e : ∀ k, k < 13 → pcx pk n k ≤ 4) {p k : Nat} (hp : p < 6) (hk : k < 13) : 0 ≤ hd f p k ∧ hd f p k ≤ 4 := by
  obtain ⟨h1, h2, h3, h4, h5, h6, h7, h8⟩ := h
  have a := (h4 k hk).2.2
  have b := pcx_le (pk := pk) (k := k) hn
  have c := e k hk
  have h0 : ∀ i, i < 6 → 0 ≤ (fun p => hd f p k) i := fun i hi => by have := h3 i k hi hk; dsimp only; omega
  have d := sm_ge (n := 6) (g := fun p => hd f p k) h0 hp
  have g : 0 ≤ ct f (f 7).toNat k := sm_nn (fun i _ => by split <;> omega)
  have q := h3 p k hp hk
  omega
theorem DL.hand {f f' pk : Nat → Int} {i : Nat} (h : DL f pk i) {p c : Int} (hp : 0 ≤ p ∧ p < f 1) (hc : 0 ≤ c ∧ c < f 0) (hpk : pk i = c) (a : AG (up f (60 + 13 * p + c).toNat (f (60 + 13 * p + c).toNat + 1)) f') : DL f' pk (i + 1) := by
  obtain ⟨h1, h2, h3, h4, h5, h6, h7, h8⟩ := h
  have m0 := h1.1
  have m1 := h1.2.1
  have m7 := h1.2.2.2
  have e2 : (60 + 13 * p + c).toNat = 60 + 13 * p.toNat + c.toNat := by omega
  rw [e2] at a
  have s' : ∀ q, ¬ q = 2 → ¬ q = 5 → (q < 235 ∨ 565 ≤ q) → q ≠ 60 + 13 * p.toNat + c.toNat → f' q = f q := fun q a1 a2 a3 a4 => by rw [a q (nir a1 a2 a3), up_n a4]
  have eN : hd f' p.toNat c.toNat = hd f p.toNat c.toNat + 1 := by unfold hd; rw [a _ (nir (by omega) (by omega) (by omega)), up_s]
  have e0 : f' 0 = f 0 := s' 0 (by omega) (by omega) (by omega) (by omega)
  have e1 : f' 1 = f 1 := s' 1 (by omega) (by omega) (by omega) (by omega)
  have e3 : f' 3 = f 3 := s' 3 (by omega) (by omega) (by omega) (by omega)
  have e7 : f' 7 = f 7 := s' 7 (by omega) (by omega) (by omega) (by omega)
  have eH : ∀ q j, q < 6 → j < 13 → ¬ (q = p.toNat ∧ j = c.toNat) → hd f' q j = hd f q j := fun q j hq hj hne => s' _ (by omega) (by omega) (by omega) (by omega)
  have eK : ∀ q j, q < 6 → j < 13 → kn f' q j = kn f q j := fun q j hq hj => s' _ (by omega) (by omega) (by omega) (by omega)
  refine ⟨?_, ?_, ?_, ?_, ?_, ?_, ?_, ?_⟩
  · unfold VM; rw [e0, e1, e3, e7]; exact h1
  · intro q hq
    rw [e7] at hq
    rw [e0, s' (8 + q) (by omega) (by omega) (by omega) (by omega)]; exact h2 q hq
  · intro q j hq hj
    rw [eK q j hq hj, e0, e1]
    have z := h3 q j hq hj
    by_cases e : q = p.toNat ∧ j = c.toNat
    · obtain ⟨rfl, rfl⟩ := e
      rw [eN]
      exact ⟨z.1, by omega, fun hx => by omega⟩
    · rw [eH q j hq hj e]; exact z
  · intro j hj
    have z := h4 j hj
    rw [s' (138 + j) (by omega) (by omega) (by omega) (by omega), s' (571 + j) (by omega) (by omega) (by omega) (by omega), e0, e7, ct_congr (f := f) (f' := f') (fun q hq => s' (8 + q) (by omega) (by omega) (by omega) (by omega)), pcx_s, hpk]
    refine ⟨z.1, z.2.1, ?_⟩
    by_cases e : j = c.toNat
    · subst e
      rw [sm_upd (n := 6) (g := fun p => hd f p c.toNat) (g' := fun p => hd f' p c.toNat) (j := p.toNat) (by omega) (fun q hq hne => eH q _ hq hj (by omega)), eN, if_pos (by omega)]
      have := z.2.2
      omega
    · rw [sm_congr (n := 6) (g := fun p => hd f' p j) (g' := fun p => hd f p j) (fun q hq => eH q j hq hj (by omega)), if_neg (by omega)]
      have := z.2.2
      omega
  · intro q hq; rw [s' (565 + q) (by omega) (by omega) (by omega) (by omega)]; exact h5 q hq
  · intro q j hq hj; rw [eK q j hq hj]; exact h6 q j hq hj
  · intro q hq; rw [s' (229 + q) (by omega) (by omega) (by omega) (by omega)]; exact h7 q hq
  · rw [s' 6 (by omega) (by omega) (by omega) (by omega)]; exact h8
theorem DL.heap {f f' pk : Nat → Int} {i : Nat} (h : DL f pk i) {c : Int} (hc : 0 ≤ c ∧ c < f 0) (h51 : f 7 ≤ 51) (hpk : pk i = c) (e7 : f' 7 = f 7 + 1) (e8 : f' (8 + (f 7).toNat) = c) (s' : ∀ q, q ≠ 7 → q ≠ 8 + (f 7).toNat → f' q = f q) : DL f' pk (i + 1) := by
  obtain ⟨h1, h2, h3, h4, h5, h6, h7, h8⟩ := h
  have m0 := h1.1
  have m7 := h1.2.2.2
  have e0 : f' 0 = f 0 := s' 0 (by omega) (by omega)
  have e1 : f' 1 = f 1 := s' 1 (by omega) (by omega)
  have e3 : f' 3 = f 3 := s' 3 (by omega) (by omega)
  have eH : ∀ q j, q < 6 → j < 13 → hd f' q j = hd f q j := fun q j hq hj => s' _ (by omega) (by omega)
  have eK : ∀ q j, q < 6 → j < 13 → kn f' q j = kn f q j := fun q j hq hj => s' _ (by omega) (by omega)
  refine ⟨?_, ?_, ?_, ?_, ?_, ?_, ?_, ?_⟩
  · unfold VM; rw [e0, e1, e3, e7]; exact ⟨h1.1, h1.2.1, h1.2.2.1, by omega⟩
  · intro q hq
    rw [e7] at hq
    rw [e0]
    by_cases d : q = (f 7).toNat
    · subst d; rw [e8]; exact hc
    · rw [s' (8 + q) (by omega) (by omega)]; exact h2 q (by omega)
  · intro q j hq hj
    rw [eK q j hq hj, eH q j hq hj, e0, e1]; exact h3 q j hq hj
  · intro j hj
    have z := h4 j hj
    rw [s' (138 + j) (by omega) (by omega), s' (571 + j) (by omega) (by omega), e0, e7, show (f 7 + 1).toNat = (f 7).toNat + 1 from by omega, sm_congr (n := 6) (g := fun p => hd f' p j) (g' := fun p => hd f p j) (fun q hq => eH q j hq hj), pcx_s, hpk]
    have ec : ct f' ((f 7).toNat + 1) j = ct f' (f 7).toNat j + (if f' (8 + (f 7).toNat) = j then 1 else 0) := rfl
    rw [ec, e8, ct_congr (f := f) (f' := f') (fun q hq => s' (8 + q) (by omega) (by omega))]
    refine ⟨z.1, z.2.1, ?_⟩
    have := z.2.2
    omega
  · intro q hq; rw [s' (565 + q) (by omega) (by omega)]; exact h5 q hq
  · intro q j hq hj; rw [eK q j hq hj]; exact h6 q j hq hj
  · intro q hq; rw [s' (229 + q) (by omega) (by omega)]; exact h7 q hq
  · rw [s' 6 (by omega) (by omega)]; exact h8
theorem DL.new {f pk : Nat → Int} (h0 : 0 ≤ f 0 ∧ f 0 ≤ 13) (h1 : 0 ≤ f 1 ∧ f 1 ≤ 6) (h3 : 0 ≤ f 3 ∧ f 3 ≤ 9) (z : ∀ q, 4 ≤ q → q < 571 → f q = 0) (hp : ∀ k, k < 13 → f (571 + k) = if (k : Int) < f 0 then 4 else 0) : DL f pk 0 := by
  have z7 := z 7 (by omega) (by omega)
  refine ⟨⟨h0, h1, h3, by omega⟩, fun q hq => by omega, fun p k hp hk => ?_, fun k hk => ⟨z _ (by omega) (by omega), hp k hk, ?_⟩, fun p hp => by rw [z (565 + p) (by omega) (by omega)]; omega, fun p k hp hk => z _ (by omega) (by omega), fun p hp => z _ (by omega) (by omega), z 6 (by omega) (by omega)⟩
  · have a : hd f p k = 0 := z _ (by omega) (by omega)
    have b : kn f p k = 0 := z _ (by omega) (by omega)
    rw [a, b]; exact ⟨by omega, by omega, fun _ => rfl⟩
  · rw [z7, sm_z (n := 6) (g := fun p => hd f p k) (fun p hp => z (60 + 13 * p + k) (by omega) (by omega))]; rfl
theorem div_lt {i n P : Int} (h0 : 0 ≤ i) (hn : 1 ≤ n) (h : i < n * P) : 0 ≤ i / n ∧ i / n < P := ⟨Int.ediv_nonneg h0 (by omega), Int.ediv_lt_of_lt_mul (by omega) (by rw [Int.mul_comm]; exact h)⟩
