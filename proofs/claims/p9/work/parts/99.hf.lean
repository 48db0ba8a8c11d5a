/-! The game's single steps, on the reference's row and on the class's cells. -/
theorem GR.fr {σ σ' : xS} {f : Nat → Int} {ts js : List Nat} (H : GR σ f) (hF : Fr ts js σ σ') (ht : ∀ t ∈ ts, t < 1 ∨ t = 1 ∨ 12 < t := by decide) (hj : ∀ j ∈ js, ¬ (j < 4 ∨ j = 8 ∨ j = 9 ∨ (15 ≤ j ∧ j < 17)) := by decide) : GR σ' f := by
  obtain ⟨hM, hC, ⟨hH, h7⟩, ⟨hO, hn⟩, hX⟩ := H
  have e : ∀ t : Nat, 2 ≤ t → t ≤ 12 → σ' t = σ t := fun t h1 h2 => hF.1 t (by omega) (fun z => by have := ht t z; omega)
  refine ⟨hM.of (fun j h => hF.2 j (fun z => hj j z (by omega))) (fun j _ => by rw [e 2 (by decide) (by decide)]) (fun j _ => by rw [e 5 (by decide) (by decide)]) (fun j _ => by rw [e 10 (by decide) (by decide)]) (fun j _ => by rw [e 12 (by decide) (by decide)]) (fun j _ => by rw [e 6 (by decide) (by decide)]) (fun j _ => by rw [e 7 (by decide) (by decide)]) (fun j _ => by rw [e 8 (by decide) (by decide)]), hC.of (fun j _ => by rw [e 3 (by decide) (by decide)]) (fun _ _ _ => rfl), ⟨hH.of (hF.2 8 (fun z => hj 8 z (by omega))) (hF.2 9 (fun z => hj 9 z (by omega))) (e 4 (by decide) (by decide)) h7 (fun _ _ _ => rfl), h7⟩, ?_, hX.of (hF.2 9 (fun z => hj 9 z (by omega))) (e 4 (by decide) (by decide))⟩
  rw [e 11 (by decide) (by decide), e 9 (by decide) (by decide)]
  exact ⟨hO, hn⟩
/-- only the cells 0 .. 12 count -/
theorem GR.ce {σ σ' : xS} {f : Nat → Int} (H : GR σ f) (e : ∀ t, t ≤ 12 → σ' t = σ t) : GR σ' f := by
  obtain ⟨hM, hC, ⟨hH, h7⟩, ⟨hO, hn⟩, hX⟩ := H
  have e0 := e 0 (by decide)
  refine ⟨hM.of (fun j _ => by rw [e0]) (fun j _ => by rw [e 2 (by decide)]) (fun j _ => by rw [e 5 (by decide)]) (fun j _ => by rw [e 10 (by decide)]) (fun j _ => by rw [e 12 (by decide)]) (fun j _ => by rw [e 6 (by decide)]) (fun j _ => by rw [e 7 (by decide)]) (fun j _ => by rw [e 8 (by decide)]), hC.of (fun j _ => by rw [e 3 (by decide)]) (fun _ _ _ => rfl), ⟨hH.of (by rw [e0]) (by rw [e0]) (e 4 (by decide)) h7 (fun _ _ _ => rfl), h7⟩, ?_, hX.of (by rw [e0]) (e 4 (by decide))⟩
  rw [e 11 (by decide), e 9 (by decide)]
  exact ⟨hO, hn⟩
theorem t12 {P : Nat → Prop} (h0 : P 0) (h1 : P 1) (h2 : P 2) (h3 : P 3) (h4 : P 4) (h5 : P 5) (h6 : P 6) (h7 : P 7) (h8 : P 8) (h9 : P 9) (h10 : P 10) (h11 : P 11) (h12 : P 12) : ∀ t, t ≤ 12 → P t := fun t ht => by
  have h : t = 0 ∨ t = 1 ∨ t = 2 ∨ t = 3 ∨ t = 4 ∨ t = 5 ∨ t = 6 ∨ t = 7 ∨ t = 8 ∨ t = 9 ∨ t = 10 ∨ t = 11 ∨ t = 12 := by omega
  rcases h with rfl | rfl | rfl | rfl | rfl | rfl | rfl | rfl | rfl | rfl | rfl | rfl | rfl <;> assumption
theorem GR.sel {σ : xS} {f : Nat → Int} (H : GR σ f) : GR (xsel [0, 1, 2, 3, 4, 5, 6, 7, 8, 9, 10, 11, 12] σ) f := H.ce (t12 rfl rfl rfl rfl rfl rfl rfl rfl rfl rfl rfl rfl rfl)
theorem GR.bk {σ ς : xS} {f : Nat → Int} (H : GR ς f) : GR (xbk [0, 1, 2, 3, 4, 5, 6, 7, 8, 9, 10, 11, 12] σ ς) f := H.ce (t12 rfl rfl rfl rfl rfl rfl rfl rfl rfl rfl rfl rfl rfl)
/-- one number changes -/
theorem GR.num {σ : xS} {f : Nat → Int} {i t j : Nat} {c v w : Int} (H : GR σ f) (h : mp i = some (t, j, c)) (hw : w = v + c) (ht : t ≠ 3 ∧ t ≠ 4 ∧ t ≠ 9 ∧ t ≠ 11) (hi : i < 7 ∨ 547 ≤ i ∨ (138 ≤ i ∧ i < 229)) : GR (xput σ t j w) (up f i v) := by
  obtain ⟨hM, hC, ⟨hH, h7⟩, ⟨hO, hn⟩, hX⟩ := H
  have hc := mp_c h
  have h89 : ∀ k, k = 8 ∨ k = 9 → xput σ t j w 0 k = σ 0 k := fun k hk => by
    unfold xput
    by_cases e : 0 = t
    · rw [if_pos e, if_neg (by omega)]
    · rw [if_neg e]
  refine ⟨hM.up h hw, hC.of (fun j _ => by rw [xput_ne (Ne.symm ht.1)]) (fun k a b => up_n (by omega)), ⟨hH.of (h89 8 (Or.inl rfl)) (h89 9 (Or.inr rfl)) (xput_ne (Ne.symm ht.2.1)) h7 (fun k a b => up_n (by omega)), by rw [up_n (by omega)]; exact h7⟩, ?_, hX.of (h89 9 (Or.inr rfl)) (xput_ne (Ne.symm ht.2.1))⟩
  rw [xput_ne (Ne.symm ht.2.2.2), xput_ne (Ne.symm ht.2.2.1)]
  exact ⟨hO.c (fun _ _ => rfl) (fun k a b => up_n (by omega)) (fun q hq => (hO.w hn q hq).2), hn⟩
/-- a cell of one kind is written whole -/
theorem GR.cell {σ σ' : xS} {f : Nat → Int} {i t j : Nat} {c v w : Int} {ts : List Nat} (H : GR σ f) (h : mp i = some (t, j, c)) (hw : w = v + c) (ht : t ≠ 3 ∧ t ≠ 4 ∧ t ≠ 9 ∧ t ≠ 11) (hi : i < 7 ∨ 547 ≤ i ∨ (138 ≤ i ∧ i < 229)) (hF : Fr ts [] σ σ') (hts : ∀ u ∈ ts, u = t) (h0 : t ≠ 0) (e : σ' t = up (σ t) j w) : GR σ' (up f i v) := by
  have z := H.num h hw ht hi
  refine z.fr (ts := []) (js := []) ⟨fun u hu _ => ?_, fun k _ => ?_⟩
  · by_cases k : u = t
    · rw [k, e, xput_up]
    · rw [xput_ne k]; exact hF.1 u hu (fun m => k (hts u m))
  · rw [xput_ne (Ne.symm h0)]; exact hF.2 k (by simp)
theorem mp_x {i t : Nat} {c : Int} {lo : Nat} (a : Nat) (h : mp (lo + a) = some (t, a, c)) : mp (lo + a) = some (t, a, c) := h
theorem mp_hd {j : Nat} (h : j < 78) : mp (60 + j) = some (2, j, 0) := by
  unfold mp
  repeat (first | rw [if_pos (by omega)] | rw [if_neg (by omega)])
  rw [show 60 + j - 60 = j from by omega]
theorem mp_bk {j : Nat} (h : j < 13) : mp (138 + j) = some (5, j, -1) := by
  unfold mp
  repeat (first | rw [if_pos (by omega)] | rw [if_neg (by omega)])
  rw [show 138 + j - 138 = j from by omega]
theorem mp_as {j : Nat} (h : j < 6) : mp (553 + j) = some (6, j, 0) := by
  unfold mp
  repeat (first | rw [if_pos (by omega)] | rw [if_neg (by omega)])
  rw [show 553 + j - 553 = j from by omega]
theorem mp_gv {j : Nat} (h : j < 6) : mp (559 + j) = some (7, j, 0) := by
  unfold mp
  repeat (first | rw [if_pos (by omega)] | rw [if_neg (by omega)])
  rw [show 559 + j - 559 = j from by omega]
theorem mp_dr {j : Nat} (h : j < 6) : mp (565 + j) = some (8, j, -1) := by
  unfold mp
  repeat (first | rw [if_pos (by omega)] | rw [if_neg (by omega)])
  rw [show 565 + j - 565 = j from by omega]
theorem GR.vk {σ : xS} {f : Nat → Int} (H : GR σ f) {p kind : Int} (hp : 0 ≤ p ∧ p ≤ 5) (hk : 0 ≤ kind ∧ kind ≤ 12) : σ 10 (13 * p + kind).toNat = f (151 + 13 * p.toNat + kind.toNat) := by
  have z := H.1 _ _ _ _ (mp_kn (j := 13 * p.toNat + kind.toNat) (by omega))
  rw [← Nat.add_assoc] at z
  rw [show (13 * p + kind).toNat = 13 * p.toNat + kind.toNat from by omega]
  omega
theorem GR.vh {σ : xS} {f : Nat → Int} (H : GR σ f) {p kind : Int} (hp : 0 ≤ p ∧ p ≤ 5) (hk : 0 ≤ kind ∧ kind ≤ 12) : σ 2 (13 * p + kind).toNat = f (60 + 13 * p.toNat + kind.toNat) := by
  have z := H.1 _ _ _ _ (mp_hd (j := 13 * p.toNat + kind.toNat) (by omega))
  rw [← Nat.add_assoc] at z
  rw [show (13 * p + kind).toNat = 13 * p.toNat + kind.toNat from by omega]
  omega
theorem GR.n0 {σ : xS} {f : Nat → Int} (H : GR σ f) {i : Nat} (hi : i < 4) : σ 0 i = f i := by
  have z := H.1 i 0 i 0 (if_pos hi)
  omega
theorem GR.n1 {σ : xS} {f : Nat → Int} (H : GR σ f) {i : Nat} (hi : 5 ≤ i ∧ i < 7) : σ 0 (i + 10) = f i := by
  have z := H.1 i 0 (i + 10) 0 (by unfold mp; rw [if_neg (by omega), if_neg (by omega), if_pos hi.2])
  omega
theorem GR.hs {σ : xS} {f : Nat → Int} (H : GR σ f) : σ 0 9 - σ 0 8 = f 7 := H.2.2.1.1.1.2
theorem GR.h0 {σ : xS} {f : Nat → Int} (H : GR σ f) (h : 1 ≤ f 7) : σ 4 (σ 0 8).toNat = f 8 := H.2.2.1.1.2 0 (by omega)
/-- cards of p -/
def cd (f : Nat → Int) (p : Nat) : Int := sm 13 (hd f p)
theorem GR.vc {σ : xS} {f : Nat → Int} (H : GR σ f) {p : Int} (hp : 0 ≤ p ∧ p ≤ 5) : σ 3 p.toNat = cd f p.toNat := H.2.1 p.toNat (by omega)
/-- what is known of a kind -/
theorem GR.known {σ σ' : xS} {f : Nat → Int} {p kind v : Int} (H : GR σ f) (hp : 0 ≤ p ∧ p ≤ 5) (hk : 0 ≤ kind ∧ kind ≤ 12) (hF : Fr [10] [] σ σ') (e : σ' 10 = up (σ 10) (13 * p + kind).toNat v) : GR σ' (up f (151 + 13 * p.toNat + kind.toNat) v) := by
  have hm := mp_kn (j := 13 * p.toNat + kind.toNat) (by omega)
  rw [← Nat.add_assoc] at hm
  rw [show (13 * p + kind).toNat = 13 * p.toNat + kind.toNat from by omega] at e
  exact H.cell hm (by omega) (by decide) (by omega) hF (by simp) (by decide) e
/-- a hand -/
theorem GR.hand {σ σ' : xS} {f : Nat → Int} {p kind n : Int} (H : GR σ f) (hp : 0 ≤ p ∧ p ≤ 5) (hk : 0 ≤ kind ∧ kind ≤ 12) (hF : Fr [2, 3] [] σ σ') (e2 : σ' 2 = up (σ 2) (13 * p + kind).toNat (σ 2 (13 * p + kind).toNat + n)) (e3 : σ' 3 = up (σ 3) p.toNat (σ 3 p.toNat + n)) : GR σ' (up f (60 + 13 * p.toNat + kind.toNat) (f (60 + 13 * p.toNat + kind.toNat) + n)) := by
  have hv := H.vh hp hk
  obtain ⟨hM, hC, ⟨hH, h7⟩, ⟨hO, hn⟩, hX⟩ := H
  have hm := mp_hd (j := 13 * p.toNat + kind.toNat) (by omega)
  rw [← Nat.add_assoc] at hm
  have ix : (13 * p + kind).toNat = 13 * p.toNat + kind.toNat := by omega
  have hG := hM.up (v := f (60 + 13 * p.toNat + kind.toNat) + n) (w := f (60 + 13 * p.toNat + kind.toNat) + n) hm (by omega)
  have o : ∀ k, k ≠ 60 + 13 * p.toNat + kind.toNat → up f (60 + 13 * p.toNat + kind.toNat) (f (60 + 13 * p.toNat + kind.toNat) + n) k = f k := fun k hk => up_n hk
  have e : ∀ t : Nat, 4 ≤ t → t ≤ 12 → σ' t = σ t := fun t h1 h2 => hF.1 t (by omega) (by simp only [List.mem_cons, List.not_mem_nil, or_false]; omega)
  refine ⟨hG.of (fun j _ => (hF.2 j (by simp)).trans (by rw [xput_ne (by decide)])) (fun j _ => by rw [e2, ix, ← hv, ix, xput_up]) (fun j _ => by rw [e 5 (by decide) (by decide), xput_ne (by decide)]) (fun j _ => by rw [e 10 (by decide) (by decide), xput_ne (by decide)]) (fun j _ => by rw [e 12 (by decide) (by decide), xput_ne (by decide)]) (fun j _ => by rw [e 6 (by decide) (by decide), xput_ne (by decide)]) (fun j _ => by rw [e 7 (by decide) (by decide), xput_ne (by decide)]) (fun j _ => by rw [e 8 (by decide) (by decide), xput_ne (by decide)]), hC.up (p := p.toNat) (k := kind.toNat) (n := n) (by omega) (by omega) (by rw [e3, up_s]) (fun q _ hq => by rw [e3, up_n hq]) (up_s) (fun i _ _ hi => o i hi), ⟨hH.of (hF.2 8 (by simp)) (hF.2 9 (by simp)) (e 4 (by decide) (by decide)) h7 (fun i a b => o i (by omega)), by rw [o 7 (by omega)]; exact h7⟩, ?_, hX.of (hF.2 9 (by simp)) (e 4 (by decide) (by decide))⟩
  rw [e 11 (by decide) (by decide), e 9 (by decide) (by decide)]
  exact ⟨hO.c (fun _ _ => rfl) (fun i a b => o i (by omega)) (fun q hq => (hO.w hn q hq).2), hn⟩
/-- the others change, nothing else -/
theorem GR.oth {σ σ' : xS} {f f' : Nat → Int} (H : GR σ f) (hF : Fr [9, 11] [] σ σ') (hf : ∀ i, i < 229 ∨ 547 ≤ i → f' i = f i) (hO' : OTR (σ' 11) (σ' 9 2) f') (hn' : σ' 9 2 ≤ 52) : GR σ' f' := by
  obtain ⟨hM, hC, ⟨hH, h7⟩, ⟨hO, hn⟩, hX⟩ := H
  refine ⟨(hM.fr hF).ag (fun i hi => hf i (by omega)), hC.of (fun j _ => by rw [hF.1 3 (by decide) (by decide)]) (fun i a b => hf i (by omega)), ⟨hH.of (hF.2 8 (by simp)) (hF.2 9 (by simp)) (hF.1 4 (by decide) (by decide)) h7 (fun i a b => hf i (by omega)), by rw [hf 7 (by omega)]; exact h7⟩, ⟨hO', hn'⟩, hX.of (hF.2 9 (by simp)) (hF.1 4 (by decide) (by decide))⟩
/-- one other more -/
theorem GR.add {σ σ' : xS} {f : Nat → Int} {p : Int} (H : GR σ f) (hp : 0 ≤ p ∧ p ≤ 5) (h51 : σ 9 2 ≤ 51) (hF : Fr [9, 11] [] σ σ') (e : σ' 9 2 = σ 9 2 + 1 ∧ σ' 11 = up (σ 11) (σ 9 2).toNat (8192 * p)) : GR σ' (addsF f p.toNat 0) := by
  have hw := H.w
  have hO := H.2.2.2.1.1
  have hp6 : p.toNat < 6 := by omega
  have h51' : f (229 + p.toNat) ≤ 51 := by
    have z := rk_nn (h := σ 11) (p := p.toNat) (σ 9 2).toNat
    rw [hO.2.1 p.toNat hp6] at z
    have := hO.1
    omega
  have hO2 := hO.add (p := p.toNat) hp6 ⟨(hw _ hp6).1, h51'⟩ (fun q hq => (hw q hq).2)
  rw [show ((p.toNat : Nat) : Int) = p from by omega] at hO2
  have hw' := hw _ hp6
  exact H.oth hF (fun i hi => addsF_o (by omega) (by omega)) (by rw [e.1, e.2]; exact hO2) (by omega)
/-- a kind is barred -/
theorem GR.bar {σ σ' : xS} {f : Nat → Int} {p kind : Int} (H : GR σ f) (hp : 0 ≤ p ∧ p ≤ 5) (hk : 0 ≤ kind ∧ kind ≤ 12) (hF : Fr [11] [] σ σ') (e : ∀ j : Nat, (j : Int) < σ 9 2 → σ' 11 j = if ow (σ 11 j) = p then orF (σ 11 j) kind else σ 11 j) : GR σ' (barsF f p.toNat (fun m => orF m kind)) := by
  have hw := H.w
  have hO := H.2.2.2.1.1
  have hn := H.2.2.2.1.2
  have e9 : σ' 9 = σ 9 := hF.1 9 (by decide) (by decide)
  refine H.oth (Fr.tr Fr.rf hF (by decide) (by decide)) (fun i hi => ?_) ?_ (by rw [e9]; exact hn)
  · unfold barsF
    have := hw p.toNat (by omega)
    rw [if_neg (by omega)]
  · rw [e9]
    refine hO.bar (p := p.toNat) (by omega) (fun q hq => (hw q hq).2) (fun i hi => ?_)
    have h0 : 0 ≤ σ 11 i := by
      obtain ⟨q, hq, a, b⟩ := hO.2.2 i hi
      unfold ow at a
      omega
    rw [e i hi, show ((p.toNat : Nat) : Int) = p from by omega]
    by_cases c : ow (σ 11 i) = p
    · rw [if_pos c, if_pos c]; exact orF_o h0 hk
    · rw [if_neg c, if_neg c]; exact ⟨rfl, rfl⟩
/-- the first card of the heap goes -/
def popF (f : Nat → Int) : Nat → Int := fun j => if j = 7 then f 7 - 1 else if 8 ≤ j ∧ (j : Int) < 8 + (f 7 - 1) then f (j + 1) else f j
theorem popF_o {f : Nat → Int} {j : Nat} (h7 : f 7 ≤ 52) (h : j < 7 ∨ 60 ≤ j) : popF f j = f j := by
  unfold popF
  rw [if_neg (by omega), if_neg (by omega)]
theorem GR.pop {σ : xS} {f : Nat → Int} {z : Int} (H : GR σ f) (h1 : 1 ≤ f 7) (hz : z = σ 0 8 + 1) : GR (xput σ 0 8 z) (popF f) := by
  obtain ⟨hM, hC, ⟨hH, h7⟩, ⟨hO, hn⟩, hX⟩ := H
  have n0 : ∀ t, t ≠ 0 → xput σ 0 8 z t = σ t := fun t ht => xput_ne ht
  have e0 : ∀ j, j ≠ 8 → xput σ 0 8 z 0 j = σ 0 j := fun j hj => xput_o hj
  refine ⟨(hM.of (fun j h => e0 j (by omega)) (fun j _ => by rw [n0 2 (by decide)]) (fun j _ => by rw [n0 5 (by decide)]) (fun j _ => by rw [n0 10 (by decide)]) (fun j _ => by rw [n0 12 (by decide)]) (fun j _ => by rw [n0 6 (by decide)]) (fun j _ => by rw [n0 7 (by decide)]) (fun j _ => by rw [n0 8 (by decide)])).ag (fun i hi => popF_o h7 (by omega)), hC.of (fun j _ => by rw [n0 3 (by decide)]) (fun i a b => popF_o h7 (by omega)), ⟨hH.pop h1 (by rw [xput_s, hz]) (e0 9 (by decide)) (n0 4 (by decide)) (if_pos rfl) (fun i hi => ?_), ?_⟩, ?_, hX.of (e0 9 (by decide)) (n0 4 (by decide))⟩
  · unfold popF
    rw [if_neg (by omega), if_pos ⟨by omega, by omega⟩]
  · show (if 7 = 7 then f 7 - 1 else _) ≤ 52
    rw [if_pos rfl]; omega
  · rw [n0 11 (by decide), n0 9 (by decide)]
    exact ⟨hO.c (fun _ _ => rfl) (fun i a b => popF_o h7 (by omega)) (fun q hq => (hO.w hn q hq).2), hn⟩
theorem GR.ko {σ : xS} {f : Nat → Int} (H : GR σ f) : ∀ i : Nat, (i : Int) < σ 9 2 → 0 ≤ σ 11 i ∧ σ 11 i < 49152 := fun i hi => by
  obtain ⟨q, hq, a, b⟩ := H.2.2.2.1.1.2.2 i hi
  unfold ow at a
  omega
