/-! Dealing: the shuffle and the rows. -/
def nxs (x : Int) : Int := wr (wr (x * 1103515245) + 12345)
def us8 (x : Int) : Int := ((Int32.ofInt x).toUInt32 >>> ((Int32.ofInt 8).toUInt32 &&& Int32.toUInt32 31)).toInt32.toInt
def swp (h : Nat → Int) (i j : Nat) : Nat → Int := up (up h i (h j)) j (h i)
/-- the places i .. 1 are still to be drawn for -/
def shu (h : Nat → Int) (x : Int) : Nat → Nat → Int
  | 0 => h
  | i + 1 => shu (swp h (i + 1) (us8 (nxs x) % ((i : Int) + 2)).toNat) (nxs x) i
theorem shu_s {h : Nat → Int} {x : Int} {i : Nat} : shu h x (i + 1) = shu (swp h (i + 1) (us8 (nxs x) % ((i : Int) + 2)).toNat) (nxs x) i := rfl
/-- only the first n places count -/
def AGn (h g : Nat → Int) (n : Int) : Prop := ∀ q : Nat, (q : Int) < n → h q = g q
theorem AGn.swq {h g : Nat → Int} {n : Int} {i j : Nat} (H : AGn h g n) (hi : (i : Int) < n) (hj : (j : Int) < n) : AGn (swp h i j) (swp g i j) n := fun q hq => by
  show up (up h i (h j)) j (h i) q = up (up g i (g j)) j (g i) q
  by_cases c : q = j
  · rw [c, up_s, up_s]; exact H i hi
  · rw [up_n c, up_n c]
    by_cases d : q = i
    · rw [d, up_s, up_s]; exact H j hj
    · rw [up_n d, up_n d]; exact H q hq
/-- each kind four times -/
def PKx (h : Nat → Int) (K : Int) : Prop := (∀ q : Nat, (q : Int) < 4 * K → 0 ≤ h q ∧ h q < K) ∧ ∀ k : Nat, k < 13 → pcx h (4 * K).toNat k = if (k : Int) < K then 4 else 0
theorem PKx.swq {h : Nat → Int} {K : Int} {i j : Nat} (H : PKx h K) (hi : (i : Int) < 4 * K) (hj : (j : Int) < 4 * K) : PKx (swp h i j) K := by
  obtain ⟨a, b⟩ := H
  have eJ : up (up h i (h j)) j (h i) j = h i := up_s
  have eI : i ≠ j → up (up h i (h j)) j (h i) i = h j := fun c => by rw [up_n c, up_s]
  have eS : ∀ q, q ≠ i → q ≠ j → up (up h i (h j)) j (h i) q = h q := fun q c d => by rw [up_n d, up_n c]
  refine ⟨fun q hq => ?_, fun k hk => ?_⟩
  · show 0 ≤ up (up h i (h j)) j (h i) q ∧ up (up h i (h j)) j (h i) q < K
    by_cases c : q = j
    · rw [c, eJ]; exact a i hi
    · by_cases d : q = i
      · rw [d, eI (by omega)]; exact a j hj
      · rw [eS q d c]; exact a q hq
  · show pcx (up (up h i (h j)) j (h i)) _ k = _
    rw [pcx_swap (pk := h) (i := i) (j := j) (by omega) (by omega) eJ eI eS]
    exact b k hk
theorem PKx.shq {K : Int} : ∀ (i : Nat) {h : Nat → Int} {x : Int}, PKx h K → (i : Int) < 4 * K → PKx (shu h x i) K
  | 0, _, _, H, _ => H
  | i + 1, h, x, H, hi => by
    rw [shu_s]
    have r := Int.emod_nonneg (us8 (nxs x)) (show (i : Int) + 2 ≠ 0 by omega)
    have r2 := Int.emod_lt_of_pos (us8 (nxs x)) (show 0 < (i : Int) + 2 by omega)
    exact PKx.shq i (H.swq (by omega) (by omega)) (by omega)
def pk0 : Nat → Int := fun i => ((i / 4 : Nat) : Int)
theorem pk0_v {K : Int} (h : 0 ≤ K) : PKx pk0 K := by
  refine ⟨fun q hq => by show 0 ≤ ((q / 4 : Nat) : Int) ∧ ((q / 4 : Nat) : Int) < K; omega, fun k hk => ?_⟩
  have z := pcx_new (pk := pk0) (K := K.toNat) (fun q _ => rfl) k
  rw [show (4 * K).toNat = 4 * K.toNat from by omega, z]
  by_cases c : k < K.toNat
  · rw [if_pos c, if_pos (by omega)]
  · rw [if_neg c, if_neg (by omega)]
def SHf (K seed : Int) : Nat → Int := shu pk0 seed (4 * K - 1).toNat
theorem SHf_v {K seed : Int} (h : 1 ≤ K) : PKx (SHf K seed) K := PKx.shq _ (pk0_v (by omega)) (by omega)
/-- the row before the cards are given out -/
def dl0 (f : Nat → Int) : Nat → Int := fun i => if i < 4 then f i else if i < 571 then 0 else if i < 584 then (if ((i - 571 : Nat) : Int) < f 0 then 4 else 0) else f i
def dlN (f S : Nat → Int) (n : Int) : Nat → Nat → Int
  | 0 => dl0 f
  | i + 1 => if (i : Int) < n * f 1 then up (dlN f S n i) (60 + 13 * ((i : Int) / n).toNat + (S i).toNat) (dlN f S n i (60 + 13 * ((i : Int) / n).toNat + (S i).toNat) + 1) else up (up (dlN f S n i) (8 + (dlN f S n i 7).toNat) (S i)) 7 (dlN f S n i 7 + 1)
theorem dlN_s {f S : Nat → Int} {n : Int} {i : Nat} : dlN f S n (i + 1) = if (i : Int) < n * f 1 then up (dlN f S n i) (60 + 13 * ((i : Int) / n).toNat + (S i).toNat) (dlN f S n i (60 + 13 * ((i : Int) / n).toNat + (S i).toNat) + 1) else up (up (dlN f S n i) (8 + (dlN f S n i 7).toNat) (S i)) 7 (dlN f S n i 7 + 1) := rfl
def dlF (f : Nat → Int) (n seed : Int) : Nat → Int := dlN f (SHf (f 0) seed) n (4 * f 0).toNat
def dealF (f : Nat → Int) (n seed : Int) : Nat → Int := begF (dlF f n seed)
/-- i cards are given out -/
theorem dlN_v {f S : Nat → Int} {n : Int} (h0 : 1 ≤ f 0 ∧ f 0 ≤ 13) (h1 : 1 ≤ f 1 ∧ f 1 ≤ 6) (h3 : 0 ≤ f 3 ∧ f 3 ≤ 9) (hn : 1 ≤ n ∧ n ≤ 9) (hS : ∀ q : Nat, (q : Int) < 4 * f 0 → 0 ≤ S q ∧ S q < f 0) : ∀ i : Nat, (i : Int) ≤ 4 * f 0 → DL (dlN f S n i) S i ∧ (∀ j, j < 4 ∨ 584 ≤ j → dlN f S n i j = f j) ∧ (∀ j, j = 4 ∨ j = 5 ∨ j = 6 ∨ (138 ≤ j ∧ j < 571) → dlN f S n i j = 0) ∧ (dlN f S n i 7 = if (i : Int) < n * f 1 then 0 else i - n * f 1) ∧ (∀ m : Nat, (m : Int) < dlN f S n i 7 → dlN f S n i (8 + m) = S ((n * f 1).toNat + m))
  | 0, _ => by
    have hb : 0 < n * f 1 := Int.mul_pos (by omega) (by omega)
    have z : ∀ q, 4 ≤ q → q < 571 → dl0 f q = 0 := fun q a b => by unfold dl0; rw [if_neg (by omega), if_pos b]
    have l : ∀ q, q < 4 → dl0 f q = f q := fun q a => by unfold dl0; rw [if_pos a]
    refine ⟨DL.new (by show 0 ≤ dl0 f 0 ∧ dl0 f 0 ≤ 13; rw [l 0 (by omega)]; omega) (by show 0 ≤ dl0 f 1 ∧ dl0 f 1 ≤ 6; rw [l 1 (by omega)]; omega) (by show 0 ≤ dl0 f 3 ∧ dl0 f 3 ≤ 9; rw [l 3 (by omega)]; omega) z (fun k hk => ?_), fun j hj => ?_, fun j hj => z j (by omega) (by omega), ?_, fun m hm => ?_⟩
    · show dl0 f (571 + k) = if (k : Int) < dl0 f 0 then 4 else 0
      rw [l 0 (by omega)]
      unfold dl0
      rw [if_neg (by omega), if_neg (by omega), if_pos (by omega), show 571 + k - 571 = k from by omega]
    · rcases hj with hj | hj
      · exact l j hj
      · show dl0 f j = f j
        unfold dl0
        rw [if_neg (by omega), if_neg (by omega), if_neg (by omega)]
    · rw [if_pos (by omega)]; exact z 7 (by omega) (by omega)
    · have hm : (m : Int) < dl0 f 7 := hm
      rw [z 7 (by omega) (by omega)] at hm
      omega
  | i + 1, hi => by
    obtain ⟨a, b, c, d, e⟩ := dlN_v h0 h1 h3 hn hS i (by omega)
    have s := hS i (by omega)
    have b0 := b 0 (by omega)
    have b1 := b 1 (by omega)
    rw [dlN_s]
    generalize dlN f S n i = g at *
    by_cases x : (i : Int) < n * f 1
    · rw [if_pos x]
      have dv := div_lt (i := (i : Int)) (n := n) (P := f 1) (by omega) (by omega) x
      rw [if_pos x] at d
      have e1 : (60 + 13 * ((i : Int) / n) + S i).toNat = 60 + 13 * ((i : Int) / n).toNat + (S i).toNat := by omega
      refine ⟨a.hand (p := (i : Int) / n) (c := S i) (by rw [b1]; exact dv) (by rw [b0]; exact s) rfl (by rw [e1]; exact AG.rf), fun j hj => by rw [up_n (by omega)]; exact b j hj, fun j hj => by rw [up_n (by omega)]; exact c j hj, ?_, fun m hm => ?_⟩
      · rw [up_n (by omega), d]
        by_cases y : ((i + 1 : Nat) : Int) < n * f 1
        · rw [if_pos y]
        · rw [if_neg y]; omega
      · rw [up_n (by omega)] at hm
        omega
    · rw [if_neg x]
      rw [if_neg x] at d
      have hp : 0 < n * f 1 := Int.mul_pos (by omega) (by omega)
      refine ⟨a.heap (c := S i) (by rw [b0]; exact s) (by omega) rfl (by rw [up_s]) (by rw [up_n (by omega), up_s]) (fun q h1 h2 => by rw [up_n h1, up_n h2]), fun j hj => by rw [up_n (by omega), up_n (by omega)]; exact b j hj, fun j hj => by rw [up_n (by omega), up_n (by omega)]; exact c j hj, ?_, fun m hm => ?_⟩
      · rw [up_s, d, if_neg (by omega)]; omega
      · rw [up_s] at hm
        rw [up_n (by omega)]
        by_cases y : (m : Int) = g 7
        · rw [show 8 + m = 8 + (g 7).toNat from by omega, up_s]
          congr 1
          omega
        · rw [up_n (by omega)]
          exact e m (by omega)
theorem dlF_vs {f : Nat → Int} {n seed : Int} (h0 : 1 ≤ f 0 ∧ f 0 ≤ 13) (h1 : 1 ≤ f 1 ∧ f 1 ≤ 6) (h3 : 0 ≤ f 3 ∧ f 3 ≤ 9) (hn : 1 ≤ n ∧ n ≤ 9) : VS 0 (dlF f n seed) ∧ dlF f n seed 6 = 0 := by
  have s := SHf_v (K := f 0) (seed := seed) h0.1
  obtain ⟨a, b, _⟩ := dlN_v (S := SHf (f 0) seed) h0 h1 h3 hn s.1 (4 * f 0).toNat (by omega)
  refine a.vs (fun k hk => ?_)
  rw [b 0 (by omega)]
  exact s.2 k hk
theorem dvn {p i n : Int} (h : 0 ≤ i ∧ i < n) : (p * n + i) / n = p := by
  rw [Int.add_comm, Int.add_mul_ediv_right _ _ (by omega), Int.ediv_eq_zero_of_lt h.1 h.2]
  omega
set_option maxHeartbeats 4000000 in
set_option maxRecDepth 100000 in
theorem s_drawF {σ : xS} {n : Int} {Q : Option xV → xS → Prop} (hp0 : 1 ≤ n ∧ n ≤ 60) (hQ : ∀ r : Int, ∀ σ' : xS, Fr [] [49] σ σ' → (σ' 0 49 = nxs (σ 0 49) ∧ r = us8 (nxs (σ 0 49)) % n) → Q (some (xvi r)) σ') : xT kX11_draw [xvr 0, xvi n] σ Q := by
  refine ⟨Nat.le_of_ble_eq_true rfl, fun X hX => ?_⟩
  show X 0 [xvr 0, xvi n] σ
  have hF : Fr [] [49] σ σ := Fr.rf
  refine hX 400 0 _ _ ?_
  intro v1 e1 l1 h1
  have e1 : v1 = σ 0 49 := e1
  intro z2 t2 e2 l2 h2
  try have w2 : t2 = 0 := by omega
  intro z3 t3 e3 l3 h3
  try have w3 : t3 = 0 := by omega
  have hnx : z3 = nxs (σ 0 49) := by unfold nxs wr; omega
  have hF := hF.p (j := 49) (v := z3) (by decide)
  intro v5 e5 l5 h5
  have e5 : v5 = z3 := e5
  have hv17 : v5 = nxs (σ 0 49) := by omega
  intro z6 e6 l6 h6
  have hu0 : 0 ≤ z6 := by rw [e6]; exact xush8 _
  refine And.intro (by omega) ?_
  intro z7 e7 f7 l7 h7
  replace f7 := f7 (by omega) (by omega)
  have g7 := Int.emod_nonneg z6 (b := n) (by omega); have k7 := Int.emod_lt_of_pos z6 (b := n) (by omega); rw [← f7] at g7 k7
  refine And.intro rfl ?_
  exact hQ _ _ hF ⟨(show z3 = nxs (σ 0 49) from by omega), (by rw [f7, e6]; show us8 _ % n = _; rw [hv17])⟩
