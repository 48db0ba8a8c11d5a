/-! The reference's readers, exactly. -/
theorem xor0 {x z : Int} (hx : 0 ≤ x ∧ x < 65536) (e : z = (Int32.ofInt x ||| Int32.ofInt 0).toInt) : z = x := by
  obtain ⟨a, rfl⟩ : ∃ a : Nat, x = a := ⟨x.toNat, by omega⟩
  rw [show (0 : Int) = ((0 : Nat) : Int) from rfl, xnI, xnI, xnor (by omega) (by omega), Nat.or_zero, nI_toInt (by omega)] at e
  exact e
/-- the kinds in a hand as bits -/
def kbF (f : Nat → Int) (p : Nat) : Nat → Int
  | 0 => 0
  | n + 1 => if 0 < HH f p n then orF (kbF f p n) (n : Int) else kbF f p n
theorem kbF_r {f : Nat → Int} {p : Nat} : ∀ n : Nat, n ≤ 13 → 0 ≤ kbF f p n ∧ kbF f p n < 8192
  | 0, _ => by show (0 : Int) ≤ 0 ∧ (0 : Int) < 8192; decide
  | n + 1, h => by
    have z := kbF_r (f := f) (p := p) n (by omega)
    unfold kbF
    by_cases c : 0 < HH f p n
    · rw [if_pos c]; exact orF_r z (by omega)
    · rw [if_neg c]; exact z
theorem kbF_x {f : Nat → Int} (hV : V0 f) {p : Nat} (hp : p < 6) : ∀ d n : Nat, n + d = 13 → f 0 ≤ n → kbF f p 13 = kbF f p n
  | 0, n, e, _ => by rw [show n = 13 from by omega]
  | d + 1, n, e, h0 => by
    rw [kbF_x hV hp d (n + 1) (by omega) (by omega)]
    have z := (HH_v hV hp (k := n) (by omega)).2 h0
    show (if 0 < HH f p n then _ else _) = _
    rw [if_neg (by omega)]
def prsF (f : Nat → Int) (k : Nat) (what : Int) : Int := if what = 0 then cd f k else if what = 1 then bksF f k else if what = 2 then kbF f k 13 else if what = 3 then f (229 + k) else if what = 4 then f (547 + k) else if what = 5 then f (553 + k) else if what = 6 then f (559 + k) else if what = 7 then f (565 + k) - 1 else -1
def losF (f : Nat → Int) : Int := f 7 + sm (f 1).toNat (cd f)
def nowF (f : Nat → Int) (what : Int) : Int := if what = 0 then f 4 else if what = 1 then f 7 else if what = 2 then f 5 else if what = 3 then alq f 13 else if what = 4 then f 6 else if what = 5 then losF f else -1
def inhF (f : Nat → Int) (kind : Nat) : Int := sm (f 1).toNat (fun q => HH f q kind)
def gnN (f : Nat → Int) (k : Nat) (n : Nat) : Int := sm n (fun j => if 0 < HH f k j ∧ inhF f j = 4 then 1 else 0)
def gnF (f : Nat → Int) (k : Nat) : Int := bksF f k + gnN f k 13
theorem gnN_r {f : Nat → Int} {k : Nat} : ∀ n : Nat, 0 ≤ gnN f k n ∧ gnN f k n ≤ n
  | 0 => ⟨Int.le_refl 0, Int.le_refl 0⟩
  | n + 1 => by
    have z := gnN_r (f := f) (k := k) n
    have e : gnN f k (n + 1) = gnN f k n + (if 0 < HH f k n ∧ inhF f n = 4 then 1 else 0) := rfl
    rw [e]
    split <;> omega
/-- the askings that would sweep, in their order -/
def swQ (f : Nat → Int) (k kd : Nat) : Nat → List Int
  | 0 => []
  | q + 1 => if q ≠ k ∧ 0 < HH f k kd ∧ 0 < HH f q kd then swQ f k kd q ++ [100 * (q : Int) + kd] else swQ f k kd q
def swL (f : Nat → Int) (k : Nat) : Nat → List Int
  | 0 => []
  | kd + 1 => swL f k kd ++ swQ f k kd (f 1).toNat
def SWR (h : Nat → Int) (n : Int) (l : List Int) : Prop := n = l.length ∧ ∀ i : Nat, (i : Int) < n → l[i]? = some (h i)
theorem SWR.nil {h : Nat → Int} {n : Int} (e : n = 0) : SWR h n [] := ⟨e, fun i hi => by omega⟩
theorem SWR.snoc {h h' : Nat → Int} {n n' v : Int} {l : List Int} (H : SWR h n l) (e : n' = n + 1) (hn : 0 ≤ n) (hv : h' n.toNat = v) (ho : ∀ i : Nat, (i : Int) < n → h' i = h i) : SWR h' n' (l ++ [v]) := by
  obtain ⟨a, b⟩ := H
  refine ⟨by rw [List.length_append, List.length_singleton]; omega, fun i hi => ?_⟩
  by_cases c : (i : Int) < n
  · rw [List.getElem?_append_left (by omega), b i c, ho i c]
  · rw [List.getElem?_append_right (by omega), show i - l.length = 0 from by omega, ← hv, show n.toNat = i from by omega]
    rfl
theorem SWR.c {h h' : Nat → Int} {n n' : Int} {l : List Int} (H : SWR h n l) (e : n' = n) (ho : ∀ i : Nat, (i : Int) < n → h' i = h i) : SWR h' n' l := ⟨e.trans H.1, fun i hi => by rw [H.2 i (by omega), ho i (by omega)]⟩
theorem swQ_l {f : Nat → Int} {k kd : Nat} : ∀ q : Nat, ((swQ f k kd q).length : Int) + (if (q : Int) ≤ k then 1 else 0) ≤ q + (if (q : Int) ≤ k then 1 else 0)
  | 0 => by show ((0 : Nat) : Int) + _ ≤ ((0 : Nat) : Int) + _; omega
  | q + 1 => by
    have z := swQ_l (f := f) (k := k) (kd := kd) q
    unfold swQ
    by_cases c : q ≠ k ∧ 0 < HH f k kd ∧ 0 < HH f q kd
    · rw [if_pos c, List.length_append, List.length_singleton]; split at z <;> split <;> omega
    · rw [if_neg c]; split at z <;> split <;> omega
theorem swQ_k {f : Nat → Int} {k kd : Nat} : ∀ q : Nat, k < q → ((swQ f k kd q).length : Int) ≤ q - 1
  | 0, h => by omega
  | q + 1, h => by
    unfold swQ
    have y := swQ_l (f := f) (k := k) (kd := kd) q
    by_cases e : q = k
    · rw [if_neg (fun z => z.1 e)]; split at y <;> omega
    · have z := swQ_k (f := f) (k := k) (kd := kd) q (by omega)
      by_cases c : q ≠ k ∧ 0 < HH f k kd ∧ 0 < HH f q kd
      · rw [if_pos c, List.length_append, List.length_singleton]; omega
      · rw [if_neg c]; omega
theorem swQ_5 {f : Nat → Int} {k kd q : Nat} (hq : q ≤ 6) (hk : k < 6) : ((swQ f k kd q).length : Int) ≤ 5 := by
  by_cases c : k < q
  · have := swQ_k (f := f) (kd := kd) q c; omega
  · have y := swQ_l (f := f) (k := k) (kd := kd) q
    split at y <;> omega
theorem swQ_4 {f : Nat → Int} {k kd q : Nat} (hq : q ≤ 5) (hk : k < 6) (hn : ¬ (q : Int) = k) : ((swQ f k kd q).length : Int) ≤ 4 := by
  by_cases c : k < q
  · have := swQ_k (f := f) (kd := kd) q c; omega
  · have y := swQ_l (f := f) (k := k) (kd := kd) q
    split at y <;> omega
theorem swL_l {f : Nat → Int} {k : Nat} (h1 : f 1 ≤ 6) (hk : k < 6) : ∀ n : Nat, ((swL f k n).length : Int) ≤ 5 * n
  | 0 => by show ((0 : Nat) : Int) ≤ _; omega
  | n + 1 => by
    have z := swL_l (f := f) h1 hk n
    have y := swQ_5 (f := f) (k := k) (kd := n) (q := (f 1).toNat) (by omega) hk
    unfold swL
    rw [List.length_append]
    omega
theorem swQ_z {f : Nat → Int} {k kd : Nat} (h : HH f k kd = 0) : ∀ q : Nat, swQ f k kd q = []
  | 0 => rfl
  | q + 1 => by unfold swQ; rw [if_neg (by omega)]; exact swQ_z h q
theorem swL_x {f : Nat → Int} (hV : V0 f) {p : Nat} (hp : p < 6) : ∀ d n : Nat, n + d = 13 → f 0 ≤ n → swL f p 13 = swL f p n
  | 0, n, e, _ => by rw [show n = 13 from by omega]
  | d + 1, n, e, h0 => by
    rw [swL_x hV hp d (n + 1) (by omega) (by omega)]
    show swL f p n ++ swQ f p n (f 1).toNat = _
    rw [swQ_z ((HH_v hV hp (k := n) (by omega)).2 h0), List.append_nil]
set_option maxHeartbeats 4000000 in
set_option maxRecDepth 100000 in
theorem s_throwsIfE {σ : xS} {is : Int} {Q : Option xV → xS → Prop} (hp0 : is = 0 ∨ is = 1) (hQ : ∀ r : Int, ∀ σ' : xS, Fr [] [0] σ σ' → (r = is ∧ σ' 0 0 = is) → Q (some (xvi r)) σ') : xT kX11_throwsIf [xvr 0, xvi is] σ Q := by
  refine ⟨Nat.le_of_ble_eq_true rfl, fun X hX => ?_⟩
  show X 0 [xvr 0, xvi is] σ
  have hF : Fr [] [0] σ σ := Fr.rf
  refine hX 400 0 _ _ ?_
  refine And.intro (fun c1 => ?_) (fun c1 => ?_)
  · have hF := hF.p (j := 0) (v := 0) (by decide)
    refine And.intro rfl ?_
    refine And.intro (by omega) ?_
    exact hQ _ _ hF ⟨by omega, by show 0 = _; omega⟩
  · have hF := hF.p (j := 0) (v := 1) (by decide)
    refine And.intro rfl ?_
    refine And.intro (by omega) ?_
    exact hQ _ _ hF ⟨by omega, by show 1 = _; omega⟩
set_option maxHeartbeats 4000000 in
set_option maxRecDepth 100000 in
theorem s_handF {σ : xS} {k kind : Int} {Q : Option xV → xS → Prop} (hp0 : RI σ) (hp1 : TV (σ 2)) (hQ : ∀ r : Int, ∀ σ' : xS, Fr [] [0] σ σ' → ((PK (σ 2) k kind ∧ r = HH (σ 2) k.toNat kind.toNat ∧ σ' 0 0 = 0) ∨ (¬ PK (σ 2) k kind ∧ r = 0 ∧ σ' 0 0 = 1)) → Q (some (xvi r)) σ') : xT kX11_hand [xvr 0, xvi k, xvi kind] σ Q := by
  refine ⟨Nat.le_of_ble_eq_true rfl, fun X hX => ?_⟩
  show X 0 [xvr 0, xvi k, xvi kind] σ
  have hF : Fr [] [0] σ σ := Fr.rf
  refine hX 400 0 _ _ ?_
  have m0 := hp1.1.1.1.1
  have m1 := hp1.1.1.1.2.1
  refine s_isPerson (σ := σ) (k := k) hp0 (fun r1 p1 => ?_)
  refine And.intro (fun c2 => ?_) (fun c2 => ?_)
  · refine s_throwsIfE (σ := σ) (is := 1) (by omega) (fun r3 σ3 f3 p3 => ?_)
    have hF := hF.tr f3 (by decide) (by decide)
    have k2_3 : σ3 2 = σ 2 := f3.1 2 (by decide) (by decide)
    refine And.intro (fun c4 => ?_) (fun c4 => ?_)
    · exfalso; omega
    · refine And.intro rfl ?_
      exact hQ _ _ hF (Or.inr ⟨fun z => by obtain ⟨z1, z2⟩ := z; omega, rfl, p3.2⟩)
  · refine s_isKind (σ := σ) (k := kind) hp0 (fun r5 p5 => ?_)
    refine And.intro (fun c6 => ?_) (fun c6 => ?_)
    · refine s_throwsIfE (σ := σ) (is := 0) (by omega) (fun r7 σ7 f7 p7 => ?_)
      have hF := hF.tr f7 (by decide) (by decide)
      have k2_7 : σ7 2 = σ 2 := f7.1 2 (by decide) (by decide)
      refine And.intro (fun c8 => ?_) (fun c8 => ?_)
      · refine s_hand0v (σ := σ7) (k := k) (kind := kind) (by rw [k2_7]; exact hp1.1.1) (by omega) (by omega) (fun r9 p9 => ?_)
        rw [k2_7, show (60 + 13 * k + kind).toNat = 60 + 13 * k.toNat + kind.toNat from by omega] at p9
        have p9 : r9 = HH (σ 2) k.toNat kind.toNat := p9
        refine And.intro rfl ?_
        exact hQ _ _ hF (Or.inl ⟨⟨by omega, by omega⟩, by omega, p7.2⟩)
      · exfalso; omega
    · refine s_throwsIfE (σ := σ) (is := 1) (by omega) (fun r10 σ10 f10 p10 => ?_)
      have hF := hF.tr f10 (by decide) (by decide)
      have k2_10 : σ10 2 = σ 2 := f10.1 2 (by decide) (by decide)
      refine And.intro (fun c11 => ?_) (fun c11 => ?_)
      · exfalso; omega
      · refine And.intro rfl ?_
        exact hQ _ _ hF (Or.inr ⟨fun z => by obtain ⟨z1, z2⟩ := z; omega, rfl, p10.2⟩)
set_option maxHeartbeats 4000000 in
set_option maxRecDepth 100000 in
theorem s_heapF {σ : xS} {i : Int} {Q : Option xV → xS → Prop} (hp0 : RI σ) (hp1 : TV (σ 2)) (hQ : ∀ r : Int, ∀ σ' : xS, Fr [] [0] σ σ' → (ansN (0 ≤ i ∧ i < σ 2 7) r (σ 2 (8 + i.toNat))) → Q (some (xvi r)) σ') : xT kX11_heap [xvr 0, xvi i] σ Q := by
  refine ⟨Nat.le_of_ble_eq_true rfl, fun X hX => ?_⟩
  show X 0 [xvr 0, xvi i] σ
  have hF : Fr [] [0] σ σ := Fr.rf
  refine hX 400 0 _ _ ?_
  have hF := hF.p (j := 0) (v := 0) (by decide)
  have hI := (RK.rf hp0 |>.p0 (j := 0) (v := 0) (by decide) (by decide) (by decide)).1
  obtain ⟨hVx, hT2, hT6, hT4⟩ := id hp1
  have m0 := hVx.1.1.1
  have m1 := hVx.1.1.2.1
  have m7 := hVx.1.1.2.2.2
  refine And.intro (rfl) (And.intro (⟨by omega, by omega⟩) ?_)
  intro v2 e2 l2 h2
  have e2 : v2 = σ 2 7 := e2
  intro z3 t3 e3 l3 h3
  try have w3 : t3 = 0 := by omega
  refine s_isIn (σ := (xput σ 0 0 0)) (v := i) (low := 0) (high := z3) (fun r4 p4 => ?_)
  refine And.intro (fun c5 => ?_) (fun c5 => ?_)
  · refine And.intro rfl ?_
    exact hQ _ _ hF (Or.inr ⟨fun z => by obtain ⟨z1, z2⟩ := z; omega, rfl⟩)
  · intro z6 t6 e6 l6 h6
    try have w6 : t6 = 0 := by omega
    refine And.intro (rfl) (And.intro (⟨by omega, by omega⟩) ?_)
    intro v7 e7 l7 h7
    have e7 : v7 = σ 2 z6.toNat := e7
    rw [show z6.toNat = 8 + i.toNat from by omega] at e7
    refine And.intro rfl ?_
    exact hQ _ _ hF (Or.inl ⟨by omega, by omega⟩)
set_option maxHeartbeats 4000000 in
set_option maxRecDepth 100000 in
theorem s_bookF {σ : xS} {kind : Int} {Q : Option xV → xS → Prop} (hp0 : RI σ) (hp1 : TV (σ 2)) (hQ : ∀ r : Int, ∀ σ' : xS, Fr [] [0] σ σ' → (ansN (0 ≤ kind ∧ kind < σ 2 0) r (σ 2 (138 + kind.toNat) - 1)) → Q (some (xvi r)) σ') : xT kX11_book [xvr 0, xvi kind] σ Q := by
  refine ⟨Nat.le_of_ble_eq_true rfl, fun X hX => ?_⟩
  show X 0 [xvr 0, xvi kind] σ
  have hF : Fr [] [0] σ σ := Fr.rf
  refine hX 400 0 _ _ ?_
  have hF := hF.p (j := 0) (v := 0) (by decide)
  have hI := (RK.rf hp0 |>.p0 (j := 0) (v := 0) (by decide) (by decide) (by decide)).1
  obtain ⟨hVx, hT2, hT6, hT4⟩ := id hp1
  have m0 := hVx.1.1.1
  have m1 := hVx.1.1.2.1
  have m7 := hVx.1.1.2.2.2
  have hbk := fun (q : Nat) (hq : q < 13) => hVx.1.2.2.2.2.1 q hq
  refine s_isKind (σ := (xput σ 0 0 0)) (k := kind) hI (fun r2 p2 => ?_)
  have p2 : (r2 = 1 ∧ 0 ≤ kind ∧ kind < σ 2 0) ∨ (r2 = 0 ∧ (kind < 0 ∨ σ 2 0 ≤ kind)) := p2
  refine And.intro (fun c3 => ?_) (fun c3 => ?_)
  · refine And.intro rfl ?_
    exact hQ _ _ hF (Or.inr ⟨fun z => by obtain ⟨z1, z2⟩ := z; omega, rfl⟩)
  · intro z4 t4 e4 l4 h4
    try have w4 : t4 = 0 := by omega
    refine And.intro (rfl) (And.intro (⟨by omega, by omega⟩) ?_)
    intro v5 e5 l5 h5
    have e5 : v5 = σ 2 z4.toNat := e5
    rw [show z4.toNat = 138 + kind.toNat from by omega] at e5
    have hb9 := hbk kind.toNat (by omega)
    intro z6 t6 e6 l6 h6
    try have w6 : t6 = 0 := by omega
    refine And.intro rfl ?_
    exact hQ _ _ hF (Or.inl ⟨by omega, by omega⟩)
set_option maxHeartbeats 4000000 in
set_option maxRecDepth 100000 in
theorem s_askedF {σ : xS} {what : Int} {Q : Option xV → xS → Prop} (hp0 : RI σ) (hp1 : TV (σ 2)) (hQ : ∀ r : Int, ∀ σ' : xS, Fr [] [0] σ σ' → (ansN (¬ σ 0 24 = 0 ∧ (0 ≤ what ∧ what ≤ 7)) r (σ 7 what.toNat)) → Q (some (xvi r)) σ') : xT kX11_asked [xvr 0, xvi what] σ Q := by
  refine ⟨Nat.le_of_ble_eq_true rfl, fun X hX => ?_⟩
  show X 0 [xvr 0, xvi what] σ
  have hF : Fr [] [0] σ σ := Fr.rf
  refine hX 400 0 _ _ ?_
  have hF := hF.p (j := 0) (v := 0) (by decide)
  have hI := (RK.rf hp0 |>.p0 (j := 0) (v := 0) (by decide) (by decide) (by decide)).1
  obtain ⟨hVx, hT2, hT6, hT4⟩ := id hp1
  have m0 := hVx.1.1.1
  have m1 := hVx.1.1.2.1
  have m7 := hVx.1.1.2.2.2
  intro v2 e2 l2 h2
  have e2 : v2 = σ 0 24 := e2
  have lp_31 : ∀ (_ : Unit), (¬ (¬ σ 0 24 = 0 ∧ (0 ≤ what ∧ what ≤ 7))) → X 31 [xvr 0, xvi what] (xput σ 0 0 0) := by
    intro _ hv_31
    refine hX 400 31 _ _ ?_
    refine And.intro rfl ?_
    exact hQ _ _ hF (Or.inr ⟨hv_31, rfl⟩)
  refine And.intro (fun c4 => ?_) (fun c4 => ?_)
  · exact lp_31 () (fun z => by omega)
  · refine s_isIn (σ := (xput σ 0 0 0)) (v := what) (low := 0) (high := 7) (fun r5 p5 => ?_)
    refine And.intro (fun c6 => ?_) (fun c6 => ?_)
    · exact lp_31 () (fun z => by omega)
    · refine And.intro (rfl) (And.intro (⟨by omega, by omega⟩) ?_)
      intro v7 e7 l7 h7
      have e7 : v7 = σ 7 what.toNat := e7
      refine And.intro rfl ?_
      exact hQ _ _ hF (Or.inl ⟨⟨by omega, by omega⟩, by omega⟩)
