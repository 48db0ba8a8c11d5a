/-! An asking on the row: what it keeps. -/
theorem upx_cm {f : Nat → Int} {i j : Nat} {v w : Int} (h : i ≠ j) : up (up f i v) j w = up (up f j w) i v := by
  funext x
  by_cases a : x = i
  · subst a; rw [up_n h, up_s, up_s]
  · by_cases b : x = j
    · subst b; rw [up_s, up_n a, up_s]
    · rw [up_n b, up_n a, up_n a, up_n b]
theorem upx_up {f : Nat → Int} {i : Nat} {v w : Int} : up (up f i v) i w = up f i w := by
  funext x
  by_cases a : x = i
  · subst a; rw [up_s, up_s]
  · rw [up_n a, up_n a, up_n a]
theorem addsF_up {f : Nat → Int} {k i : Nat} {m v : Int} (hi : i < 229) : addsF (up f i v) k m = up (addsF f k m) i v := by
  unfold addsF
  rw [up_n (show 229 + k ≠ i by omega), upx_cm (show i ≠ 235 + 52 * k + (f (229 + k)).toNat by omega), upx_cm (show i ≠ 229 + k by omega)]
theorem adN_up {f : Nat → Int} {k i : Nat} {v : Int} (hi : i < 229) : ∀ n : Nat, adN (up f i v) k n = up (adN f k n) i v
  | 0 => rfl
  | n + 1 => by
    show addsF (adN (up f i v) k n) k 0 = up (addsF (adN f k n) k 0) i v
    rw [adN_up hi n, addsF_up hi]
theorem adN_o {f : Nat → Int} {k i : Nat} (h : i < 229 ∨ 547 ≤ i) (hk : k < 6) : ∀ n : Nat, 0 ≤ f (229 + k) → f (229 + k) + n ≤ 52 → adN f k n i = f i ∧ adN f k n (229 + k) = f (229 + k) + n
  | 0, _, _ => ⟨rfl, by show f (229 + k) = _; omega⟩
  | n + 1, h0, hn => by
    obtain ⟨a, b⟩ := adN_o (f := f) h hk n h0 (by omega)
    refine ⟨?_, ?_⟩
    · show addsF (adN f k n) k 0 i = _
      rw [addsF_o (by omega) (by omega), a]
    · show addsF (adN f k n) k 0 (229 + k) = _
      rw [addsF_n, b]; omega
/-- so many others are there: those of the kind known would be added -/
theorem V0.ok {f : Nat → Int} (h : V0 f) {k kind : Nat} (hk : k < 6) (hd' : kind < 13) : f (229 + k) + f (151 + 13 * k + kind) ≤ 52 := by
  have a := h.2.2.2.1 k hk
  have b := sm_ge (n := 13) (g := kn f k) (fun i hi => (h.2.2.1 k i hk hi).1) hd'
  have c := (h.cd52 hk).2
  have e : cd f k = sm 13 (hd f k) := rfl
  have e2 : kn f k kind = f (151 + 13 * k + kind) := rfl
  omega
theorem dnI_v {f : Nat → Int} {k kind : Nat} (h : VX f) (hk : k < 6) (hd' : kind < 13) : ∀ j : Nat, (j : Int) ≤ f (151 + 13 * k + kind) → VX (dnI f k kind j)
  | 0, _ => by
    have e : dnI f k kind 0 = f := by
      funext i
      unfold dnI
      by_cases c : i = 151 + 13 * k + kind
      · rw [c, up_s]; show f _ - ((0 : Nat) : Int) = f _; omega
      · rw [up_n c]; rfl
    rw [e]; exact h
  | j + 1, hj => by
    have ih := dnI_v h hk hd' j (by omega)
    have ok := h.1.ok hk hd'
    have w := h.1.w k hk
    obtain ⟨_, o2⟩ := adN_o (f := f) (i := 0) (Or.inl (by decide)) hk j w.1 (by omega)
    have on : dnI f k kind j (229 + k) = f (229 + k) + j := by unfold dnI; rw [up_n (by omega), o2]
    have ok2 : dnI f k kind j (151 + 13 * k + kind) = f (151 + 13 * k + kind) - j := by unfold dnI; exact up_s
    have e : dnI f k kind (j + 1) = up (addsF (dnI f k kind j) k 0) (151 + 13 * k + kind) (dnI f k kind j (151 + 13 * k + kind) - 1) := by
      rw [ok2]
      unfold dnI
      rw [addsF_up (by omega), upx_up, show f (151 + 13 * k + kind) - ((j + 1 : Nat) : Int) = f (151 + 13 * k + kind) - j - 1 from by omega]
      rfl
    generalize dnI f k kind j = g at *
    have wg := ih.1.w
    have e1 : (229 + (k : Int)).toNat = 229 + k := by omega
    have e2 : (151 + 13 * (k : Int) + (kind : Int)).toNat = 151 + 13 * k + kind := by omega
    obtain ⟨v, _⟩ := ih.1.forget (k := (k : Int)) (kind := (kind : Int)) (f' := dnI f k kind (j + 1)) (by omega) (by omega) (by
      show 1 ≤ g (151 + 13 * (k : Int).toNat + (kind : Int).toNat)
      rw [show (k : Int).toNat = k from by omega, show (kind : Int).toNat = kind from by omega]; omega) (by
      rw [e, e1, e2]
      intro i hi
      unfold IR at hi
      by_cases c : i = 151 + 13 * k + kind
      · rw [c, up_s, up_s]
      · rw [up_n c, up_n c]
        by_cases d : i = 229 + k
        · rw [d, up_s, addsF_n]
        · rw [up_n d, addsF_o d (by omega)])
    refine ⟨v, ?_⟩
    rw [e]
    exact (ih.2.adds wg hk (by omega)).c (fun p hp => by
      have := wg p hp
      by_cases c : p = k
      · subst c; rw [addsF_n]; omega
      · rw [addsF_o (by omega) (by omega)]; omega) (fun i a b => up_n (by omega))
theorem VX.cg {f : Nat → Int} {k kind : Nat} (h : VX f) (hk : k < 6) : VX (cgF f k kind) ∧ (∀ i, i ≠ 547 + k → cgF f k kind i = f i) := by
  unfold cgF
  by_cases c : 0 < f (151 + 13 * k + kind)
  · rw [if_pos c]
    exact ⟨⟨h.1.ag (fun i hi => by unfold IR at hi; exact up_n (by omega)), h.2.c (fun p hp => (h.1.w p hp).2) (fun i a b => up_n (by omega))⟩, fun i hi => up_n hi⟩
  · rw [if_neg c]; exact ⟨h, fun _ _ => rfl⟩
theorem barsF_o {f : Nat → Int} {k : Nat} {g : Int → Int} {i : Nat} (hk : k < 6) (h52 : f (229 + k) ≤ 52) (h : i < 235 ∨ 547 ≤ i) : barsF f k g i = f i := by
  unfold barsF
  rw [if_neg (by omega)]
/-- a no: what it keeps -/
theorem VX.den {f : Nat → Int} {k kind : Nat} (h : VX f) (hk : k < 6) (hd' : kind < 13) : VX (denF f k kind) ∧ (∀ i, i < 151 ∨ 553 ≤ i → denF f k kind i = f i) ∧ (∀ p j, p < 6 → j < 13 → ¬ (p = k ∧ j = kind) → denF f k kind (151 + 13 * p + j) = f (151 + 13 * p + j)) := by
  obtain ⟨vc, oc⟩ := h.cg (kind := kind) hk
  have kr := (kn_r h.1 hk hd').1
  have ec : cgF f k kind (151 + 13 * k + kind) = f (151 + 13 * k + kind) := oc _ (by omega)
  have e9 : cgF f k kind (229 + k) = f (229 + k) := oc _ (by omega)
  have vd := dnI_v vc hk hd' (f (151 + 13 * k + kind)).toNat (by omega)
  have w := vd.1.w
  have ok := h.1.ok hk hd'
  have w0 := h.1.w k hk
  have od : ∀ i, i < 229 ∨ 547 ≤ i → i ≠ 151 + 13 * k + kind → dnI (cgF f k kind) k kind (f (151 + 13 * k + kind)).toNat i = cgF f k kind i := fun i hi hn => by
    unfold dnI
    rw [up_n hn]
    exact (adN_o (f := cgF f k kind) hi hk _ (by omega) (by omega)).1
  refine ⟨⟨vd.1.ag (fun i hi => ?_), vd.2.bars (fun p hp => (w p hp).2) (by omega)⟩, fun i hi => ?_, fun p j hp hj hn => ?_⟩
  · unfold IR at hi
    exact barsF_o hk (w k hk).2 (by omega)
  · unfold denF
    rw [barsF_o hk (w k hk).2 (by omega), od i (by omega) (by omega)]
    exact oc i (by omega)
  · unfold denF
    rw [barsF_o hk (w k hk).2 (by omega), od _ (by omega) (by omega)]
    exact oc _ (by omega)
/-- an asking is counted -/
theorem VX.ac {f : Nat → Int} {a : Nat} (h : VX f) (ha : a < 6) : VX (acF f a) ∧ (∀ i, i ≠ 5 → i ≠ 553 + a → acF f a i = f i) := by
  unfold acF
  exact ⟨⟨h.1.ag (fun i hi => by unfold IR at hi; rw [up_n (by omega), up_n (by omega)]), h.2.c (fun p hp => (h.1.w p hp).2) (fun i _ _ => by rw [up_n (by omega), up_n (by omega)])⟩, fun i h1 h2 => by rw [up_n h2, up_n h1]⟩
theorem VX.ak {f : Nat → Int} {a kind : Nat} (h : VX f) (ha : a < 6) (hd' : kind < 13) (h1 : 1 ≤ f (60 + 13 * a + kind)) : VX (ak1F f a kind) ∧ (∀ i, i < 5 ∨ (5 < i ∧ i < 151) ∨ 559 ≤ i → ak1F f a kind i = f i) ∧ (∀ p j, p < 6 → j < 13 → ¬ (p = a ∧ j = kind) → ak1F f a kind (151 + 13 * p + j) = f (151 + 13 * p + j)) := by
  obtain ⟨va, oa⟩ := h.ac ha
  unfold ak1F
  by_cases c : f (151 + 13 * a + kind) = 0
  · rw [if_pos c]
    have w := va.1.w a ha
    obtain ⟨v, _, _, d, q⟩ := va.learn (kind := (kind : Int)) ha (by omega) (by
      show acF f a (151 + 13 * a + (kind : Int).toNat) < acF f a (60 + 13 * a + (kind : Int).toNat)
      rw [show (kind : Int).toNat = kind from by omega, oa _ (by omega) (by omega), oa _ (by omega) (by omega)]; omega)
    refine ⟨v, fun i hi => ?_, fun p j hp hj hn => ?_⟩
    · rw [learnF_o ha (by omega) w.2 (by omega) (by omega)]; exact oa i (by omega) (by omega)
    · have z := d p j hp hj (by rw [show (kind : Int).toNat = kind from by omega]; exact hn)
      unfold kn at z
      rw [z]; exact oa _ (by omega) (by omega)
  · rw [if_neg c]
    exact ⟨va, fun i hi => oa i (by omega) (by omega), fun p j hp hj hn => oa _ (by omega) (by omega)⟩
/-- cards are given -/
theorem VX.gv {f : Nat → Int} {a b kind : Nat} (h : VX f) (ha : a < 6) (hb : b < 6) (hab : a ≠ b) (hd' : kind < 13) (hpa : (a : Int) < f 1) (hg : 0 < f (60 + 13 * b + kind)) (hk : f (151 + 13 * b + kind) = f (60 + 13 * b + kind)) : VX (gvF f a b kind (f (60 + 13 * b + kind))) ∧ (∀ i, i < 6 ∨ (6 < i ∧ i < 60) ∨ (138 ≤ i ∧ i < 151) ∨ 565 ≤ i → gvF f a b kind (f (60 + 13 * b + kind)) i = f i) := by
  have w := h.1.w
  have e1 : (151 + 13 * (b : Int) + (kind : Int)).toNat = 151 + 13 * b + kind := by omega
  have e2 : (60 + 13 * (b : Int) + (kind : Int)).toNat = 60 + 13 * b + kind := by omega
  have e3 : (60 + 13 * (a : Int) + (kind : Int)).toNat = 60 + 13 * a + kind := by omega
  have e4 : (151 + 13 * (a : Int) + (kind : Int)).toNat = 151 + 13 * a + kind := by omega
  have ta : (a : Int).toNat = a := by omega
  have tb : (b : Int).toNat = b := by omega
  have tk : (kind : Int).toNat = kind := by omega
  have w2 : up f (151 + 13 * b + kind) 0 (229 + b) ≤ 52 := by rw [up_n (by omega)]; exact (w b hb).2
  obtain ⟨v, _, _⟩ := h.1.give (f' := gvF f a b kind (f (60 + 13 * b + kind))) (a := (a : Int)) (b := (b : Int)) (kind := (kind : Int)) (g := f (60 + 13 * b + kind)) (m := - f (60 + 13 * b + kind)) (by omega) (by omega) (by omega) (by omega) hpa (by rw [tb, tk]; rfl) hg (by rw [tb, tk]; exact hk) rfl (by
    rw [e1, e2, e3, e4]
    intro i hi
    unfold IR at hi
    unfold gvF
    by_cases c6 : i = 6
    · rw [c6, up_s, up_s]
    · rw [up_n c6, up_n c6, up_n (show i ≠ 559 + a by omega)]
      by_cases ca : i = 151 + 13 * a + kind
      · rw [ca, up_s, up_s]
      · rw [up_n ca, up_n ca]
        by_cases cb : i = 60 + 13 * a + kind
        · rw [cb, up_s, up_s]
        · rw [up_n cb, up_n cb]
          by_cases cc : i = 60 + 13 * b + kind
          · rw [cc, up_s, up_s]; omega
          · rw [up_n cc, up_n cc]
            exact barsF_o hb w2 (by omega))
  refine ⟨⟨v, ?_⟩, fun i hi => ?_⟩
  · have m1 : MSK (up f (151 + 13 * b + kind) 0) := h.2.c (fun p hp => (w p hp).2) (fun i _ _ => up_n (by omega))
    have w1 : ∀ p, p < 6 → up f (151 + 13 * b + kind) 0 (229 + p) ≤ 52 := fun p hp => by rw [up_n (by omega)]; exact (w p hp).2
    have m2 := m1.bars (k := b) (kind := (kind : Int)) w1 (by omega)
    refine m2.c (fun p hp => by rw [barsF_o hb w2 (by omega)]; exact w1 p hp) (fun i _ _ => ?_)
    unfold gvF
    rw [up_n (by omega), up_n (by omega), up_n (by omega), up_n (by omega), up_n (by omega)]
  · unfold gvF
    rw [up_n (by omega), up_n (by omega), up_n (by omega), up_n (by omega), up_n (by omega), barsF_o hb w2 (by omega), up_n (by omega)]
theorem VX.gi {f : Nat → Int} {a b kind : Nat} (h : VX f) (ha : a < 6) (hb : b < 6) (hab : a ≠ b) (hd' : kind < 13) (hpa : (a : Int) < f 1) (hg : 0 < f (60 + 13 * b + kind)) : VX (gvI f a b kind) ∧ (∀ i, i < 6 ∨ (6 < i ∧ i < 60) ∨ 571 ≤ i → gvI f a b kind i = f i) := by
  have kr := (kn_r h.1 hb hd').1
  obtain ⟨v, k1, hh, _, q⟩ := itL_v (kind := (kind : Int)) h hb (by omega) (f (60 + 13 * b + kind) - f (151 + 13 * b + kind)).toNat (by
    show f (151 + 13 * b + (kind : Int).toNat) + _ ≤ f (60 + 13 * b + (kind : Int).toNat)
    rw [show (kind : Int).toNat = kind from by omega]; omega)
  unfold kn at k1
  rw [show (kind : Int).toNat = kind from by omega] at k1
  have h1 := hh b kind hb hd'
  unfold hd at h1
  unfold gvI
  generalize itL f b (kind : Int) (f (60 + 13 * b + kind) - f (151 + 13 * b + kind)).toNat = g at *
  rw [← h1]
  obtain ⟨v2, q2⟩ := v.gv ha hb hab hd' (by rw [q 1 (by omega)]; exact hpa) (by omega) (by omega)
  exact ⟨v2, fun i hi => (q2 i (by omega)).trans (q i (by omega))⟩
theorem VX.no {f : Nat → Int} {p kind : Nat} (h : VX f) (hp : p < 6) (hpp : (p : Int) < f 1) (h6 : 0 ≤ f 6 ∧ f 6 < f 1) : VX (noF f p kind) ∧ (∀ i, i < 6 ∨ 571 ≤ i → noF f p kind i = f i) ∧ (0 ≤ noF f p kind 6 ∧ noF f p kind 6 ≤ f 1) := by
  unfold noF
  by_cases c : f 7 = 0
  · rw [if_pos c]
    exact ⟨h.t (Or.inr rfl), fun i hi => up_n (by omega), by rw [up_s]; omega⟩
  · rw [if_neg c]
    have m := h.1.1.2.2.2
    obtain ⟨a, b, _⟩ := (h.t (v := 0) (Or.inr rfl)).dc (p := p) (shown := noS f kind) hp (by rw [up_n (by decide)]; exact hpp) (by rw [up_n (by decide)]; omega)
    refine ⟨a, fun i hi => (b i (by omega)).trans (up_n (by omega)), ?_⟩
    rw [b 6 (by omega), up_s]
    omega
theorem noN_r {f : Nat → Int} {p kind : Nat} (hp : (p : Int) < f 1) : 0 ≤ noN f p kind ∧ noN f p kind < f 1 := by
  unfold noN
  split
  · omega
  · exact aft_r (by omega) (by omega)
/-- the row before the turn -/
def akM (f : Nat → Int) (a b kind : Nat) (lies : Int) : Nat → Int := if gvs f b kind lies then booksF (gvI (ak1F f a kind) a b kind) a kind else noF (denF (ak1F f a kind) b kind) a kind
def akN (f : Nat → Int) (a b kind : Nat) (lies : Int) : Int := if gvs f b kind lies then a else noN (denF (ak1F f a kind) b kind) a kind
theorem askF_m {f : Nat → Int} {a b kind : Nat} {lies : Int} : askF f a b kind lies = finF (akM f a b kind lies) (akN f a b kind lies) := by
  unfold askF akM akN
  by_cases c : gvs f b kind lies
  · rw [if_pos c, if_pos c, if_pos c]
  · rw [if_neg c, if_neg c, if_neg c]
