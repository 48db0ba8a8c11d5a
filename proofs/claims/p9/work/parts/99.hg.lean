/-! What the steps keep. -/
/-- the numbers and the play stay -/
def QF (f g : Nat → Int) : Prop := ∀ i, i < 7 ∨ 571 ≤ i → g i = f i
theorem QF.rf {f : Nat → Int} : QF f f := fun _ _ => rfl
theorem QF.tr {f g h : Nat → Int} (a : QF f g) (b : QF g h) : QF f h := fun i hi => (b i hi).trans (a i hi)
def QB (f g : Nat → Int) : Prop := ∀ i, i < 60 ∨ 571 ≤ i → g i = f i
theorem QB.rf {f : Nat → Int} : QB f f := fun _ _ => rfl
theorem QB.tr {f g h : Nat → Int} (a : QB f g) (b : QB g h) : QB f h := fun i hi => (b i hi).trans (a i hi)
theorem QB.q {f g : Nat → Int} (a : QB f g) : QF f g := fun i hi => a i (by omega)
theorem QB.up {f g : Nat → Int} (a : QB f g) {j : Nat} {v : Int} (h1 : 60 ≤ j) (h2 : j < 571) : QB f (up g j v) := fun i hi => by rw [up_n (by omega)]; exact a i hi
theorem QF.up {f g : Nat → Int} (a : QF f g) {j : Nat} {v : Int} (h1 : 7 ≤ j) (h2 : j < 571) : QF f (up g j v) := fun i hi => by rw [up_n (by omega)]; exact a i hi
def VX (f : Nat → Int) : Prop := V0 f ∧ MSK f
theorem MSK.c {f g : Nat → Int} (h : MSK f) (hw : ∀ p, p < 6 → f (229 + p) ≤ 52) (e : ∀ i, 229 ≤ i → i < 547 → g i = f i) : MSK g := fun p i hp hi => by
  rw [e (229 + p) (by omega) (by omega)] at hi
  have := hw p hp
  rw [e (235 + 52 * p + i) (by omega) (by omega)]
  exact h p i hp hi
theorem MSK.adds {f : Nat → Int} {k : Nat} (h : MSK f) (hw : ∀ p, p < 6 → 0 ≤ f (229 + p) ∧ f (229 + p) ≤ 52) (hk : k < 6) (h51 : f (229 + k) ≤ 51) : MSK (addsF f k 0) := fun p i hp hi => by
  have w := hw p hp
  have wk := hw k hk
  by_cases e : p = k
  · subst e
    rw [addsF_n] at hi
    by_cases e2 : (i : Int) = f (229 + p)
    · rw [show i = (f (229 + p)).toNat from by omega, addsF_m hk]; decide
    · rw [addsF_o (by omega) (by omega)]; exact h p i hp (by omega)
  · rw [addsF_o (by omega) (by omega)] at hi
    rw [addsF_o (by omega) (by omega)]; exact h p i hp hi
theorem MSK.takes {f : Nat → Int} {k i0 : Nat} (h : MSK f) (hw : ∀ p, p < 6 → 0 ≤ f (229 + p) ∧ f (229 + p) ≤ 52) (hk : k < 6) : MSK (takesF f k i0) := fun p i hp hi => by
  have w := hw p hp
  have wk := hw k hk
  by_cases e : p = k
  · subst e
    rw [takesF_n] at hi
    by_cases e2 : i0 ≤ i
    · rw [takesF_s hk e2 (by omega), show 235 + 52 * p + i + 1 = 235 + 52 * p + (i + 1) from rfl]
      exact h p (i + 1) hp (by omega)
    · rw [takesF_o (by omega) (by omega)]; exact h p i hp (by omega)
  · rw [takesF_o (by omega) (by omega)] at hi
    rw [takesF_o (by omega) (by omega)]; exact h p i hp hi
theorem MSK.bars {f : Nat → Int} {k : Nat} {kind : Int} (h : MSK f) (hw : ∀ p, p < 6 → f (229 + p) ≤ 52) (hd : 0 ≤ kind ∧ kind ≤ 12) : MSK (barsF f k (fun m => orF m kind)) := fun p i hp hi => by
  have w := hw p hp
  have e : barsF f k (fun m => orF m kind) (229 + p) = f (229 + p) := by
    unfold barsF
    rw [if_neg (by omega)]
  rw [e] at hi
  have z := h p i hp hi
  unfold barsF
  by_cases c : 235 + 52 * k ≤ 235 + 52 * p + i ∧ ((235 + 52 * p + i : Nat) : Int) < 235 + 52 * k + f (229 + k)
  · rw [if_pos c]; exact orF_r z hd
  · rw [if_neg c]; exact z
theorem V0.w {f : Nat → Int} (h : V0 f) : ∀ p, p < 6 → 0 ≤ f (229 + p) ∧ f (229 + p) ≤ 52 := fun _ hp => h.others hp
/-- one is learned: what else stays -/
theorem learnF_o {f : Nat → Int} {k : Nat} {kind : Int} {j : Nat} (hk : k < 6) (hd : 0 ≤ kind ∧ kind ≤ 12) (h52 : f (229 + k) ≤ 52) (h : j < 229 ∨ 553 ≤ j) (h2 : j ≠ 151 + 13 * k + kind.toNat) : learnF f k kind j = f j := by
  unfold learnF
  by_cases c : f (229 + k) = 0
  · rw [if_pos c]
  · rw [if_neg c]
    by_cases e : ffx f k kind (f (229 + k)).toNat 0 = (f (229 + k)).toNat
    · rw [if_pos e, up_n h2, up_n (by omega), takesF_far hk h52 (by omega)]
    · rw [if_neg e, up_n h2, takesF_far hk h52 (by omega)]
theorem learnF_n {f : Nat → Int} {k : Nat} {kind : Int} (hk : k < 6) (hd : 0 ≤ kind ∧ kind ≤ 12) (h1 : 1 ≤ f (229 + k)) (h52 : f (229 + k) ≤ 52) : learnF f k kind (229 + k) = f (229 + k) - 1 ∧ learnF f k kind (151 + 13 * k + kind.toNat) = f (151 + 13 * k + kind.toNat) + 1 ∧ ∀ q, q < 6 → q ≠ k → learnF f k kind (229 + q) = f (229 + q) := by
  unfold learnF
  rw [if_neg (by omega)]
  by_cases e : ffx f k kind (f (229 + k)).toNat 0 = (f (229 + k)).toNat
  · rw [if_pos e]
    refine ⟨?_, up_s, fun q hq hn => ?_⟩
    · rw [up_n (by omega), up_n (by omega), takesF_n]
    · rw [up_n (by omega), up_n (by omega), takesF_o (by omega) (by omega)]
  · rw [if_neg e]
    refine ⟨?_, up_s, fun q hq hn => ?_⟩
    · rw [up_n (by omega), takesF_n]
    · rw [up_n (by omega), takesF_o (by omega) (by omega)]
theorem learnF_ag {f : Nat → Int} {k : Nat} {kind : Int} (hk : k < 6) (hd : 0 ≤ kind ∧ kind ≤ 12) (h1 : 1 ≤ f (229 + k)) (h52 : f (229 + k) ≤ 52) : AG (up (up f (229 + (k : Int)).toNat (f (229 + (k : Int)).toNat - 1)) (151 + 13 * (k : Int) + kind).toNat (f (151 + 13 * (k : Int) + kind).toNat + 1)) (learnF f k kind) := by
  have e1 : (229 + (k : Int)).toNat = 229 + k := by omega
  have e2 : (151 + 13 * (k : Int) + kind).toNat = 151 + 13 * k + kind.toNat := by omega
  rw [e1, e2]
  obtain ⟨a, b, c⟩ := learnF_n hk hd h1 h52
  intro i hi
  unfold IR at hi
  by_cases x : i = 151 + 13 * k + kind.toNat
  · rw [x, b, up_s]
  · rw [up_n x]
    by_cases y : i = 229 + k
    · rw [y, a, up_s]
    · rw [up_n y]
      by_cases z : i < 229 ∨ 553 ≤ i
      · exact learnF_o hk hd h52 z x
      · have w := c (i - 229) (by omega) (by omega)
        rw [show 229 + (i - 229) = i from by omega] at w
        exact w
theorem MSK.learn {f : Nat → Int} {k : Nat} {kind : Int} (h : MSK f) (hw : ∀ p, p < 6 → 0 ≤ f (229 + p) ∧ f (229 + p) ≤ 52) (hk : k < 6) (hd : 0 ≤ kind ∧ kind ≤ 12) : MSK (learnF f k kind) := by
  have wt : ∀ i0 : Nat, 1 ≤ f (229 + k) → ∀ p, p < 6 → takesF f k i0 (229 + p) ≤ 52 := fun i0 h1 p hp => by
    have := hw p hp
    by_cases e : p = k
    · subst e; rw [takesF_n]; omega
    · rw [takesF_o (by omega) (by have := hw k hk; omega)]; omega
  unfold learnF
  by_cases c : f (229 + k) = 0
  · rw [if_pos c]; exact h
  · rw [if_neg c]
    have h1 : 1 ≤ f (229 + k) := by have := hw k hk; omega
    by_cases e : ffx f k kind (f (229 + k)).toNat 0 = (f (229 + k)).toNat
    · rw [if_pos e]
      exact (h.takes hw hk (i0 := 0)).c (wt 0 h1) (fun i a b => by rw [up_n (by omega), up_n (by omega)])
    · rw [if_neg e]
      exact (h.takes hw hk).c (wt _ h1) (fun i a b => up_n (by omega))
/-- one is learned -/
theorem VX.learn {f : Nat → Int} {k : Nat} {kind : Int} (h : VX f) (hk : k < 6) (hd' : 0 ≤ kind ∧ kind ≤ 12) (hlt : kn f k kind.toNat < hd f k kind.toNat) : VX (learnF f k kind) ∧ kn (learnF f k kind) k kind.toNat = kn f k kind.toNat + 1 ∧ (∀ p j, p < 6 → j < 13 → hd (learnF f k kind) p j = hd f p j) ∧ (∀ p j, p < 6 → j < 13 → ¬ (p = k ∧ j = kind.toNat) → kn (learnF f k kind) p j = kn f p j) ∧ QB f (learnF f k kind) := by
  have w := h.1.w k hk
  have s := h.1.some hk (k := kind.toNat) (by omega)
  obtain ⟨a, b, _, c, d⟩ := h.1.learn (k := (k : Int)) (kind := kind) (by omega) hd' (by simpa using hlt) (learnF_ag hk hd' (by omega) w.2)
  exact ⟨⟨a, h.2.learn h.1.w hk hd'⟩, by simpa using b, c, by simpa using d, fun i hi => learnF_o hk hd' w.2 (by omega) (by omega)⟩
theorem itL_v {f : Nat → Int} {k : Nat} {kind : Int} (h : VX f) (hk : k < 6) (hd' : 0 ≤ kind ∧ kind ≤ 12) : ∀ n : Nat, kn f k kind.toNat + n ≤ hd f k kind.toNat → VX (itL f k kind n) ∧ kn (itL f k kind n) k kind.toNat = kn f k kind.toNat + n ∧ (∀ p j, p < 6 → j < 13 → hd (itL f k kind n) p j = hd f p j) ∧ (∀ p j, p < 6 → j < 13 → ¬ (p = k ∧ j = kind.toNat) → kn (itL f k kind n) p j = kn f p j) ∧ QB f (itL f k kind n)
  | 0, _ => ⟨h, by show kn f k kind.toNat = _; omega, fun _ _ _ _ => rfl, fun _ _ _ _ _ => rfl, QB.rf⟩
  | n + 1, hn => by
    obtain ⟨a, b, c, d, q⟩ := itL_v h hk hd' n (by omega)
    obtain ⟨a', b', c', d', q'⟩ := a.learn hk hd' (by rw [b, c k kind.toNat hk (by omega)]; omega)
    refine ⟨a', ?_, fun p j hp hj => (c' p j hp hj).trans (c p j hp hj), fun p j hp hj hn => (d' p j hp hj hn).trans (d p j hp hj hn), q.tr q'⟩
    show kn (learnF (itL f k kind n) k kind) k kind.toNat = _
    rw [b', b]; omega
/-- a book -/
theorem VX.books {f : Nat → Int} {k kind : Nat} (h : VX f) (hk : k < 6) (hd' : kind < 13) : VX (booksF f k kind) ∧ QB f (booksF f k kind) := by
  unfold booksF
  by_cases c : f (60 + 13 * k + kind) < 4
  · rw [if_pos c]; exact ⟨h, QB.rf⟩
  · rw [if_neg c]
    have hh := h.1.hand hk hd'
    have h4 : hd f k kind = 4 := by
      have : hd f k kind = f (60 + 13 * k + kind) := rfl
      omega
    have hkn := h.1.2.2.1 k kind hk hd'
    have ek : kn f k kind = f (151 + 13 * k + kind) := rfl
    obtain ⟨a, b, e, _, q⟩ := itL_v (kind := (kind : Int)) h hk (by omega) (4 - f (151 + 13 * k + kind)).toNat (by simp only [Int.toNat_natCast]; omega)
    simp only [Int.toNat_natCast] at b
    generalize itL f k (kind : Int) (4 - f (151 + 13 * k + kind)).toNat = g at *
    have g4 := e k kind hk hd'
    have e3 : (138 + (kind : Int)).toNat = 138 + kind := by omega
    have e2 : (151 + 13 * (k : Int) + (kind : Int)).toNat = 151 + 13 * k + kind := by omega
    have e1 : (60 + 13 * (k : Int) + (kind : Int)).toNat = 60 + 13 * k + kind := by omega
    obtain ⟨v, _⟩ := a.1.book (f' := bkF g k kind) (k := (k : Int)) (kind := (kind : Int)) (by omega) (by omega) (by simp only [Int.toNat_natCast]; omega) (by simp only [Int.toNat_natCast]; omega) (by
      rw [e1, e2, e3]
      exact AG.rf)
    refine ⟨⟨v, a.2.c (fun p hp => (a.1.w p hp).2) (fun i h1 h2 => ?_)⟩, ?_⟩
    · unfold bkF
      rw [up_n (by omega), up_n (by omega), up_n (by omega)]
    · unfold bkF
      exact ((q.up (by omega) (by omega)).up (by omega) (by omega)).up (by omega) (by omega)
/-- a card is drawn -/
theorem drw_F {f : Nat → Int} {p : Nat} (h : V0 f) (hp : p < 6) (h7 : 1 ≤ f 7) : DRW f (drawsF f p) p (f 8).toNat := by
  have c8 := h.c8 h7
  have m := h.1.2.2.2
  have e : ((f 8).toNat : Int) = f 8 := by omega
  have hpop : popF f (60 + 13 * p + (f 8).toNat) = f (60 + 13 * p + (f 8).toNat) := popF_o m.2 (by omega)
  refine ⟨e.symm, ?_, fun i hi => ?_, ?_, ?_, fun i h1 h2 h3 h4 h5 => ?_⟩
  · unfold drawsF
    rw [up_n (by omega), up_n (by omega)]
    exact if_pos rfl
  · unfold drawsF
    rw [up_n (by omega), up_n (by omega)]
    unfold popF
    rw [if_neg (by omega), if_pos ⟨by omega, by omega⟩]
  · show drawsF f p (60 + 13 * p + (f 8).toNat) = f (60 + 13 * p + (f 8).toNat) + 1
    unfold drawsF
    rw [up_n (by omega), up_s]
  · unfold drawsF
    rw [up_s, e]
  · unfold drawsF
    rw [up_n h5, up_n h4]
    unfold popF
    rw [if_neg h2, if_neg (by omega)]
theorem drawsF_q {f : Nat → Int} {p : Nat} (h : V0 f) (hp : p < 6) (h7 : 1 ≤ f 7) : QF f (drawsF f p) ∧ ∀ i, 229 ≤ i → i < 547 → drawsF f p i = f i := by
  have c8 := h.c8 h7
  have m := h.1.2.2.2
  have hq : ∀ i, i < 7 ∨ 571 ≤ i ∨ (229 ≤ i ∧ i < 547) → drawsF f p i = f i := fun i hi => by
    unfold drawsF
    rw [up_n (by omega), up_n (by omega)]
    exact popF_o m.2 (by omega)
  exact ⟨fun i hi => hq i (by omega), fun i a b => hq i (by omega)⟩
theorem drA_ag {f : Nat → Int} {k : Nat} {m : Int} (hk : k < 6) (h0 : 0 ≤ f (229 + k) ∧ f (229 + k) ≤ 51) : AG (up f (229 + k) (f (229 + k) + 1)) (addsF f k m) := fun i hi => by
  unfold IR at hi
  by_cases e : i = 229 + k
  · rw [e, up_s, addsF_n]
  · rw [up_n e, addsF_o e (by omega)]
theorem VX.dc0 {f : Nat → Int} {p : Nat} (h : VX f) (hp : p < 6) (hpp : (p : Int) < f 1) (h7 : 1 ≤ f 7) : VX (addsF (drawsF f p) p 0) ∧ QF f (addsF (drawsF f p) p 0) ∧ addsF (drawsF f p) p 0 7 = f 7 - 1 := by
  have d := drw_F h.1 hp h7
  have o := h.1.o51 hp hpp h7 d
  obtain ⟨q1, q2⟩ := drawsF_q h.1 hp h7
  obtain ⟨v, v7, _⟩ := h.1.drA (h := addsF (drawsF f p) p 0) hp hpp h7 d (drA_ag hp o)
  have w : ∀ q, q < 6 → 0 ≤ drawsF f p (229 + q) ∧ drawsF f p (229 + q) ≤ 52 := fun q hq => by
    rw [q2 _ (by omega) (by omega)]; exact h.1.w q hq
  exact ⟨⟨v, (h.2.c (fun q hq => (h.1.w q hq).2) q2).adds w hp o.2⟩, fun i hi => (addsF_o (by omega) (by omega)).trans (q1 i hi), v7⟩
theorem VX.dc1 {f : Nat → Int} {p : Nat} (h : VX f) (hp : p < 6) (hpp : (p : Int) < f 1) (h7 : 1 ≤ f 7) : VX (seeF (drawsF f p) p (f 8).toNat 1) ∧ QF f (seeF (drawsF f p) p (f 8).toNat 1) ∧ seeF (drawsF f p) p (f 8).toNat 1 7 = f 7 - 1 := by
  have d := drw_F h.1 hp h7
  have c8 := h.1.c8 h7
  obtain ⟨q1, q2⟩ := drawsF_q h.1 hp h7
  obtain ⟨v, v7, _⟩ := h.1.drK (h := seeF (drawsF f p) p (f 8).toNat 1) hp hpp h7 d AG.rf
  refine ⟨⟨v, h.2.c (fun q hq => (h.1.w q hq).2) (fun i a b => ?_)⟩, ?_, v7⟩
  · unfold seeF
    rw [up_n (by omega)]; exact q2 i a b
  · unfold seeF
    exact q1.up (by omega) (by omega)
theorem VX.dc {f : Nat → Int} {p : Nat} {shown : Int} (h : VX f) (hp : p < 6) (hpp : (p : Int) < f 1) (h7 : 1 ≤ f 7) : VX (dcF f p shown) ∧ QF f (dcF f p shown) ∧ dcF f p shown 7 = f 7 - 1 := by
  have c8 := h.1.c8 h7
  unfold dcF dcM
  by_cases c : shown = 0
  · rw [if_pos c]
    obtain ⟨a, b, e⟩ := h.dc0 hp hpp h7
    obtain ⟨a', b'⟩ := a.books (kind := (f 8).toNat) hp (by omega)
    exact ⟨a', b.tr b'.q, (b' 7 (by omega)).trans e⟩
  · rw [if_neg c]
    obtain ⟨a, b, e⟩ := h.dc1 hp hpp h7
    obtain ⟨a', b'⟩ := a.books (kind := (f 8).toNat) hp (by omega)
    exact ⟨a', b.tr b'.q, (b' 7 (by omega)).trans e⟩
/-- what no heap touches: kinds .. vain, the play and beyond -/
theorem drN_v {p : Nat} (hp : p < 6) : ∀ (n : Nat) {f : Nat → Int}, VX f → (p : Int) < f 1 → VX (drN f p n) ∧ QF f (drN f p n)
  | 0, _, h, _ => ⟨h, QF.rf⟩
  | n + 1, f, h, hpp => by
    rw [drN_s]
    by_cases c : 0 < f 7
    · rw [if_pos c]
      obtain ⟨a, b, _⟩ := h.dc (shown := 0) hp hpp (by omega)
      obtain ⟨a', b'⟩ := drN_v hp n a (by rw [b 1 (by omega)]; exact hpp)
      exact ⟨a', b.tr b'⟩
    · rw [if_neg c]; exact ⟨h, QF.rf⟩
