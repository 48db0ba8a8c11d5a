theorem GR.n9 {σ : xS} {f : Nat → Int} (H : GR σ f) : 0 ≤ σ 9 2 ∧ σ 9 2 ≤ 52 := ⟨H.2.2.2.1.1.1, H.2.2.2.1.2⟩
/-- whose turn it is stands apart -/
theorem GR.f4 {σ : xS} {f : Nat → Int} {v : Int} (H : GR σ f) : GR σ (up f 4 v) := by
  obtain ⟨hM, hC, ⟨hH, h7⟩, ⟨hO, hn⟩, hX⟩ := H
  exact ⟨hM.ag (fun i hi => up_n (by omega)), hC.of (fun _ _ => rfl) (fun i a b => up_n (by omega)), ⟨hH.of rfl rfl rfl h7 (fun i a b => up_n (by omega)), by rw [up_n (by decide)]; exact h7⟩, ⟨hO.c (fun _ _ => rfl) (fun i a b => up_n (by omega)) (fun q hq => (hO.w hn q hq).2), hn⟩, hX⟩
/-! The game's steps, one on another. -/
def itL (f : Nat → Int) (k : Nat) (kind : Int) : Nat → Nat → Int
  | 0 => f
  | n + 1 => learnF (itL f k kind n) k kind
/-- a book is laid: what was known is g -/
def bkF (g : Nat → Int) (k kind : Nat) : Nat → Int := up (up (up g (151 + 13 * k + kind) 0) (60 + 13 * k + kind) (g (60 + 13 * k + kind) - 4)) (138 + kind) ((k : Int) + 1)
def booksF (f : Nat → Int) (k kind : Nat) : Nat → Int := if f (60 + 13 * k + kind) < 4 then f else bkF (itL f k (kind : Int) (4 - f (151 + 13 * k + kind)).toNat) k kind
/-- a card is drawn -/
def drawsF (f : Nat → Int) (k : Nat) : Nat → Int := up (up (popF f) (60 + 13 * k + (f 8).toNat) (f (60 + 13 * k + (f 8).toNat) + 1)) (565 + k) (f 8 + 1)
/-- one more is known of a kind -/
def seeF (f : Nat → Int) (k kind : Nat) (n : Int) : Nat → Int := up f (151 + 13 * k + kind) (f (151 + 13 * k + kind) + n)
/-- a card is drawn, shown or not, and a book laid if it is one -/
def dcM (f : Nat → Int) (k : Nat) (shown : Int) : Nat → Int := if shown = 0 then addsF (drawsF f k) k 0 else seeF (drawsF f k) k (f 8).toNat 1
def dcF (f : Nat → Int) (k : Nat) (shown : Int) : Nat → Int := booksF (dcM f k shown) k (f 8).toNat
/-- up to n cards, while the heap has some -/
def drN (f : Nat → Int) (k : Nat) : Nat → Nat → Int
  | 0 => f
  | n + 1 => if 0 < f 7 then drN (dcF f k 0) k n else f
/-- a hand is filled -/
def rfN (f : Nat → Int) (k : Nat) : Nat → Nat → Int
  | 0 => f
  | n + 1 => if cd f k = 0 ∧ 0 < f 3 ∧ 0 < f 7 then rfN (drN f k (f 3).toNat) k n else f
def rfF (f : Nat → Int) (k : Nat) : Nat → Int := rfN f k 52
def aft (n p : Int) : Int := if p + 1 < n then p + 1 else 0
/-- whose turn it is: the first with a card from p on -/
def stN (f : Nat → Int) (p : Int) : Nat → Nat → Int
  | 0 => f
  | n + 1 => if 0 < cd (rfF f p.toNat) p.toNat then up (rfF f p.toNat) 4 p else stN (rfF f p.toNat) (aft (f 1) p) n
def stF (f : Nat → Int) (p : Int) : Nat → Int := stN (up f 4 (-1)) p (f 1).toNat
/-- n others more -/
def adN (f : Nat → Int) (k : Nat) : Nat → Nat → Int
  | 0 => f
  | n + 1 => addsF (adN f k n) k 0
/-- a no is heard: one is caught; what was known is no more -/
def cgF (f : Nat → Int) (k kind : Nat) : Nat → Int := if 0 < f (151 + 13 * k + kind) then up f (547 + k) (wr (f (547 + k) + 1)) else f
def dnI (f : Nat → Int) (k kind j : Nat) : Nat → Int := up (adN f k j) (151 + 13 * k + kind) (f (151 + 13 * k + kind) - j)
def denF (f : Nat → Int) (k kind : Nat) : Nat → Int := barsF (dnI (cgF f k kind) k kind (f (151 + 13 * k + kind)).toNat) k (fun m => orF m (kind : Int))
/-- how many of p's others can be of the kind -/
def canN (f : Nat → Int) (p : Nat) (kind : Int) : Nat → Int
  | 0 => 0
  | r + 1 => canN f p kind r + (if bF (f (235 + 52 * p + r)) kind = 0 then 1 else 0)
def canF (f : Nat → Int) (p : Nat) (kind : Int) : Int := canN f p kind (f (229 + p)).toNat
def sureF (f : Nat → Int) (p kind : Nat) : Int := if 0 < f (151 + 13 * p + kind) then 2 else if 0 < canF f p (kind : Int) then 1 else 0
/-- an asking: it is counted, the asker has one -/
def acF (f : Nat → Int) (a : Nat) : Nat → Int := up (up f 5 (wr (f 5 + 1))) (553 + a) (wr (f (553 + a) + 1))
def ak1F (f : Nat → Int) (a kind : Nat) : Nat → Int := if f (151 + 13 * a + kind) = 0 then learnF (acF f a) a (kind : Int) else acF f a
/-- g cards go from b to a -/
def gvF (f : Nat → Int) (a b kind : Nat) (g : Int) : Nat → Int := up (up (up (up (up (barsF (up f (151 + 13 * b + kind) 0) b (fun m => orF m (kind : Int))) (60 + 13 * b + kind) (f (60 + 13 * b + kind) - g)) (60 + 13 * a + kind) (f (60 + 13 * a + kind) + g)) (151 + 13 * a + kind) (f (151 + 13 * a + kind) + g)) (559 + a) (wr (f (559 + a) + g))) 6 0
def gvI (f : Nat → Int) (a b kind : Nat) : Nat → Int := gvF (itL f b (kind : Int) (f (60 + 13 * b + kind) - f (151 + 13 * b + kind)).toNat) a b kind (f (60 + 13 * b + kind))
/-- a no: a card is drawn, if there is one -/
def noS (f : Nat → Int) (kind : Nat) : Int := if f 2 = 1 ∧ f 8 = (kind : Int) then 1 else 0
def noF (f : Nat → Int) (a kind : Nat) : Nat → Int := if f 7 = 0 then up f 6 (f 6 + 1) else dcF (up f 6 0) a (noS f kind)
def noN (f : Nat → Int) (a kind : Nat) : Int := if ¬ f 7 = 0 ∧ noS f kind = 1 then a else aft (f 1) a
def finF (f : Nat → Int) (p : Int) : Nat → Int := if f 6 = f 1 then up f 4 (-1) else stF f p
def lyF (g : Nat → Int) (k kind : Nat) : Int := if g (60 + 13 * k + kind) < 4 then -1 else kind
/-- does b give -/
abbrev gvs (f : Nat → Int) (b kind : Nat) (lies : Int) : Prop := 0 < f (60 + 13 * b + kind) ∧ lies = 0
def askF (f : Nat → Int) (a b kind : Nat) (lies : Int) : Nat → Int := if gvs f b kind lies then finF (booksF (gvI (ak1F f a kind) a b kind) a kind) a else finF (noF (denF (ak1F f a kind) b kind) a kind) (noN (denF (ak1F f a kind) b kind) a kind)
/-- what is told of it -/
def askR (f : Nat → Int) (a b kind : Nat) (lies : Int) : Nat → Int := fun i =>
  if i = 0 then a else if i = 1 then b else if i = 2 then kind
  else if i = 3 then (if gvs f b kind lies then f (60 + 13 * b + kind) else 0)
  else if i = 4 then (if gvs f b kind lies then -1 else if denF (ak1F f a kind) b kind 7 = 0 then -1 else denF (ak1F f a kind) b kind 8)
  else if i = 5 then (if gvs f b kind lies then lyF (gvI (ak1F f a kind) a b kind) a kind else if denF (ak1F f a kind) b kind 7 = 0 then -1 else lyF (dcM (up (denF (ak1F f a kind) b kind) 6 0) a (noS (denF (ak1F f a kind) b kind) kind)) a (denF (ak1F f a kind) b kind 8).toNat)
  else if i = 6 then (if 0 < f (60 + 13 * b + kind) ∧ lies = 1 then 1 else 0)
  else sureF f b kind
theorem drN_s {f : Nat → Int} {k n : Nat} : drN f k (n + 1) = if 0 < f 7 then drN (dcF f k 0) k n else f := rfl
theorem rfN_s {f : Nat → Int} {k n : Nat} : rfN f k (n + 1) = if cd f k = 0 ∧ 0 < f 3 ∧ 0 < f 7 then rfN (drN f k (f 3).toNat) k n else f := rfl
theorem stN_s {f : Nat → Int} {p : Int} {n : Nat} : stN f p (n + 1) = if 0 < cd (rfF f p.toNat) p.toNat then up (rfF f p.toNat) 4 p else stN (rfF f p.toNat) (aft (f 1) p) n := rfl
theorem drN_e {f : Nat → Int} {k n : Nat} (h : n = 0 ∨ ¬ 0 < f 7) : drN f k n = f := by
  cases n with
  | zero => rfl
  | succ n => rw [drN_s, if_neg (by omega)]
theorem rfN_e {f : Nat → Int} {k n : Nat} (h : n = 0 ∨ ¬ (cd f k = 0 ∧ 0 < f 3 ∧ 0 < f 7)) : rfN f k n = f := by
  cases n with
  | zero => rfl
  | succ n => rw [rfN_s, if_neg (by omega)]

