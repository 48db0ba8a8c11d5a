/-! Open hands of two: what a move keeps, and what falls. -/
/-- cards of a kind from place p of the heap on (at most four) -/
def cr (f : Nat → Int) (p : Int) (k : Nat) : Int := sm 4 (fun i => if p ≤ (i : Int) ∧ (i : Int) < f 7 ∧ f (8 + i) = (k : Int) then 1 else 0)
theorem cr_nn {f : Nat → Int} {p : Int} {k : Nat} : 0 ≤ cr f p k := sm_nn (fun i _ => by split <;> omega)
theorem cr_s {f : Nat → Int} {p : Int} {k : Nat} (h0 : 0 ≤ p) (h1 : p < f 7) (h2 : f 7 ≤ 4) : cr f p k = cr f (p + 1) k + (if f (8 + p).toNat = (k : Int) then 1 else 0) := by
  have e := sm_upd (n := 4) (g := fun i : Nat => if p + 1 ≤ (i : Int) ∧ (i : Int) < f 7 ∧ f (8 + i) = (k : Int) then (1 : Int) else 0) (g' := fun i : Nat => if p ≤ (i : Int) ∧ (i : Int) < f 7 ∧ f (8 + i) = (k : Int) then (1 : Int) else 0) (j := p.toNat) (by omega) (fun i hi hne => by
    by_cases c : p ≤ (i : Int)
    · by_cases d : (i : Int) < f 7 ∧ f (8 + i) = (k : Int)
      · rw [if_pos ⟨c, d⟩, if_pos ⟨by omega, d⟩]
      · rw [if_neg (fun h => d h.2), if_neg (fun h => d h.2)]
    · rw [if_neg (fun h => c h.1), if_neg (fun h => by have := h.1; omega)])
  unfold cr
  rw [e, if_neg (fun h => by have := h.1; omega)]
  rw [show (8 + p).toNat = 8 + p.toNat from by omega]
  by_cases d : f (8 + p.toNat) = (k : Int)
  · rw [if_pos d, if_pos ⟨by omega, by omega, d⟩]; omega
  · rw [if_neg d, if_neg (fun h => d h.2.2)]; omega
def GB (f m h : Nat → Int) (p : Int) : Prop := (0 ≤ p ∧ p ≤ f 7) ∧ ∀ k : Nat, k < 3 → 0 ≤ m k ∧ 0 ≤ h k ∧ m k + h k + cr f p k ≤ 4 ∧ (f 0 ≤ k → m k = 0 ∧ h k = 0)
def nz3 (m : Nat → Int) : Int := sm 3 (fun k => if m k = 0 then 0 else 1)
def ph (f m h : Nat → Int) (p : Int) : Int := 2 * (f 7 - p) + nz3 m + nz3 h
theorem nz3_b {m : Nat → Int} : 0 ≤ nz3 m ∧ nz3 m ≤ 3 := by
  refine ⟨sm_nn (fun i _ => by split <;> omega), ?_⟩
  have a := sm_le (n := 3) (g := fun k => if m k = 0 then (0 : Int) else 1) (g' := fun _ => 1) (fun i _ => by split <;> omega)
  rw [sm_const] at a
  exact a
theorem nz3_eq {m m' : Nat → Int} (h : ∀ k, k < 3 → m' k = m k) : nz3 m' = nz3 m := sm_congr (fun i hi => by rw [h i hi])
theorem nz3_up {m m' : Nat → Int} {c : Nat} (hc : c < 3) (h : ∀ k, k < 3 → k ≠ c → m' k = m k) : nz3 m' = nz3 m - (if m c = 0 then 0 else 1) + (if m' c = 0 then 0 else 1) :=
  sm_upd (g := fun k => if m k = 0 then (0 : Int) else 1) (g' := fun k => if m' k = 0 then (0 : Int) else 1) hc (fun i hi hne => by rw [h i hi hne])
theorem GB.sw {f m h : Nat → Int} {p : Int} (g : GB f m h p) : GB f h m p := ⟨g.1, fun k hk => by have := g.2 k hk; exact ⟨this.2.1, this.1, by omega, fun hx => ⟨(this.2.2.2 hx).2, (this.2.2.2 hx).1⟩⟩⟩
theorem ph_sw {f m h : Nat → Int} {p : Int} : ph f h m p = ph f m h p := by unfold ph; omega
theorem GB.eq {f m h m' h' : Nat → Int} {p p' : Int} (g : GB f m h p) (hm : ∀ k, k < 3 → m' k = m k) (hh : ∀ k, k < 3 → h' k = h k) (hp : p' = p) : GB f m' h' p' := by
  subst hp
  exact ⟨g.1, fun k hk => by rw [hm k hk, hh k hk]; exact g.2 k hk⟩
theorem ph_eq {f m h m' h' : Nat → Int} {p p' : Int} (hm : ∀ k, k < 3 → m' k = m k) (hh : ∀ k, k < 3 → h' k = h k) (hp : p' = p) : ph f m' h' p' = ph f m h p := by
  subst hp; unfold ph; rw [nz3_eq hm, nz3_eq hh]
theorem GB.b {f m h : Nat → Int} {p : Int} (g : GB f m h p) {k : Nat} (hk : k < 3) : (0 ≤ m k ∧ m k ≤ 4) ∧ (0 ≤ h k ∧ h k ≤ 4) := by
  have a := g.2 k hk
  have b := cr_nn (f := f) (p := p) (k := k)
  omega
/-- a card is drawn -/
theorem GB.draw {f m h m' : Nat → Int} {p c : Int} (g : GB f m h p) (h4 : f 7 ≤ 4) (hp : p < f 7) (hc : f (8 + p).toNat = c) (hc0 : 0 ≤ c ∧ c < f 0 ∧ c < 3) (e : m' c.toNat = m c.toNat + 1) (s : ∀ k, k ≠ c.toNat → m' k = m k) : GB f m' h (p + 1) ∧ ph f m' h (p + 1) ≤ ph f m h p - 1 ∧ m' c.toNat ≤ 4 := by
  have g1 := g.1
  have gk : GB f m' h (p + 1) := ⟨by omega, fun k hk => by
    have a := g.2 k hk
    have b := cr_s (f := f) (p := p) (k := k) g1.1 hp h4
    rw [hc] at b
    by_cases d : k = c.toNat
    · subst d
      rw [if_pos (by omega)] at b
      rw [e]
      exact ⟨by omega, a.2.1, by omega, fun hx => by omega⟩
    · rw [if_neg (by omega)] at b
      rw [s k d]
      exact ⟨a.1, a.2.1, by omega, a.2.2.2⟩⟩
  refine ⟨gk, ?_, (gk.b (k := c.toNat) (by omega)).1.2⟩
  have n := nz3_up (m := m) (m' := m') (c := c.toNat) (by omega) (fun k _ hk => s k hk)
  have a := g.2 c.toNat (by omega)
  unfold ph
  rw [n]
  split <;> split <;> omega
/-- a book is laid -/
theorem GB.lay {f m h m' : Nat → Int} {p c : Int} (g : GB f m h p) (hc0 : 0 ≤ c ∧ c < 3) (e : m' c.toNat = 0) (s : ∀ k, k ≠ c.toNat → m' k = m k) : GB f m' h p ∧ ph f m' h p ≤ ph f m h p := by
  refine ⟨⟨g.1, fun k hk => ?_⟩, ?_⟩
  · have a := g.2 k hk
    by_cases d : k = c.toNat
    · subst d
      rw [e]
      exact ⟨by omega, a.2.1, by omega, fun hx => ⟨rfl, (a.2.2.2 hx).2⟩⟩
    · rw [s k d]; exact a
  · have n := nz3_up (m := m) (m' := m') (c := c.toNat) (by omega) (fun k _ hk => s k hk)
    unfold ph
    rw [n, if_pos e]
    split <;> omega
/-- all of a kind is given -/
theorem GB.give {f m h m' h' : Nat → Int} {p c : Int} (g : GB f m h p) (hc0 : 0 ≤ c ∧ c < 3) (hm : 0 < m c.toNat) (hh : 0 < h c.toNat) (e : m' c.toNat = m c.toNat + h c.toNat) (e2 : h' c.toNat = 0) (s : ∀ k, k ≠ c.toNat → m' k = m k) (s2 : ∀ k, k ≠ c.toNat → h' k = h k) : GB f m' h' p ∧ ph f m' h' p ≤ ph f m h p - 1 := by
  refine ⟨⟨g.1, fun k hk => ?_⟩, ?_⟩
  · have a := g.2 k hk
    by_cases d : k = c.toNat
    · subst d
      rw [e, e2]
      exact ⟨by omega, by omega, by omega, fun hx => by have := a.2.2.2 hx; omega⟩
    · rw [s k d, s2 k d]; exact a
  · have n := nz3_up (m := m) (m' := m') (c := c.toNat) (by omega) (fun k _ hk => s k hk)
    have n2 := nz3_up (m := h) (m' := h') (c := c.toNat) (by omega) (fun k _ hk => s2 k hk)
    unfold ph
    rw [n, n2, if_pos e2, if_neg (show ¬ m c.toNat = 0 from by omega), if_neg (show ¬ h c.toNat = 0 from by omega), if_neg (show ¬ m' c.toNat = 0 from by omega)]
    omega
/-- the digits of a code -/
def dm (c : Int) (k : Nat) : Int := match k with
  | 0 => c / 10 % 5
  | 1 => c / 250 % 5
  | 2 => c / 6250 % 5
  | _ => 0
def dh (c : Int) (k : Nat) : Int := match k with
  | 0 => c / 50 % 5
  | 1 => c / 1250 % 5
  | 2 => c / 31250 % 5
  | _ => 0
def GD (f : Nat → Int) (c : Int) : Prop := (0 ≤ c ∧ c < 156250) ∧ GB f (dm c) (dh c) (c / 2 % 5) ∧ 0 < dm c 0 + dm c 1 + dm c 2
def rkc (f : Nat → Int) (c : Int) : Int := 3 * ph f (dm c) (dh c) (c / 2 % 5) + 2 - c % 2
theorem k3 {P : Nat → Prop} (h0 : P 0) (h1 : P 1) (h2 : P 2) : ∀ k, k < 3 → P k := fun k hk => by
  match k, hk with
  | 0, _ => exact h0
  | 1, _ => exact h1
  | 2, _ => exact h2
theorem rkc_b {f : Nat → Int} {c : Int} (h4 : 0 ≤ f 7 ∧ f 7 ≤ 4) (g : GD f c) : 0 ≤ rkc f c ∧ rkc f c ≤ 44 := by
  have a := nz3_b (m := dm c)
  have b := nz3_b (m := dh c)
  have d := g.2.1.1
  unfold rkc ph
  omega
/-- from the hands to the code -/
theorem codes {m0 m1 m2 h0 h1 h2 p v r : Int} (a : 0 ≤ m0 ∧ m0 ≤ 4) (b : 0 ≤ m1 ∧ m1 ≤ 4) (c : 0 ≤ m2 ∧ m2 ≤ 4) (d : 0 ≤ h0 ∧ h0 ≤ 4) (e : 0 ≤ h1 ∧ h1 ≤ 4) (g : 0 ≤ h2 ∧ h2 ≤ 4) (hp : 0 ≤ p ∧ p ≤ 4) (hv : 0 ≤ v ∧ v ≤ 1) (hr : r = (5 * (25 * (25 * (5 * h2 + m2) + 5 * h1 + m1) + 5 * h0 + m0) + p) * 2 + v) : (0 ≤ r ∧ r < 156250) ∧ r / 2 % 5 = p ∧ r % 2 = v ∧ (dm r 0 = m0 ∧ dm r 1 = m1 ∧ dm r 2 = m2) ∧ (dh r 0 = h0 ∧ dh r 1 = h1 ∧ dh r 2 = h2) := by
  simp only [dm, dh]
  omega
def OPx (f : Nat → Int) : Prop := (0 ≤ f 7 ∧ f 7 ≤ 4) ∧ (0 ≤ f 0 ∧ f 0 ≤ 3) ∧ (0 ≤ f 3 ∧ f 3 ≤ 9) ∧ VH f
theorem OPx.c {f : Nat → Int} (h : OPx f) {z : Int} (h1 : 8 ≤ z) (h2 : z < 8 + f 7) : 0 ≤ f z.toNat ∧ f z.toNat < f 0 := by
  have a := h.2.2.2 (z - 8).toNat (by omega)
  rw [show z.toNat = 8 + (z - 8).toNat from by omega]; exact a
/-- values that are known are small -/
def VL (f v : Nat → Int) : Prop := ∀ c : Int, 0 ≤ c → c < 156250 → v c.toNat = 0 ∨ (-9 * (rkc f c + 1) ≤ v c.toNat - 1000 ∧ v c.toNat - 1000 ≤ 9 * (rkc f c + 1))
def zc (v : Nat → Int) : Int := sm 156250 (fun i => if v i = 0 then 1 else 0)
theorem zc_nn {v : Nat → Int} : 0 ≤ zc v := sm_nn (fun i _ => by split <;> omega)
theorem zc_up {v : Nat → Int} {c w : Int} (hc : 0 ≤ c ∧ c < 156250) (h0 : v c.toNat = 0) (hw : ¬ w = 0) : zc (up v c.toNat w) = zc v - 1 := by
  unfold zc
  rw [sm_upd (n := 156250) (g := fun i => if v i = 0 then (1 : Int) else 0) (g' := fun i => if up v c.toNat w i = 0 then (1 : Int) else 0) (j := c.toNat) (by omega) (fun i _ hne => by rw [up_n hne])]
  rw [if_pos h0, up_s, if_neg hw]
  omega
theorem sm_cut {n m : Nat} {g : Nat → Int} (h : n ≤ m) (z : ∀ i, n ≤ i → i < m → g i = 0) : sm m g = sm n g := by
  induction m with
  | zero => rw [show n = 0 from by omega]
  | succ m ih =>
    by_cases c : n = m + 1
    · rw [c]
    · have e : sm (m + 1) g = sm m g + g m := rfl
      rw [e, ih (by omega) (fun i h1 h2 => z i h1 (by omega)), z m (by omega) (by omega)]
      omega
theorem cr_ct {f : Nat → Int} {k : Nat} (h : 0 ≤ f 7 ∧ f 7 ≤ 4) : cr f 0 k = ct f (f 7).toNat k := by
  unfold cr ct
  rw [sm_cut (n := (f 7).toNat) (m := 4) (by omega) (fun i h1 h2 => by rw [if_neg (fun z => by have := z.2.1; omega)])]
  exact sm_congr (fun i hi => by
    by_cases d : f (8 + i) = (k : Int)
    · rw [if_pos d, if_pos ⟨by omega, by omega, d⟩]
    · rw [if_neg d, if_neg (fun z => d z.2.2)])
