/-! An EVENING judged on a row. -/
def evF (f rd : Nat → Int) : Nat → Nat → Int
  | 0 => f
  | n + 1 => askF (evF f rd n) (rd (4 * n)).toNat (rd (4 * n + 1)).toNat (rd (4 * n + 2)).toNat 0
def evG (g f rd : Nat → Int) : Nat → Nat → Int
  | 0 => g
  | n + 1 => askR (evF f rd n) (rd (4 * n)).toNat (rd (4 * n + 1)).toNat (rd (4 * n + 2)).toNat 0
def evY (f rd : Nat → Int) (n : Nat) : Int := whyF (evF f rd n) (rd (4 * n)) (rd (4 * n + 1)) (rd (4 * n + 2)).toNat
/-- what is wrong with line n -/
def evW (f rd : Nat → Int) (n : Nat) : Int := if evY f rd n = 0 then (if HH (evF f rd n) (rd (4 * n + 1)).toNat (rd (4 * n + 2)).toNat = rd (4 * n + 3) then 0 else 5) else evY f rd n
theorem evW_0 {f rd : Nat → Int} {n : Nat} (h : evW f rd n = 0) : evY f rd n = 0 ∧ HH (evF f rd n) (rd (4 * n + 1)).toNat (rd (4 * n + 2)).toNat = rd (4 * n + 3) := by
  unfold evW at h
  by_cases c : evY f rd n = 0
  · rw [if_pos c] at h
    refine ⟨c, Classical.byContradiction (fun z => ?_)⟩
    rw [if_neg z] at h
    omega
  · rw [if_neg c] at h; exact absurd h c
theorem evW_5 {f rd : Nat → Int} {n : Nat} (h : evY f rd n = 0) (h5 : ¬ HH (evF f rd n) (rd (4 * n + 1)).toNat (rd (4 * n + 2)).toNat = rd (4 * n + 3)) : evW f rd n = 5 := by
  unfold evW
  rw [if_pos h, if_neg h5]
theorem evW_z {f rd : Nat → Int} {n : Nat} (h : evY f rd n = 0) (h5 : HH (evF f rd n) (rd (4 * n + 1)).toNat (rd (4 * n + 2)).toNat = rd (4 * n + 3)) : evW f rd n = 0 := by
  unfold evW
  rw [if_pos h, if_pos h5]
theorem evW_y {f rd : Nat → Int} {n : Nat} (h : ¬ evY f rd n = 0) : evW f rd n = evY f rd n := by
  unfold evW
  rw [if_neg h]
theorem evW_nn {f rd : Nat → Int} {n : Nat} : 0 ≤ evW f rd n := by
  unfold evW
  split
  · split <;> omega
  · unfold evY whyF
    split
    · omega
    · split
      · omega
      · split
        · omega
        · split <;> omega
/-- rows within the table -/
def EVO (f rd : Nat → Int) (l : Int) : Prop := ∀ k : Nat, (k : Int) < l → (0 ≤ rd (4 * k) ∧ rd (4 * k) < f 1) ∧ (0 ≤ rd (4 * k + 1) ∧ rd (4 * k + 1) < f 1) ∧ (0 ≤ rd (4 * k + 2) ∧ rd (4 * k + 2) < f 0) ∧ 0 ≤ rd (4 * k + 3) ∧ rd (4 * k + 3) ≤ 4
theorem ERW.o {ps kd : Int} {s : EVx} {f : Nat → Int} (h : ERW ps kd s) (h1 : f 1 = ps) (h0 : f 0 = kd) : EVO f s.rd s.l := by
  subst h1; subst h0
  exact h.2
theorem evF_tv {f rd : Nat → Int} {l : Int} (hT : TV f) (hr : EVO f rd l) : ∀ n : Nat, (n : Int) ≤ l → (∀ i : Nat, i < n → evW f rd i = 0) → TV (evF f rd n) ∧ ∀ i, i < 4 ∨ 571 ≤ i → evF f rd n i = f i
  | 0, _, _ => ⟨hT, fun _ _ => rfl⟩
  | n + 1, hn, h => by
    obtain ⟨t, e⟩ := evF_tv hT hr n (by omega) (fun i hi => h i (by omega))
    obtain ⟨w1, w2⟩ := evW_0 (h n (by omega))
    unfold evY at w1
    obtain ⟨y1, y2, y3, y4⟩ := whyF_0 w1
    obtain ⟨r1, r2, r3, r4⟩ := hr n (by omega)
    have m0 := hT.1.1.1.1
    have m1 := hT.1.1.1.2.1
    have hh := (HH_v t.1.1 (p := (rd (4 * n)).toNat) (k := (rd (4 * n + 2)).toNat) (by omega) (by omega)).1
    have z := TV.ask (lies := 0) t (a := (rd (4 * n)).toNat) (b := (rd (4 * n + 1)).toNat) (kind := (rd (4 * n + 2)).toNat) (by omega) (by rw [e 1 (by omega)]; omega) (by omega) (by omega) y1 (by
      have : HH (evF f rd n) (rd (4 * n)).toNat (rd (4 * n + 2)).toNat = evF f rd n (60 + 13 * (rd (4 * n)).toNat + (rd (4 * n + 2)).toNat) := rfl
      omega)
    exact ⟨z.1, fun i hi => (z.2 i hi).trans (e i hi)⟩
/-- so many lines were right, and what was wrong with the next -/
def JDG (f rd : Nat → Int) (l r wr : Int) : Prop := (0 ≤ r ∧ r ≤ l) ∧ (∀ i : Nat, (i : Int) < r → evW f rd i = 0) ∧ ((r = l ∧ wr = 0) ∨ (r < l ∧ wr = evW f rd r.toNat ∧ ¬ wr = 0))
theorem JDG.u {f rd : Nat → Int} {l r wr r' wr' : Int} (h : JDG f rd l r wr) (h' : JDG f rd l r' wr') : r = r' ∧ wr = wr' := by
  obtain ⟨⟨a1, a2⟩, a3, a4⟩ := h
  obtain ⟨⟨b1, b2⟩, b3, b4⟩ := h'
  have e : r = r' := by
    rcases Int.lt_trichotomy r r' with c | c | c
    · rcases a4 with q | ⟨q1, q2, q3⟩
      · omega
      · exact absurd (q2.trans (b3 r.toNat (by omega))) q3
    · exact c
    · rcases b4 with q | ⟨q1, q2, q3⟩
      · omega
      · exact absurd (q2.trans (a3 r'.toNat (by omega))) q3
  subst e
  refine ⟨rfl, ?_⟩
  rcases a4 with q | ⟨q1, q2, q3⟩
  · rcases b4 with p | ⟨p1, p2, p3⟩
    · omega
    · omega
  · rcases b4 with p | ⟨p1, p2, p3⟩
    · omega
    · rw [q2, p2]
theorem evW_cg {f rd rd' : Nat → Int} {l : Int} (h : ∀ j : Nat, (j : Int) < 4 * l → rd j = rd' j) : ∀ n : Nat, (n : Int) ≤ l → evF f rd n = evF f rd' n
  | 0, _ => rfl
  | n + 1, hn => by
    show askF (evF f rd n) _ _ _ 0 = askF (evF f rd' n) _ _ _ 0
    rw [evW_cg h n (by omega), h (4 * n) (by omega), h (4 * n + 1) (by omega), h (4 * n + 2) (by omega)]
/-- the reference's EVENING: nothing but the text's own cells has changed -/
def SMx (σ σ' : xS) : Prop := (σ' 2 = σ 2 ∧ σ' 7 = σ 7 ∧ σ' 8 = σ 8 ∧ σ' 22 = σ 22) ∧ σ' 0 24 = σ 0 24 ∧ σ' 0 27 = σ 0 27 ∧ σ' 0 54 = σ 0 54
theorem SMx.rf {σ : xS} : SMx σ σ := ⟨⟨rfl, rfl, rfl, rfl⟩, rfl, rfl, rfl⟩
theorem SMx.tr {σ σ1 σ2 : xS} {ts js : List Nat} (h : SMx σ σ1) (f : Fr ts js σ1 σ2) (t2 : 2 ∉ ts := by decide) (t7 : 7 ∉ ts := by decide) (t8 : 8 ∉ ts := by decide) (t22 : 22 ∉ ts := by decide) (j24 : 24 ∉ js := by decide) (j27 : 27 ∉ js := by decide) (j54 : 54 ∉ js := by decide) : SMx σ σ2 := by
  obtain ⟨⟨a, b, c, d⟩, e, g, i⟩ := h
  exact ⟨⟨(f.1 2 (by decide) t2).trans a, (f.1 7 (by decide) t7).trans b, (f.1 8 (by decide) t8).trans c, (f.1 22 (by decide) t22).trans d⟩, (f.2 24 j24).trans e, (f.2 27 j27).trans g, (f.2 54 j54).trans i⟩
/-- what was kept and told behind n right lines -/
def EK (σ σ' : xS) (rd : Nat → Int) (lives : Int) (n : Nat) : Prop := ((lives = 1 ∧ 0 < n) ∧ KPT (σ 0 27) (σ' 0 27) (σ 8) (σ' 8) (σ 2) ∧ σ' 0 24 = 1 ∧ ∀ i : Nat, i < 8 → σ' 7 i = evG (σ 7) (σ 2) rd n i) ∨ (¬ (lives = 1 ∧ 0 < n) ∧ (σ' 8 = σ 8 ∧ σ' 7 = σ 7) ∧ σ' 0 27 = σ 0 27 ∧ σ' 0 24 = σ 0 24)
theorem EK.tr {σ σ1 σ2 : xS} {rd : Nat → Int} {lives : Int} {n : Nat} (h : EK σ σ1 rd lives n) (e7 : σ2 7 = σ1 7) (e8 : σ2 8 = σ1 8) (e24 : σ2 0 24 = σ1 0 24) (e27 : σ2 0 27 = σ1 0 27) : EK σ σ2 rd lives n := by
  unfold EK at h ⊢
  rw [e7, e8, e24, e27]
  exact h
/-- the answer and the state of the reference's evening -/
def EVR (σ σ' : xS) (lives r : Int) : Prop := (¬ (0 ≤ lives ∧ lives ≤ 1) ∧ r = -1000 ∧ SMx σ σ' ∧ σ' 0 2 = σ 0 2) ∨ ((0 ≤ lives ∧ lives ≤ 1) ∧ σ' 0 2 = 0 ∧ ∃ x, EEND (σ 5) (σ 2 1) (σ 2 0) (σ 1) (σ 0 2) 500 es0 x ∧ ((∃ y : Int × Int, x = .inl y ∧ r = -2 - y.2 ∧ σ' 0 15 = y.1 ∧ SMx σ σ') ∨ (∃ (t : EVx) (n : Nat) (wr : Int), x = .inr t ∧ ERW (σ 2 1) (σ 2 0) t ∧ JDG (σ 2) t.rd t.l n wr ∧ r = (if (n : Int) < t.l then (n : Int) else -1) ∧ (σ' 22 0 = wr ∧ σ' 22 1 = n ∧ σ' 22 2 = alq (evF (σ 2) t.rd n) 13 ∧ σ' 22 3 = evF (σ 2) t.rd n 4 ∧ σ' 0 54 = 1) ∧ EK σ σ' t.rd lives n ∧ σ' 2 = (if lives = 1 then evF (σ 2) t.rd n else σ 2))))
