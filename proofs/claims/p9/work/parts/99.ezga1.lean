/-- what a WORD is to the class: the first of its own words, or a NAME -/
def TKW (ws : Nat → Int) (word token : Int) : Prop := (∃ w : Nat, w < 19 ∧ token = w ∧ ws w = word ∧ ∀ v : Nat, v < w → ¬ ws v = word) ∨ (token = 300 ∧ ∀ v : Nat, v < 19 → ¬ ws v = word)
/-- a TOKEN of the reference as the class has it -/
def TKC (ws : Nat → Int) (tok val wd token number word : Int) : Prop := (0 ≤ tok ∧ tok ≤ 4) ∧ (tok = 0 → token = 302) ∧ (tok = 4 → token = 303) ∧ (tok = 3 → token = val ∧ sgC val) ∧ (tok = 2 → token = 301 ∧ number = val ∧ 0 ≤ val ∧ val < 1000) ∧ (tok = 1 → TKW ws word token ∧ WP word wd)
def RJ (b : Nat → Int) (q k : Nat) (le di wo nu inr : Int) : Prop := (inr = 1 → RS b q (k + 1) le di wo nu) ∧ (inr = 0 → RS b q k le di wo nu ∧ ¬ alC (b (q + k)))
def RE (b : Nat → Int) (q k : Nat) (inr : Int) : Prop := inr = 0 → ¬ alC (b (q + k))
/-- the search for one of the class's own words: t3 the TOKEN ahead of it, w how many were looked at -/
def TKL (ws : Nat → Int) (word t3 t4 w : Int) : Prop := (t3 = 300 → (t4 = 300 ∧ ∀ v : Nat, (v : Int) < w → ¬ ws v = word) ∨ (∃ u : Nat, u < 19 ∧ t4 = u ∧ ws u = word ∧ ∀ v : Nat, v < u → ¬ ws v = word)) ∧ (¬ t3 = 300 → t4 = t3)
theorem TKL.z {ws : Nat → Int} {word t3 : Int} : TKL ws word t3 t3 0 := ⟨fun h => Or.inl ⟨h, fun v hv => absurd hv (by omega)⟩, fun _ => rfl⟩
theorem TKL.n {ws : Nat → Int} {word t3 t4 w : Int} (h : TKL ws word t3 t4 w) (h0 : 0 ≤ w) (hne : ¬ ws w.toNat = word) (h3 : t4 = 300) : TKL ws word t3 t4 (w + 1) := by
  refine ⟨fun ht => ?_, h.2⟩
  rcases h.1 ht with ⟨a1, a2⟩ | ⟨u, a1, a2, a3⟩
  · refine Or.inl ⟨a1, fun v hv => ?_⟩
    by_cases e : (v : Int) = w
    · rw [show v = w.toNat by omega]; exact hne
    · exact a2 v (by omega)
  · omega
theorem TKL.y {ws : Nat → Int} {word t3 t4 w : Int} (h : TKL ws word t3 t4 w) (h0 : 0 ≤ w) (h19 : w < 19) (he : ws w.toNat = word) (h3 : t4 = 300) : TKL ws word t3 w (w + 1) := by
  refine ⟨fun ht => ?_, fun ht => ?_⟩
  · rcases h.1 ht with ⟨a1, a2⟩ | ⟨u, a1, a2, a3⟩
    · exact Or.inr ⟨w.toNat, by omega, by omega, he, fun v hv => a2 v (by omega)⟩
    · omega
  · have := h.2 ht
    omega
theorem TKL.e {ws : Nat → Int} {word t4 w : Int} (h : TKL ws word 300 t4 w) (hx : 19 ≤ w ∨ ¬ t4 = 300) : TKW ws word t4 := by
  rcases h.1 rfl with ⟨a1, a2⟩ | h2
  · exact Or.inr ⟨a1, fun v hv => a2 v (by omega)⟩
  · exact Or.inl h2
def TRP (b ws : Nat → Int) (p n r p' token number word : Int) : Prop := (r = 0 ∧ p' = p ∧ (p < n → ¬ alC (b p.toNat))) ∨ (r = 1 ∧ ∃ k : Nat, 0 < k ∧ p' = p + k ∧ Rn b n p.toNat k ∧ ∃ tok val wd : Int, NXr b p.toNat k tok val wd ∧ TKC ws tok val wd token number word)
theorem TRP.of {b ws : Nat → Int} {p n le di p' t3 token number word w r : Int} (hp : 0 ≤ p) (h : RS b p.toNat (le + di).toNat le di word number) (hp' : p' = p + le + di) (hn : p' ≤ n) (hE : p' < n → ¬ alC (b (p.toNat + (le + di).toNat))) (h3 : (0 < le ∧ di = 0 ∧ le ≤ 7 ∧ t3 = 300) ∨ (0 < le ∧ (¬ di = 0 ∨ 7 < le) ∧ t3 = 303) ∨ (le = 0 ∧ di ≤ 3 ∧ t3 = 301) ∨ (le = 0 ∧ 3 < di ∧ t3 = 303)) (hT : TKL ws word t3 token w) (hx : 19 ≤ w ∨ ¬ token = 300) (hr : (r = 1 ∧ 0 < le + di) ∨ (r = 0 ∧ le + di ≤ 0)) : TRP b ws p n r p' token number word := by
  obtain ⟨⟨g1, g2, g3⟩, g4, g5, g6, g7, g8⟩ := id h
  rcases hr with ⟨hr, hk⟩ | ⟨hr, hk⟩
  · refine Or.inr ⟨hr, (le + di).toNat, by omega, by omega, ⟨by omega, g4, fun hlt => hE (by omega)⟩, ?_⟩
    rcases h3 with ⟨a1, a2, a3, a4⟩ | ⟨a1, a2, a3⟩ | ⟨a1, a2, a3⟩ | ⟨a1, a2, a3⟩
    · obtain ⟨hs, hw⟩ := g5 a2
      subst a4
      refine ⟨1, 0, W8 b p.toNat (le + di).toNat, Or.inl ⟨hs, by omega, rfl, rfl⟩, ⟨by decide, by decide⟩, fun h => absurd h (by decide), fun h => absurd h (by decide), fun h => absurd h (by decide), fun h => absurd h (by decide), fun _ => ⟨hT.e hx, b, p.toNat, (le + di).toNat, by omega, by omega, hs, hw a3, rfl⟩⟩
    · have ht : token = 303 := (hT.2 (by omega)).trans a3
      refine ⟨4, 0, 0, Or.inr (Or.inr ⟨fun hc => ?_, fun hc => g8 a1 hc.1, rfl⟩), ⟨by decide, by decide⟩, fun h => absurd h (by decide), fun _ => ht, fun h => absurd h (by decide), fun h => absurd h (by decide), fun h => absurd h (by decide)⟩
      rcases a2 with a2 | a2
      · exact g6 (by omega) hc.1
      · omega
    · have ht : token = 301 := (hT.2 (by omega)).trans a3
      obtain ⟨hs, hw⟩ := g7 a1
      have hb := D10lt (b := b) (q := p.toNat) (k := (le + di).toNat) (by omega) hs
      refine ⟨2, D10 b p.toNat (le + di).toNat, 0, Or.inr (Or.inl ⟨hs, by omega, rfl, rfl⟩), ⟨by decide, by decide⟩, fun h => absurd h (by decide), fun h => absurd h (by decide), fun h => absurd h (by decide), fun _ => ⟨ht, hw a2, hb⟩, fun h => absurd h (by decide)⟩
    · have ht : token = 303 := (hT.2 (by omega)).trans a3
      refine ⟨4, 0, 0, Or.inr (Or.inr ⟨fun hc => g6 (by omega) hc.1, fun hc => by have := hc.2; omega, rfl⟩), ⟨by decide, by decide⟩, fun h => absurd h (by decide), fun _ => ht, fun h => absurd h (by decide), fun h => absurd h (by decide), fun h => absurd h (by decide)⟩
  · have hk0 : (le + di).toNat = 0 := by omega
    refine Or.inl ⟨hr, by omega, fun hlt => ?_⟩
    have := hE (by omega)
    rw [hk0] at this
    exact this
/-- what the class has behind advance -/
def NXC (b ws : Nat → Int) (n m p token place number word p' : Int) : Prop := ∃ tok val wd : Int, NXT b n m p tok val wd place p' ∧ TKC ws tok val wd token number word
theorem TKC.i4 {ws : Nat → Int} {number word : Int} : TKC ws 4 0 0 303 number word := ⟨⟨by decide, by decide⟩, fun h => absurd h (by decide), fun _ => rfl, fun h => absurd h (by decide), fun h => absurd h (by decide), fun h => absurd h (by decide)⟩
theorem TKC.i0 {ws : Nat → Int} {number word : Int} : TKC ws 0 0 0 302 number word := ⟨⟨by decide, by decide⟩, fun _ => rfl, fun h => absurd h (by decide), fun h => absurd h (by decide), fun h => absurd h (by decide), fun h => absurd h (by decide)⟩
theorem TKC.i3 {ws : Nat → Int} {number word c : Int} (h : sgC c) : TKC ws 3 c 0 c number word := ⟨⟨by decide, by decide⟩, fun h => absurd h (by decide), fun h => absurd h (by decide), fun _ => ⟨rfl, h⟩, fun h => absurd h (by decide), fun h => absurd h (by decide)⟩
theorem NXC.far {b ws : Nat → Int} {n m p at' place token number word : Int} (hs : Sk b n p at'.toNat) (h0 : 0 ≤ at') (h1 : m < n) (h2 : m ≤ at') (hp : place = m) (ht : token = 303) : NXC b ws n m p token place number word at' := by
  subst hp; subst ht
  exact ⟨4, 0, 0, ⟨at'.toNat, hs, Or.inl ⟨⟨h1, by omega⟩, rfl, rfl, by omega⟩⟩, TKC.i4⟩
theorem NXC.stop {b ws : Nat → Int} {n m p at' place token number word : Int} (hs : Sk b n p at'.toNat) (h0 : 0 ≤ at') (h1 : ¬ (m < n ∧ m ≤ at')) (h2 : n ≤ at') (hp : place = at') (ht : token = 302) : NXC b ws n m p token place number word at' := by
  subst hp; subst ht
  exact ⟨0, 0, 0, ⟨place.toNat, hs, Or.inr ⟨by omega, by omega, Or.inl ⟨by omega, rfl, by omega⟩⟩⟩, TKC.i0⟩
theorem NXC.run {b ws : Nat → Int} {n m p at' place token number word r p' : Int} (hs : Sk b n p at'.toNat) (h0 : 0 ≤ at') (h1 : ¬ (m < n ∧ m ≤ at')) (h2 : at' < n) (hp : place = at') (hT : TRP b ws at' n r p' token number word) (hr : ¬ r = 0) : NXC b ws n m p token place number word p' := by
  subst hp
  rcases hT with ⟨a1, -⟩ | ⟨a1, k, hk, hp', hR, tok, val, wd, hx, hy⟩
  · exact absurd a1 hr
  · exact ⟨tok, val, wd, ⟨place.toNat, hs, Or.inr ⟨by omega, by omega, Or.inr (Or.inr ⟨by omega, k, hk, by omega, hR, hx⟩)⟩⟩, hy⟩
theorem NXC.sign {b ws : Nat → Int} {n m p at' place token number word r p' p2 c : Int} (hs : Sk b n p at'.toNat) (h0 : 0 ≤ at') (h1 : ¬ (m < n ∧ m ≤ at')) (h2 : at' < n) (hp : place = at') {tk nu wo : Int} (hT : TRP b ws at' n r p' tk nu wo) (hr : r = 0) (hc : c = b at'.toNat) (hg : sgC c) (ht : token = c) (hp2 : p2 = at' + 1) : NXC b ws n m p token place number word p2 := by
  subst hp; subst ht
  rcases hT with ⟨a1, a2, a3⟩ | ⟨a1, -⟩
  · refine ⟨3, token, 0, ⟨place.toNat, hs, Or.inr ⟨by omega, by omega, Or.inr (Or.inl ⟨by omega, a3 h2, by omega, Or.inl ⟨by rw [← hc]; exact hg, rfl, hc⟩⟩)⟩⟩, TKC.i3 hg⟩
  · omega
theorem NXC.bad {b ws : Nat → Int} {n m p at' place token number word r p' p2 c : Int} (hs : Sk b n p at'.toNat) (h0 : 0 ≤ at') (h1 : ¬ (m < n ∧ m ≤ at')) (h2 : at' < n) (hp : place = at') {tk nu wo : Int} (hT : TRP b ws at' n r p' tk nu wo) (hr : r = 0) (hc : c = b at'.toNat) (hg : ¬ sgC c) (ht : token = 303) (hp2 : p2 = at' + 1) : NXC b ws n m p token place number word p2 := by
  subst hp; subst ht
  rcases hT with ⟨a1, a2, a3⟩ | ⟨a1, -⟩
  · refine ⟨4, 0, 0, ⟨place.toNat, hs, Or.inr ⟨by omega, by omega, Or.inr (Or.inl ⟨by omega, a3 h2, by omega, Or.inr ⟨by rw [← hc]; exact hg, rfl⟩⟩)⟩⟩, TKC.i4⟩
  · omega

