/-! There is always a next TOKEN, and it goes on. -/
theorem Sk_ex {b : Nat → Int} {n : Int} : ∀ (d : Nat) (p : Int), 0 ≤ p → n - p = d → ∃ q : Nat, Sk b n p q
  | 0, p, h0, e => ⟨p.toNat, by omega, by omega, fun i h1 h2 => absurd h1 (by omega), fun h => absurd h (by omega)⟩
  | d + 1, p, h0, e => by
    by_cases c : bkC (b p.toNat)
    · obtain ⟨q, h1, h2, h3, h4⟩ := Sk_ex (b := b) (n := n) d (p + 1) (by omega) (by omega)
      refine ⟨q, by omega, h2, fun i a c' => ?_, h4⟩
      by_cases z : (i : Int) = p
      · rw [show i = p.toNat from by omega]; exact c
      · exact h3 i (by omega) c'
    · exact ⟨p.toNat, by omega, by omega, fun i h1 h2 => absurd h1 (by omega), fun _ => c⟩
theorem Rn_ex {b : Nat → Int} {n : Int} : ∀ (d q : Nat), (q : Int) + d = n → ∃ k : Nat, Rn b n q k
  | 0, q, e => ⟨0, by omega, alS.z, fun h => absurd h (by omega)⟩
  | d + 1, q, e => by
    by_cases c : alC (b q)
    · obtain ⟨k, h1, h2, h3⟩ := Rn_ex (b := b) (n := n) d (q + 1) (by omega)
      refine ⟨k + 1, by omega, fun i hi => ?_, fun h => ?_⟩
      · cases i with
        | zero => exact c
        | succ i => rw [show q + (i + 1) = q + 1 + i from by omega]; exact h2 i (by omega)
      · rw [show q + (k + 1) = q + 1 + k from by omega]; exact h3 (by omega)
    · exact ⟨0, by omega, alS.z, fun _ => c⟩
theorem NXT_ex {b : Nat → Int} {n m p : Int} (h0 : 0 ≤ p) (hn : p ≤ n) : ∃ t : Int × Int × Int × Int × Int, NXT b n m p t.1 t.2.1 t.2.2.1 t.2.2.2.1 t.2.2.2.2 := by
  obtain ⟨q, hq⟩ := Sk_ex (b := b) (n := n) (n - p).toNat p h0 (by omega)
  by_cases c1 : m < n ∧ m ≤ q
  · exact ⟨(4, 0, 0, m, q), q, hq, Or.inl ⟨c1, rfl, rfl, rfl⟩⟩
  · by_cases c2 : n ≤ q
    · exact ⟨(0, 0, 0, q, q), q, hq, Or.inr ⟨c1, rfl, Or.inl ⟨c2, rfl, rfl⟩⟩⟩
    · by_cases c3 : alC (b q)
      · obtain ⟨k, hk⟩ := Rn_ex (b := b) (n := n) (n - q).toNat q (by omega)
        have hk0 : 0 < k := by
          rcases Nat.eq_zero_or_pos k with z | z
          · subst z; exact absurd c3 (hk.2.2 (by omega))
          · exact z
        by_cases w1 : alS smC b q k ∧ k ≤ 7
        · exact ⟨(1, 0, W8 b q k, q, q + k), q, hq, Or.inr ⟨c1, rfl, Or.inr (Or.inr ⟨by omega, k, hk0, rfl, hk, Or.inl ⟨w1.1, w1.2, rfl, rfl⟩⟩)⟩⟩
        · by_cases w2 : alS dgC b q k ∧ k ≤ 3
          · exact ⟨(2, D10 b q k, 0, q, q + k), q, hq, Or.inr ⟨c1, rfl, Or.inr (Or.inr ⟨by omega, k, hk0, rfl, hk, Or.inr (Or.inl ⟨w2.1, w2.2, rfl, rfl⟩)⟩)⟩⟩
          · exact ⟨(4, 0, 0, q, q + k), q, hq, Or.inr ⟨c1, rfl, Or.inr (Or.inr ⟨by omega, k, hk0, rfl, hk, Or.inr (Or.inr ⟨w1, w2, rfl⟩)⟩)⟩⟩
      · by_cases c4 : sgC (b q)
        · exact ⟨(3, b q, 0, q, q + 1), q, hq, Or.inr ⟨c1, rfl, Or.inr (Or.inl ⟨by omega, c3, rfl, Or.inl ⟨c4, rfl, rfl⟩⟩)⟩⟩
        · exact ⟨(4, 0, 0, q, q + 1), q, hq, Or.inr ⟨c1, rfl, Or.inr (Or.inl ⟨by omega, c3, rfl, Or.inr ⟨c4, rfl⟩⟩)⟩⟩
theorem NXT.bd {b : Nat → Int} {n m p tok val wd pl p' : Int} (h : NXT b n m p tok val wd pl p') : p ≤ p' ∧ p' ≤ n ∧ (¬ tok = 0 → ¬ tok = 4 → p < p') := by
  obtain ⟨q, ⟨s1, s2, _, _⟩, h⟩ := h
  rcases h with ⟨_, a, _, c⟩ | ⟨_, _, h⟩
  · exact ⟨by omega, by omega, fun _ z => absurd a z⟩
  · rcases h with ⟨a, c, d⟩ | ⟨a, c, d, _⟩ | ⟨a, k, c, d, e, _⟩
    · exact ⟨by omega, by omega, fun z => absurd c z⟩
    · exact ⟨by omega, by omega, fun _ _ => by omega⟩
    · have e1 := e.1
      exact ⟨by omega, by omega, fun _ _ => by omega⟩
theorem tk_N {b : Nat → Int} {n m p : Int} (h0 : 0 ≤ p) (hn : p ≤ n) : NXT b n m p (nxt b n m p).1 (nxt b n m p).2.1 (nxt b n m p).2.2.1 (nxt b n m p).2.2.2.1 (nxt b n m p).2.2.2.2 :=
  Classical.epsilon_spec (p := fun t : Int × Int × Int × Int × Int => NXT b n m p t.1 t.2.1 t.2.2.1 t.2.2.2.1 t.2.2.2.2) (NXT_ex h0 hn)
theorem tkp_r {b : Nat → Int} {n m p : Int} (h0 : 0 ≤ p) (hn : p ≤ n) : p ≤ tkp b n m p ∧ tkp b n m p ≤ n ∧ (¬ tkc b n m p = 302 → ¬ tkc b n m p = 303 → p < tkp b n m p) := by
  have h := tk_N (b := b) (m := m) h0 hn
  obtain ⟨r1, r2, _⟩ := h.rg
  have q := h.bd
  have c := tct_r (k := (nxt b n m p).1) (v := (nxt b n m p).2.1) (w := (nxt b n m p).2.2.1) r1 r2
  exact ⟨q.1, q.2.1, fun a z => by unfold tkc at a z; exact q.2.2 (by omega) (by omega)⟩
theorem hps_r {b : Nat → Int} {n m p : Int} (h0 : 0 ≤ p) (hn : p ≤ n) : ∀ k : Nat, 0 ≤ hps b n m p k ∧ hps b n m p k ≤ n
  | 0 => by have z := tkp_r (b := b) (m := m) h0 hn; exact ⟨show 0 ≤ tkp b n m p from by omega, z.2.1⟩
  | k + 1 => by
    have y := hps_r (b := b) (m := m) h0 hn k
    have z := tkp_r (b := b) (m := m) y.1 y.2
    exact ⟨show 0 ≤ tkp b n m (hps b n m p k) from by omega, z.2.1⟩
theorem hhp_c {b f f' : Nat → Int} {n m p t : Int} (hf : ∀ i : Nat, i < 52 → f i = f' i) : ∀ k : Nat, ∀ i : Nat, i < 52 → hhp b n m p f t k i = hhp b n m p f' t k i
  | 0, i, hi => hf i hi
  | k + 1, i, hi => by
    show up (hhp b n m p f t k) (t + k).toNat (tkv b n m (hps b n m p k)) i = up (hhp b n m p f' t k) (t + k).toNat (tkv b n m (hps b n m p k)) i
    by_cases c : i = (t + (k : Int)).toNat
    · rw [c, up_s, up_s]
    · rw [up_n c, up_n c]; exact hhp_c hf k i hi
/-! A TABLE, line by line, as a function of its text. -/
abbrev TSx : Type := Int × Int × Int × Int × Int × Int × Int × (Nat → Int) × (Nat → Int) × (Nat → Int) × (Nat → Int)
abbrev tsx (p kd ps ag rf rt hpn : Int) (nm hd hp pl : Nat → Int) : TSx := (p, kd, ps, ag, rf, rt, hpn, nm, hd, hp, pl)
abbrev TSx.p (s : TSx) : Int := s.1
abbrev TSx.kd (s : TSx) : Int := s.2.1
abbrev TSx.ps (s : TSx) : Int := s.2.2.1
abbrev TSx.ag (s : TSx) : Int := s.2.2.2.1
abbrev TSx.rf (s : TSx) : Int := s.2.2.2.2.1
abbrev TSx.rt (s : TSx) : Int := s.2.2.2.2.2.1
abbrev TSx.hpn (s : TSx) : Int := s.2.2.2.2.2.2.1
abbrev TSx.nm (s : TSx) : Nat → Int := s.2.2.2.2.2.2.2.1
abbrev TSx.hd (s : TSx) : Nat → Int := s.2.2.2.2.2.2.2.2.1
abbrev TSx.hp (s : TSx) : Nat → Int := s.2.2.2.2.2.2.2.2.2.1
abbrev TSx.pl (s : TSx) : Nat → Int := s.2.2.2.2.2.2.2.2.2.2
abbrev TSx.wp (s : TSx) (q : Int) : TSx := tsx q s.kd s.ps s.ag s.rf s.rt s.hpn s.nm s.hd s.hp s.pl
noncomputable def hcn (b : Nat → Int) (n m p kn : Int) (f : Nat → Int) : Nat := Classical.epsilon (fun k => HGD b n m p kn f k ∧ ¬ hgd b n m p kn f k)
theorem hcn_e {b f : Nat → Int} {n m p kn : Int} {k : Nat} (h : HGD b n m p kn f k) (g : ¬ hgd b n m p kn f k) : hcn b n m p kn f = k := by
  have e := Classical.epsilon_spec (p := fun k => HGD b n m p kn f k ∧ ¬ hgd b n m p kn f k) ⟨k, h, g⟩
  exact HGD.u e.1 h e.2 g
noncomputable def tlK (b : Nat → Int) (n m : Int) (s : TSx) : Sum (Int × Int) TSx := if 0 < s.kd then .inl (3, tka b n m s.p) else if ¬ tkc b n m (tkp b n m s.p) = 301 then .inl (1, tka b n m (tkp b n m s.p)) else if ¬ (2 ≤ tkv b n m (tkp b n m s.p) ∧ tkv b n m (tkp b n m s.p) ≤ 13) then .inl (2, tka b n m (tkp b n m s.p)) else .inr (tsx ((tkp b n m (tkp b n m s.p))) (tkv b n m (tkp b n m s.p)) s.ps s.ag s.rf s.rt s.hpn s.nm s.hd s.hp s.pl)
noncomputable def tlP (b : Nat → Int) (n m : Int) (s : TSx) : Sum (Int × Int) TSx := if s.ps = 6 then .inl (4, tka b n m s.p) else if ¬ tkc b n m (tkp b n m s.p) = 300 then .inl (1, tka b n m (tkp b n m s.p)) else if ¬ fnd s.nm s.ps.toNat (tkw b n m (tkp b n m s.p)) = -1 then .inl (3, tka b n m (tkp b n m s.p)) else .inr (tsx ((tkp b n m (tkp b n m s.p))) s.kd (s.ps + 1) s.ag s.rf s.rt s.hpn (up s.nm s.ps.toNat (tkw b n m (tkp b n m s.p))) s.hd s.hp s.pl)
noncomputable def tlH (b : Nat → Int) (n m : Int) (s : TSx) : Sum (Int × Int) TSx := if ¬ tkc b n m (tkp b n m s.p) = 300 then .inl (1, tka b n m (tkp b n m s.p)) else if fnd s.nm s.ps.toNat (tkw b n m (tkp b n m s.p)) = -1 then .inl (3, tka b n m (tkp b n m s.p)) else if ¬ tkc b n m (tkp b n m (tkp b n m s.p)) = 301 then .inl (1, tka b n m (tkp b n m (tkp b n m s.p))) else if ¬ tkv b n m (tkp b n m (tkp b n m s.p)) < s.kd then .inl (2, tka b n m (tkp b n m (tkp b n m s.p))) else if 0 < s.hd (13 * fnd s.nm s.ps.toNat (tkw b n m (tkp b n m s.p)) + tkv b n m (tkp b n m (tkp b n m s.p))).toNat then .inl (3, tka b n m (tkp b n m (tkp b n m s.p))) else if ¬ tkc b n m (tkp b n m (tkp b n m (tkp b n m s.p))) = 301 then .inl (1, tka b n m (tkp b n m (tkp b n m (tkp b n m s.p)))) else if ¬ (1 ≤ tkv b n m (tkp b n m (tkp b n m (tkp b n m s.p))) ∧ tkv b n m (tkp b n m (tkp b n m (tkp b n m s.p))) ≤ 4) then .inl (2, tka b n m (tkp b n m (tkp b n m (tkp b n m s.p)))) else if 4 < s.pl (tkv b n m (tkp b n m (tkp b n m s.p))).toNat + tkv b n m (tkp b n m (tkp b n m (tkp b n m s.p))) then .inl (5, tka b n m (tkp b n m (tkp b n m (tkp b n m s.p)))) else .inr (tsx ((tkp b n m (tkp b n m (tkp b n m (tkp b n m s.p))))) s.kd s.ps s.ag s.rf s.rt s.hpn s.nm (up s.hd (13 * fnd s.nm s.ps.toNat (tkw b n m (tkp b n m s.p)) + tkv b n m (tkp b n m (tkp b n m s.p))).toNat (s.hd (13 * fnd s.nm s.ps.toNat (tkw b n m (tkp b n m s.p)) + tkv b n m (tkp b n m (tkp b n m s.p))).toNat + tkv b n m (tkp b n m (tkp b n m (tkp b n m s.p))))) s.hp (up s.pl (tkv b n m (tkp b n m (tkp b n m s.p))).toNat (s.pl (tkv b n m (tkp b n m (tkp b n m s.p))).toNat + tkv b n m (tkp b n m (tkp b n m (tkp b n m s.p))))))
noncomputable def tlE (b : Nat → Int) (n m : Int) (s : TSx) : Sum (Int × Int) TSx := if (hcn b n m s.p s.kd s.pl) = 0 ∧ ¬ tkc b n m (hps b n m s.p (hcn b n m s.p s.kd s.pl)) = 301 then .inl (1, tka b n m (hps b n m s.p (hcn b n m s.p s.kd s.pl))) else if tkc b n m (hps b n m s.p (hcn b n m s.p s.kd s.pl)) = 301 ∧ ¬ tkv b n m (hps b n m s.p (hcn b n m s.p s.kd s.pl)) < s.kd then .inl (2, tka b n m (hps b n m s.p (hcn b n m s.p s.kd s.pl))) else if tkc b n m (hps b n m s.p (hcn b n m s.p s.kd s.pl)) = 301 ∧ hpl b n m s.p s.pl (hcn b n m s.p s.kd s.pl) (tkv b n m (hps b n m s.p (hcn b n m s.p s.kd s.pl))).toNat = 4 then .inl (5, tka b n m (hps b n m s.p (hcn b n m s.p s.kd s.pl))) else .inr (tsx ((hps b n m s.p (hcn b n m s.p s.kd s.pl))) s.kd s.ps s.ag s.rf s.rt (s.hpn + ((hcn b n m s.p s.kd s.pl) : Nat)) s.nm s.hd (hhp b n m s.p s.hp s.hpn (hcn b n m s.p s.kd s.pl)) (hpl b n m s.p s.pl (hcn b n m s.p s.kd s.pl)))
noncomputable def tlA (b : Nat → Int) (n m : Int) (s : TSx) : Sum (Int × Int) TSx := if ¬ s.ag = 0 then .inl (3, tka b n m s.p) else .inr (tsx ((tkp b n m s.p)) s.kd s.ps (1) s.rf s.rt s.hpn s.nm s.hd s.hp s.pl)
noncomputable def tlR (b : Nat → Int) (n m : Int) (s : TSx) : Sum (Int × Int) TSx := if ¬ s.rt = 0 then .inl (3, tka b n m s.p) else if ¬ tkc b n m (tkp b n m s.p) = 301 then .inl (1, tka b n m (tkp b n m s.p)) else if ¬ (0 ≤ tkv b n m (tkp b n m s.p) ∧ tkv b n m (tkp b n m s.p) ≤ 9) then .inl (2, tka b n m (tkp b n m s.p)) else .inr (tsx ((tkp b n m (tkp b n m s.p))) s.kd s.ps s.ag (tkv b n m (tkp b n m s.p)) (1) s.hpn s.nm s.hd s.hp s.pl)
/-- a line, its sign not yet -/
noncomputable def tln (b : Nat → Int) (n m : Int) (s : TSx) : Sum (Int × Int) TSx := if tkc b n m s.p = 0 then tlK b n m s else if tkc b n m s.p = 1 then tlP b n m s else if tkc b n m s.p = 2 then tlH b n m s else if tkc b n m s.p = 3 then tlE b n m s else if tkc b n m s.p = 4 then tlA b n m s else if tkc b n m s.p = 5 then tlR b n m s else .inl (1, tka b n m s.p)
/-- a line and its sign -/
noncomputable def tst (b : Nat → Int) (n m : Int) (s : TSx) : Sum (Int × Int) TSx := match tln b n m s with
  | .inl x => .inl x
  | .inr t => if tkc b n m t.p = 59 then .inr (t.wp (tkp b n m t.p)) else .inl (1, tka b n m t.p)
theorem tln_K {b : Nat → Int} {n m : Int} {s : TSx} (h : tkc b n m s.p = 0) : tln b n m s = tlK b n m s := by
  unfold tln
  rw [if_pos h]
theorem tln_P {b : Nat → Int} {n m : Int} {s : TSx} (h : tkc b n m s.p = 1) : tln b n m s = tlP b n m s := by
  unfold tln
  rw [if_neg (by omega), if_pos h]
theorem tln_H {b : Nat → Int} {n m : Int} {s : TSx} (h : tkc b n m s.p = 2) : tln b n m s = tlH b n m s := by
  unfold tln
  rw [if_neg (by omega), if_neg (by omega), if_pos h]
theorem tln_E {b : Nat → Int} {n m : Int} {s : TSx} (h : tkc b n m s.p = 3) : tln b n m s = tlE b n m s := by
  unfold tln
  rw [if_neg (by omega), if_neg (by omega), if_neg (by omega), if_pos h]
theorem tln_A {b : Nat → Int} {n m : Int} {s : TSx} (h : tkc b n m s.p = 4) : tln b n m s = tlA b n m s := by
  unfold tln
  rw [if_neg (by omega), if_neg (by omega), if_neg (by omega), if_neg (by omega), if_pos h]
theorem tln_R {b : Nat → Int} {n m : Int} {s : TSx} (h : tkc b n m s.p = 5) : tln b n m s = tlR b n m s := by
  unfold tln
  rw [if_neg (by omega), if_neg (by omega), if_neg (by omega), if_neg (by omega), if_neg (by omega), if_pos h]
theorem tln_x {b : Nat → Int} {n m : Int} {s : TSx} (h : tkc b n m s.p < 0 ∨ 5 < tkc b n m s.p) : tln b n m s = .inl (1, tka b n m s.p) := by
  unfold tln
  rw [if_neg (by omega), if_neg (by omega), if_neg (by omega), if_neg (by omega), if_neg (by omega), if_neg (by omega)]
theorem tlK_0 {b : Nat → Int} {n m : Int} {s : TSx}  (h0 : 0 < s.kd) : tlK b n m s = .inl (3, tka b n m s.p) := by
  unfold tlK
  rw [if_pos h0]
theorem tlK_1 {b : Nat → Int} {n m : Int} {s : TSx} (h0 : ¬ (0 < s.kd)) (h1 : ¬ tkc b n m (tkp b n m s.p) = 301) : tlK b n m s = .inl (1, tka b n m (tkp b n m s.p)) := by
  unfold tlK
  rw [if_neg h0, if_pos h1]
theorem tlK_2 {b : Nat → Int} {n m : Int} {s : TSx} (h0 : ¬ (0 < s.kd)) (h1 : ¬ (¬ tkc b n m (tkp b n m s.p) = 301)) (h2 : ¬ (2 ≤ tkv b n m (tkp b n m s.p) ∧ tkv b n m (tkp b n m s.p) ≤ 13)) : tlK b n m s = .inl (2, tka b n m (tkp b n m s.p)) := by
  unfold tlK
  rw [if_neg h0, if_neg h1, if_pos h2]
theorem tlK_s {b : Nat → Int} {n m : Int} {s : TSx} (h0 : ¬ (0 < s.kd)) (h1 : ¬ (¬ tkc b n m (tkp b n m s.p) = 301)) (h2 : ¬ (¬ (2 ≤ tkv b n m (tkp b n m s.p) ∧ tkv b n m (tkp b n m s.p) ≤ 13))) : tlK b n m s = .inr (tsx ((tkp b n m (tkp b n m s.p))) (tkv b n m (tkp b n m s.p)) s.ps s.ag s.rf s.rt s.hpn s.nm s.hd s.hp s.pl) := by
  unfold tlK
  rw [if_neg h0, if_neg h1, if_neg h2]
theorem tlP_0 {b : Nat → Int} {n m : Int} {s : TSx}  (h0 : s.ps = 6) : tlP b n m s = .inl (4, tka b n m s.p) := by
  unfold tlP
  rw [if_pos h0]
theorem tlP_1 {b : Nat → Int} {n m : Int} {s : TSx} (h0 : ¬ (s.ps = 6)) (h1 : ¬ tkc b n m (tkp b n m s.p) = 300) : tlP b n m s = .inl (1, tka b n m (tkp b n m s.p)) := by
  unfold tlP
  rw [if_neg h0, if_pos h1]
