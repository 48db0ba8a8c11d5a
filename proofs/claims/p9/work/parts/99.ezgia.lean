/-! The heap's line: its cards one after another. -/
noncomputable def hps (b : Nat → Int) (n m p : Int) : Nat → Int
  | 0 => tkp b n m p
  | k + 1 => tkp b n m (hps b n m p k)
noncomputable def hpl (b : Nat → Int) (n m p : Int) (f : Nat → Int) : Nat → Nat → Int
  | 0 => f
  | k + 1 => up (hpl b n m p f k) (tkv b n m (hps b n m p k)).toNat (hpl b n m p f k (tkv b n m (hps b n m p k)).toNat + 1)
noncomputable def hhp (b : Nat → Int) (n m p : Int) (f : Nat → Int) (t : Int) : Nat → Nat → Int
  | 0 => f
  | k + 1 => up (hhp b n m p f t k) (t + k).toNat (tkv b n m (hps b n m p k))
/-- a card that the heap takes -/
def hgd (b : Nat → Int) (n m p kn : Int) (f : Nat → Int) (k : Nat) : Prop := tkc b n m (hps b n m p k) = 301 ∧ (0 ≤ tkv b n m (hps b n m p k) ∧ tkv b n m (hps b n m p k) < kn) ∧ ¬ hpl b n m p f k (tkv b n m (hps b n m p k)).toNat = 4
def HGD (b : Nat → Int) (n m p kn : Int) (f : Nat → Int) (k : Nat) : Prop := ∀ i : Nat, i < k → hgd b n m p kn f i
theorem HGD.z {b f : Nat → Int} {n m p kn : Int} : HGD b n m p kn f 0 := fun i hi => absurd hi (Nat.not_lt_zero i)
theorem HGD.s {b f : Nat → Int} {n m p kn : Int} {k : Nat} (h : HGD b n m p kn f k) (g : hgd b n m p kn f k) : HGD b n m p kn f (k + 1) := fun i hi => by
  by_cases e : i = k
  · rw [e]; exact g
  · exact h i (by omega)
/-- both sides read as many cards -/
theorem HGD.u {b f : Nat → Int} {n m p kn : Int} {k k' : Nat} (h : HGD b n m p kn f k) (h' : HGD b n m p kn f k') (g : ¬ hgd b n m p kn f k) (g' : ¬ hgd b n m p kn f k') : k = k' := by
  by_cases e : k < k'
  · exact absurd (h' k e) g
  · by_cases e' : k' < k
    · exact absurd (h k' e') g'
    · omega
theorem hpl_c {b f f' : Nat → Int} {n m p kn : Int} (hk : kn ≤ 13) (hf : ∀ i : Nat, i < 13 → f i = f' i) : ∀ k : Nat, HGD b n m p kn f k → (∀ i : Nat, i < 13 → hpl b n m p f k i = hpl b n m p f' k i) ∧ HGD b n m p kn f' k
  | 0, _ => ⟨hf, HGD.z⟩
  | k + 1, h => by
    obtain ⟨g1, g2⟩ := hpl_c hk hf k (fun i hi => h i (by omega))
    obtain ⟨a1, a2, a3⟩ := h k (by omega)
    have e : hpl b n m p f k (tkv b n m (hps b n m p k)).toNat = hpl b n m p f' k (tkv b n m (hps b n m p k)).toNat := g1 _ (by omega)
    refine ⟨fun i hi => ?_, g2.s ⟨a1, a2, by rw [← e]; exact a3⟩⟩
    show up (hpl b n m p f k) (tkv b n m (hps b n m p k)).toNat (hpl b n m p f k (tkv b n m (hps b n m p k)).toNat + 1) i = up (hpl b n m p f' k) (tkv b n m (hps b n m p k)).toNat (hpl b n m p f' k (tkv b n m (hps b n m p k)).toNat + 1) i
    rw [e]
    by_cases c : i = (tkv b n m (hps b n m p k)).toNat
    · rw [c, up_s, up_s]
    · rw [up_n c, up_n c]; exact g1 i hi
theorem up_up {f : Nat → Int} {i : Nat} {a c : Int} : up (up f i a) i c = up f i c := by
  funext j
  by_cases e : j = i
  · rw [e, up_s, up_s]
  · rw [up_n e, up_n e, up_n e]
theorem gcf_all {h : Nat → Int} {b : Int} (hb : b ≤ 52) (hh : ∀ i : Nat, (i : Int) < b → 0 ≤ h i ∧ h i ≤ 12) : ∀ (n : Nat) (a : Int), 0 ≤ a → b - a = n → sm 13 (fun k => gcf h a b k) = b - a
  | 0, a, h0, e => by
    rw [e]
    exact sm_z (fun k hk => sm_z (fun i hi => if_neg (by omega)))
  | n + 1, a, h0, e => by
    have e1 : ∀ k, gcf h a b k = gcf h (a + 1) b k + (if h a.toNat = (k : Int) then 1 else 0) := fun k => gcf_s h0 (by omega) hb
    rw [sm_congr (fun k _ => e1 k), sm_add, gcf_all hb hh n (a + 1) (by omega) (by omega)]
    have hc := hh a.toNat (by omega)
    have e2 := sm_one (n := 13) (c := (h a.toNat).toNat) (by omega)
    rw [sm_congr (g := fun k : Nat => if h a.toNat = (k : Int) then (1 : Int) else 0) (g' := fun k : Nat => if ((h a.toNat).toNat : Int) = (k : Int) then (1 : Int) else 0) (fun i _ => by rw [show ((h a.toNat).toNat : Int) = h a.toNat from by omega]), e2]
    omega
theorem TG.h51 {σ : xS} (h : TG σ) (h8 : σ 5 8 = 0) {kd : Nat} (hk : kd < 13) (h4 : σ 1 kd < 4) : σ 5 9 ≤ 51 := by
  have g : CRx (xsel [5, 6, 7, 8, 9, 10, 11, 12, 13, 14, 15, 16, 17] σ) := h.1.1
  have g3 : 0 ≤ σ 5 8 ∧ σ 5 8 ≤ σ 5 9 ∧ σ 5 9 ≤ 52 := g.2.2.1
  have g4 : ∀ i : Nat, (i : Int) < σ 5 9 → 0 ≤ σ 9 i ∧ σ 9 i ≤ 12 := g.2.2.2
  have g5 : CHx (σ 7) := h.1.2.1
  have e := gcf_all (h := σ 9) (b := σ 5 9) g3.2.2 g4 (σ 5 9).toNat (σ 5 8) (by omega) (by omega)
  have l := sm_le (n := 13) (g := fun k => gcf (σ 9) (σ 5 8) (σ 5 9) k) (g' := fun k => if k = kd then 3 else 4) (fun i hi => by
    have b := h.2.1 i hi
    have s6 : 0 ≤ sm 6 (fun p => σ 7 (13 * p + i)) := sm_nn (fun q hq => g5 q i hq hi)
    unfold gsf at b
    try dsimp only
    by_cases c : i = kd
    · subst c; rw [if_pos rfl]; omega
    · rw [if_neg c]; omega)
  have e2 : sm 13 (fun k => if k = kd then (3 : Int) else 4) = 51 := by
    rw [sm_upd (g := fun _ => 4) (g' := fun k : Nat => if k = kd then (3 : Int) else 4) hk (fun i hi hne => by rw [if_neg hne]), sm_const, if_pos rfl]
    rfl
  omega
theorem gsf_nn {hs h : Nat → Int} {a b : Int} {k : Nat} (hH : CHx hs) (hk : k < 13) : 0 ≤ gsf hs h a b k := by
  have z := sm_nn (n := 6) (g := fun p => hs (13 * p + k)) (fun p hp => hH p k hp hk)
  have y := gcf_nn (h := h) (a := a) (b := b) (k := k)
  unfold gsf
  omega
theorem up_id0 {f : Nat → Int} {i : Nat} : up f i (f i + ((0 : Nat) : Int)) = f := by
  funext j
  by_cases e : j = i
  · rw [e, up_s]; omega
  · rw [up_n e]
set_option maxHeartbeats 4000000 in
set_option maxRecDepth 100000 in
theorem sX2_addToHeapF {σ : xS} {kind : Int} {Q : Option xV → xS → Prop} (hp0 : 0 ≤ σ 0 9 ∧ σ 0 9 ≤ 51) (hQ : ∀ σ' : xS, Fr [4] [9] σ σ' → (σ' 0 = up (σ 0) 9 (σ 0 9 + 1) ∧ σ' 4 = up (σ 4) (σ 0 9).toNat kind) → Q none σ') : xT kX2_addToHeap [xvr 0, xvi kind] σ Q := by
  refine ⟨Nat.le_of_ble_eq_true rfl, fun X hX => ?_⟩
  show X 0 [xvr 0, xvi kind] σ
  have hF : Fr [4] [9] σ σ := Fr.rf
  refine hX 400 0 _ _ ?_
  intro v1 e1 l1 h1
  have e1 : v1 = σ 0 9 := e1
  refine And.intro (fun c2 => ?_) (fun c2 => ?_)
  · refine hX 400 29 _ _ ?_
    refine And.intro rfl (And.intro rfl ?_)
    exfalso; omega
  · intro v3 e3 l3 h3
    have e3 : v3 = σ 0 9 := e3
    refine And.intro (rfl) (And.intro (⟨by omega, by omega⟩) ?_)
    have hF := hF.pt (t := 4) (j := v3.toNat) (v := kind) (by decide) (by decide)
    intro v5 e5 l5 h5
    have e5 : v5 = σ 0 9 := e5
    intro z6 t6 e6 l6 h6
    try have w6 : t6 = 0 := by omega
    have hF := hF.p (j := 9) (v := z6) (by decide)
    refine hX 400 29 _ _ ?_
    refine And.intro rfl (And.intro rfl ?_)
    exact hQ _ hF ⟨by
        show xput _ 0 9 _ 0 = _
        rw [xput_up, xput_ne (by decide), show z6 = σ 0 9 + 1 from by omega], by
        rw [xput_ne (by decide), xput_up, show v3.toNat = (σ 0 9).toNat from by omega]⟩
