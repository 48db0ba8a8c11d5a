set_option maxHeartbeats 4000000 in
set_option maxRecDepth 100000 in
theorem sX7_copyFromC {σ : xS} {Q : Option xV → xS → Prop} (hQ : ∀ σ' : xS, Fr [1] [1] σ σ' → (σ' 0 1 = σ 2 1 ∧ ∀ i : Nat, i < 40 → σ' 1 i = σ 3 i) → Q none σ') : xT kX7_copyFrom [xvr 0, xvr 2] σ Q := by
  refine ⟨Nat.le_of_ble_eq_true rfl, fun X hX => ?_⟩
  show X 0 [xvr 0, xvr 2] σ
  have hF : Fr [1] [1] σ σ := Fr.rf
  refine hX 400 0 _ _ ?_
  refine And.intro (Or.inl rfl) (And.intro rfl (And.intro ⟨by omega, by omega, by omega, by omega, by omega⟩ ?_))
  have c1 : ∀ i : Nat, i < 40 → xcp σ 3 (0 : Int).toNat 1 (0 : Int).toNat (40 : Int).toNat 1 i = σ 3 i := fun i hi => xcp_in (by exact hi)
  have f1 : Fr [1] [] σ (xcp σ 3 (0 : Int).toNat 1 (0 : Int).toNat (40 : Int).toNat) := Fr.cp (by decide)
  generalize xcp σ 3 (0 : Int).toNat 1 (0 : Int).toNat (40 : Int).toNat = σ1 at f1 c1 ⊢
  have hF := hF.tr f1 (by decide) (by decide)
  have kk1 := congrFun (f1.1 2 (by decide) (by decide)) 1
  intro v2 e2 l2 h2
  have e2 : v2 = σ1 2 1 := e2
  have hF := hF.p (j := 1) (v := v2) (by decide)
  refine And.intro rfl (And.intro rfl ?_)
  exact hQ _ hF ⟨(show v2 = σ 2 1 from by omega), c1⟩

theorem vCopyNEF {σ : xS} {tb sb : Nat} {w : Nat → Bool} {K : Option xV → xS → Prop} (h : cpN tb sb = true) (ht : blkV tb = 0 ∨ w (blkV tb) = true) (hK : ∀ σ', (∀ t, t ∉ g2 tb → σ' t = σ t) → (σ' tb 1 = σ sb 1 ∧ ∀ i : Nat, i < 40 → σ' (tb + 1) i = σ (sb + 1) i) → K none σ') : xMV (vsh w) 7 (g2 tb ++ g2 sb) (xT kX7_copyFrom) [xvr tb, xvr sb] σ K := by
  obtain ⟨a1, a2, a3, a4⟩ := cpN_e h
  obtain ⟨codes, hc⟩ := vSent h ht
  refine xMVf hc a2 (fun Q2 hQ2 => ?_)
  rw [show (xvr tb :: [xvr sb]).map (xdn (g2 tb ++ g2 sb)) = [xvr 0, xvr 2] from a3]
  refine sX7_copyFromC (σ := xsel (g2 tb ++ g2 sb) σ) (fun ς f p => hQ2 _ _ ?_)
  refine hK _ (fun t ht2 => ?_) ⟨?_, fun i hi => ?_⟩
  · unfold xbk
    cases hx : xix (g2 tb ++ g2 sb) t with
    | none => rfl
    | some j =>
      have h5 := xix_e hx
      have hj : 2 ≤ j := by
        rcases Nat.lt_or_ge j 2 with h6 | h6
        · rw [List.getElem?_append_left (show j < (g2 tb).length from h6)] at h5
          exact absurd (List.mem_of_getElem? h5) ht2
        · exact h6
      show ς j = σ t
      rw [f.1 j (by omega) (by simp only [List.mem_cons, List.not_mem_nil, or_false]; omega)]
      show σ ((g2 tb ++ g2 sb).getD j 0) = σ t
      rw [xgetD h5]
  · show xbk (g2 tb ++ g2 sb) σ ς (tb + 0) 1 = _
    unfold xbk
    rw [(a4 0 (by omega)).1]
    exact p.1
  · show xbk (g2 tb ++ g2 sb) σ ς (tb + 1) i = _
    unfold xbk
    rw [(a4 1 (by omega)).1]
    exact p.2 i hi
/-- the image k is taken -/
def imF (w : Nat → Bool) (σ : xS) (k : Int) (w' : Nat → Bool) (σ' : xS) (f : Nat → Int) : Prop := (∀ t, t < 151 → σ' t = σ t) ∧ (((0 ≤ k ∧ k < 2) ∧ gmC (151 + 13 * k.toNat) σ' f ∧ (∀ j : Nat, j < 6 → σ' (151 + 13 * k.toNat + 1) j = σ (2 + 1) j) ∧ (σ' (177 + 2 * k.toNat) 1 = σ 28 1 ∧ ∀ i : Nat, i < 40 → σ' (177 + 2 * k.toNat + 1) i = σ 29 i) ∧ ∀ k2 : Nat, k2 < 2 → k2 ≠ k.toNat → (∀ j, j < 13 → σ' (151 + 13 * k2 + j) = σ (151 + 13 * k2 + j)) ∧ ∀ j, j < 2 → σ' (177 + 2 * k2 + j) = σ (177 + 2 * k2 + j)) ∨ (¬ (0 ≤ k ∧ k < 2) ∧ ∀ t, σ' t = σ t))
def imageEF : vE := fun w as σ Q => ∃ k : Int, ∃ f : Nat → Int, as = [xvr 0, xvi k] ∧ JW w σ ∧ gmC 2 σ f ∧ ∀ (r : Int) w' σ', JW w' σ' → σ' 0 = σ 0 ∧ KT σ σ' → imgR w k r w' → imF w σ k w' σ' f → Q (some (xvi r)) w' σ'
/-- the image k comes back -/
def reF (w : Nat → Bool) (σ : xS) (k : Int) (σ' : xS) (f : Nat → Int) : Prop := ((0 ≤ k ∧ k < 2) ∧ w (9 + k.toNat) = true ∧ gmC 2 σ' f ∧ (∀ j : Nat, j < 6 → σ' 3 j = σ (151 + 13 * k.toNat + 1) j) ∧ (σ' 28 1 = σ (177 + 2 * k.toNat) 1 ∧ ∀ i : Nat, i < 40 → σ' 29 i = σ (177 + 2 * k.toNat + 1) i) ∧ σ' 39 2 = 0 ∧ ∀ t, t ≠ 28 → t ≠ 29 → t ≠ 39 → (t < 2 ∨ 14 < t) → σ' t = σ t) ∨ (¬ ((0 ≤ k ∧ k < 2) ∧ w (9 + k.toNat) = true) ∧ ∀ t, σ' t = σ t)
def restoreEF : vE := fun w as σ Q => ∃ k : Int, ∃ f : Nat → Int, as = [xvr 0, xvi k] ∧ JW w σ ∧ ((0 ≤ k ∧ k < 2) ∧ w (9 + k.toNat) = true → gmC (151 + 13 * k.toNat) σ f) ∧ ∀ (r : Int) σ', JW w σ' → σ' 0 = σ 0 ∧ KT σ σ' → restR w k r → reF w σ k σ' f → Q (some (xvi r)) w σ'
section XP
variable {p : Program} {l : Launch} {e : Env} {R : Room} {s : State} {m : MethodId} {args : Array Value} {below : List Frame} {meth : Method} {c : Code}
variable {d : Nat} {D : va_G} {yv : Nat → ClassId} {a : Nat → Nat} {ρ : Nat → Nat → Option Nat} {A : Nat → Prop} {kz : Nat × Nat} {σ : xS}
set_option maxHeartbeats 4000000 in
set_option maxRecDepth 100000 in
theorem vImage55F {f : Nat → Int} {w0 w : Nat → Bool} {a0 : Nat → Nat} {K : Option xV → (Nat → Bool) → xS → Prop} {mc ms kn : Nat} (hC : XC p R s m args meth c D yv A RX10 cX10_image 2 d (some .boolean)) (hd : 3 ≤ d) (hkq : kz.1 ≤ mc ∧ kz.2 ≤ ms) (hk1 : kz.1 ≤ R.cells) (hk2 : kz.2 ≤ R.slots) (hkn : kn < 2) (hw9 : w (9 + kn) = true) (hw11 : w (11 + kn) = true) (hLK : LK a ρ w) (hag : ∀ t, (vsh w0 t).isSome = true → a t = a0 t) (hJ : JG (xsel (g13 2) σ)) (hf : gmC 2 σ f)
    (hK : ∀ σ', (∀ t, t ∉ g13 (151 + 13 * kn) → t ∉ g2 (177 + 2 * kn) → σ' t = σ t) → JG (xsel (g13 (151 + 13 * kn)) σ') → (gmC (151 + 13 * kn) σ' f ∧ ∀ j : Nat, j < 6 → σ' (151 + 13 * kn + 1) j = σ (2 + 1) j) → (σ' (177 + 2 * kn) 1 = σ 28 1 ∧ ∀ i : Nat, i < 40 → σ' (177 + 2 * kn + 1) i = σ 29 i) → K (some (xvi 1)) w σ') : XA kz p l e R s m args below meth c D yv a ρ 194 (vsh w) A 2 (MQ below (vQ D yv a0 w0 A K) args s mc ms A) 55 [xvr 0, xvi (kn : Int)] [] σ := by
  have hcp := (cpI kn hkn).1
  have hcn := (cpS kn hkn).1
  have hbt : blkV (151 + 13 * kn) = 0 ∨ w (blkV (151 + 13 * kn)) = true := Or.inr (by rw [bk2 hkn]; exact hw9)
  have hbn : blkV (177 + 2 * kn) = 0 ∨ w (blkV (177 + 2 * kn)) = true := Or.inr (by rw [bk3 hkn]; exact hw11)
  refine xs_aload hC (i := 0) (x := 0) dX10_image_55 rfl ?_
  refine xs_get hC (vfi w) (foX10 74 10 11 rfl) (cd := 45) (v := xvr 41) (sh0 w) rfl rfl (fun _ => trivial) dX10_image_56 ?_
  refine xs_iload hC (i := 1) (x := (kn : Int)) dX10_image_59 rfl ?_
  refine xs_aaload hC (vfi w) (k := 4) (v := xvr (151 + 13 * kn)) (Or.inl rfl) (sh41 w) ⟨by omega, by omega⟩ ⟨by omega, by omega⟩ (by rw [show ((kn : Int)).toNat = kn by omega, hLK.2.1 kn hkn, if_pos hw9]; rfl) trivial dX10_image_60 ?_
  refine xs_aload hC (i := 0) (x := 0) dX10_image_61 rfl ?_
  refine xs_get hC (vfi w) (foX10 23 10 3 rfl) (cd := 6) (v := xvr 2) (sh0 w) rfl rfl (fun _ => trivial) dX10_image_62 ?_
  refine xs_ck (v := true) (i := 127) (n := 2) (as := [xvr (151 + 13 * kn), xvr 2]) (rest := []) (K := fun r σ' => r = none ∧ (∀ t, t ∉ g13 (151 + 13 * kn) → σ' t = σ t) ∧ JG (xsel (g13 (151 + 13 * kn)) σ') ∧ gmC (151 + 13 * kn) σ' f ∧ ∀ j : Nat, j < 6 → σ' (151 + 13 * kn + 1) j = σ (2 + 1) j) hC ((vCopyC hcp q_3_87 hbt (Or.inl rfl)).up hd) hk1 hk2 dX10_image_65 (vCopyEF hcp hbt hJ hf (fun σ' h1 h2 h3 => ⟨rfl, h1, h2, h3⟩)) rfl (by decide) (fun r σ1 hk => ?_)
  obtain ⟨rfl, h1, h2, h2g, h2n⟩ := hk
  refine xs_aload hC (i := 0) (x := 0) dX10_image_68 rfl ?_
  refine xs_get hC (vfi w) (foX10 78 10 12 rfl) (cd := 46) (v := xvr 42) (sh0 w) rfl rfl (fun _ => trivial) dX10_image_69 ?_
  refine xs_iload hC (i := 1) (x := (kn : Int)) dX10_image_72 rfl ?_
  refine xs_aaload hC (vfi w) (k := 5) (v := xvr (177 + 2 * kn)) (Or.inr rfl) (sh42 w) ⟨by omega, by omega⟩ ⟨by omega, by omega⟩ (by rw [show ((kn : Int)).toNat = kn by omega, hLK.2.2.1 kn hkn, if_pos hw11]; rfl) trivial dX10_image_73 ?_
  refine xs_aload hC (i := 0) (x := 0) dX10_image_74 rfl ?_
  refine xs_get hC (vfi w) (foX10 33 10 5 rfl) (cd := 32) (v := xvr 28) (sh0 w) rfl rfl (fun _ => trivial) dX10_image_75 ?_
  refine xs_ck (v := true) (i := 348) (n := 2) (as := [xvr (177 + 2 * kn), xvr 28]) (rest := []) (K := fun r σ' => r = none ∧ (∀ t, t ∉ g2 (177 + 2 * kn) → σ' t = σ1 t) ∧ (σ' (177 + 2 * kn) 1 = σ1 28 1 ∧ ∀ i : Nat, i < 40 → σ' (177 + 2 * kn + 1) i = σ1 (28 + 1) i)) hC ((vCopyNC hcn hbn (Or.inl rfl)).up (by omega)) hk1 hk2 dX10_image_78 (vCopyNEF hcn hbn (fun σ' h1 h2 => ⟨rfl, h1, h2⟩)) rfl (by decide) (fun r σ2 hk => ?_)
  obtain ⟨rfl, h3, h4⟩ := hk
  have hne : ∀ j, j < 13 → 151 + 13 * kn + j ∉ g2 (177 + 2 * kn) := fun j hj hm => by obtain ⟨k3, hk3, hm⟩ := g2_mem hm; omega
  refine vTE (C := kX10_image_d w) (w := w) (Z := fun _ _ _ => False) hkq hC (zX10_image_d w) (fun v i n E he => (hX10_image_d w l D yv v i n E he).up (by omega)) hk1 hk2 rfl hLK hag (pX10_image_d (fun r σ3 f hr => ⟨(fun _ h => by cases h), ?_⟩)) (fun _ _ _ h => h.elim)
  subst hr
  have e3 : σ3 = σ2 := funext fun t => fr0 f (by simp)
  subst e3
  exact hK _ (fun t h5 h6 => (h3 t h6).trans (h1 t h5)) (jg_sel h2 (fun j hj => h3 _ (hne j hj))) ⟨h2g.eq (fun t h5 h6 => h3 t (fun hm => by obtain ⟨k3, hk3, hm⟩ := g2_mem hm; omega)), fun j hj => (congrFun (h3 _ (hne 1 (by decide))) j).trans (h2n j hj)⟩ ⟨h4.1.trans (congrFun (h1 28 (fun hm => by obtain ⟨k3, hk3, hm⟩ := g13_mem hm; omega)) 1), fun i hi => (h4.2 i hi).trans (congrFun (h1 29 (fun hm => by obtain ⟨k3, hk3, hm⟩ := g13_mem hm; omega)) i)⟩
end XP
