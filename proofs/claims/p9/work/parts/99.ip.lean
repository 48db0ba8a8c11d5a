theorem sX2_copyFromJ {σ : xS} {f : Nat → Int} {Q : Option xV → xS → Prop} (hp0 : 0 ≤ σ 22 2 ∧ σ 22 2 ≤ 52) (hp1 : σ 13 2 = 0 ∨ σ 13 2 = 1) (hp0_ : GR (xsel [13, 14, 15, 16, 17, 18, 19, 20, 21, 22, 23, 24, 25] σ) f) (hQ : ∀ σ' : xS, Fr [1, 2, 3, 4, 5, 6, 7, 8, 9, 10, 11, 12] [0, 1, 2, 3, 8, 9, 14, 15, 16] σ σ' → ((∀ i : Nat, (i : Int) < 78 → σ' 2 i = σ 15 i) ∧ (∀ i : Nat, (i : Int) < 52 → σ' 4 i = σ 17 i) ∧ (∀ i : Nat, (i : Int) < 78 → σ' 10 i = σ 23 i) ∧ (σ' 0 0 = σ 13 0 ∧ σ' 0 1 = σ 13 1 ∧ σ' 0 2 = σ 13 2 ∧ σ' 0 8 = σ 13 8 ∧ σ' 0 9 = σ 13 9) ∧ σ' 9 2 = σ 22 2) → Fr [1, 2, 3, 4, 5, 6, 7, 8, 9, 10, 11, 12] [0, 1, 2, 3, 8, 9, 14, 15, 16] σ σ' → (GR σ' f ∧ σ' 0 14 = σ 13 14 ∧ ∀ i : Nat, (i : Int) < 6 → σ' 1 i = σ 14 i) → Q none σ') : xT kX2_copyFrom [xvr 0, xvr 13] σ Q := by
  refine jkX2_copyFrom _ _ (fun o ς => o = none ∧ Fr [1, 2, 3, 4, 5, 6, 7, 8, 9, 10, 11, 12] [0, 1, 2, 3, 8, 9, 14, 15, 16] σ ς ∧ (((∀ i : Nat, (i : Int) < 78 → ς 2 i = σ 15 i) ∧ (∀ i : Nat, (i : Int) < 52 → ς 4 i = σ 17 i) ∧ (∀ i : Nat, (i : Int) < 78 → ς 10 i = σ 23 i) ∧ (ς 0 0 = σ 13 0 ∧ ς 0 1 = σ 13 1 ∧ ς 0 2 = σ 13 2 ∧ ς 0 8 = σ 13 8 ∧ ς 0 9 = σ 13 9) ∧ ς 9 2 = σ 22 2))) (fun o ς => o = none ∧ Fr [1, 2, 3, 4, 5, 6, 7, 8, 9, 10, 11, 12] [0, 1, 2, 3, 8, 9, 14, 15, 16] σ ς ∧ ((GR ς f ∧ ς 0 14 = σ 13 14 ∧ ∀ i : Nat, (i : Int) < 6 → ς 1 i = σ 14 i))) _ (sX2_copyFrom hp0 hp1 (fun ς f p => ⟨rfl, f, p⟩)) (sX2_copyFromG hp0_ hp1 (fun ς f p => ⟨rfl, f, p⟩)) (fun o ς h1 h2 => ?_)
  obtain ⟨rfl, f0, p0⟩ := h1
  obtain ⟨e2, f1, p1⟩ := h2
  exact hQ ς f0 p0 f1 p1
/-! Copies and Past.keep, exactly. -/
theorem ap13_at {tb sb t : Nat} (h : t < 13) : (g13 tb ++ g13 sb).getD (13 + t) 0 = sb + t := by
  have e : t = 0 ∨ t = 1 ∨ t = 2 ∨ t = 3 ∨ t = 4 ∨ t = 5 ∨ t = 6 ∨ t = 7 ∨ t = 8 ∨ t = 9 ∨ t = 10 ∨ t = 11 ∨ t = 12 := by omega
  rcases e with rfl | rfl | rfl | rfl | rfl | rfl | rfl | rfl | rfl | rfl | rfl | rfl | rfl <;> rfl
theorem d13_at {t : Nat} (h : t < 13) : ([13, 14, 15, 16, 17, 18, 19, 20, 21, 22, 23, 24, 25] : List Nat).getD t 0 = 13 + t := by
  have e : t = 0 ∨ t = 1 ∨ t = 2 ∨ t = 3 ∨ t = 4 ∨ t = 5 ∨ t = 6 ∨ t = 7 ∨ t = 8 ∨ t = 9 ∨ t = 10 ∨ t = 11 ∨ t = 12 := by omega
  rcases e with rfl | rfl | rfl | rfl | rfl | rfl | rfl | rfl | rfl | rfl | rfl | rfl | rfl <;> rfl
theorem gmC.src {tb sb : Nat} {σ : xS} {f : Nat → Int} (h : gmC sb σ f) : GR (xsel [13, 14, 15, 16, 17, 18, 19, 20, 21, 22, 23, 24, 25] (xsel (g13 tb ++ g13 sb) σ)) f :=
  h.1.loc (fun t ht => by
    rw [xsel13 ht]
    show σ ((g13 tb ++ g13 sb).getD (([13, 14, 15, 16, 17, 18, 19, 20, 21, 22, 23, 24, 25] : List Nat).getD t 0) 0) = _
    rw [d13_at ht, ap13_at ht])
theorem vCopyEF {f : Nat → Int} {σ : xS} {tb sb : Nat} {w : Nat → Bool} {K : Option xV → xS → Prop} (h : cpB tb sb = true) (ht : blkV tb = 0 ∨ w (blkV tb) = true) (hJ : JG (xsel (g13 sb) σ)) (hf : gmC sb σ f) (hK : ∀ σ', (∀ t, t ∉ g13 tb → σ' t = σ t) → JG (xsel (g13 tb) σ') → (gmC tb σ' f ∧ ∀ j : Nat, j < 6 → σ' (tb + 1) j = σ (sb + 1) j) → K none σ') : xMV (vsh w) 2 (g13 tb ++ g13 sb) (xT kX2_copyFrom) [xvr tb, xvr sb] σ K := by
  obtain ⟨a1, a2, a3, a4⟩ := cpB_e h
  obtain ⟨codes, hc⟩ := vGame h ht
  refine xMVf hc a2 (fun Q2 hQ2 => ?_)
  rw [show (xvr tb :: [xvr sb]).map (xdn (g13 tb ++ g13 sb)) = [xvr 0, xvr 13] from a3]
  refine sX2_copyFromJ (f := f) (σ := xsel (g13 tb ++ g13 sb) σ) hJ.1.2.2.2 hJ.2.1 hf.src (fun ς f1 p f2 q => hQ2 _ _ ?_)
  have e : ∀ k, k < 13 → xbk (g13 tb ++ g13 sb) σ ς (tb + k) = ς k := by
    intro k hk
    unfold xbk
    rw [(a4 k hk).1]
  refine hK _ (fun t ht2 => ?_) (JG.cp hJ (fun i hi => ?_) (fun i hi => ?_) (fun i hi => ?_) ⟨?_, ?_, ?_, ?_, ?_⟩ ?_) ⟨⟨?_, ?_⟩, fun j hj => ?_⟩
  · unfold xbk
    cases hx : xix (g13 tb ++ g13 sb) t with
    | none => rfl
    | some j =>
      have h5 := xix_e hx
      have hj : 13 ≤ j := by
        rcases Nat.lt_or_ge j 13 with h6 | h6
        · rw [List.getElem?_append_left (show j < (g13 tb).length from h6)] at h5
          exact absurd (List.mem_of_getElem? h5) ht2
        · exact h6
      show ς j = σ t
      rw [f1.1 j (by omega) (by simp only [List.mem_cons, List.not_mem_nil, or_false]; omega)]
      show σ ((g13 tb ++ g13 sb).getD j 0) = σ t
      rw [xgetD h5]
  · show xbk (g13 tb ++ g13 sb) σ ς (tb + 2) i = _
    rw [e 2 (by omega)]; exact p.1 i hi
  · show xbk (g13 tb ++ g13 sb) σ ς (tb + 4) i = _
    rw [e 4 (by omega)]; exact p.2.1 i hi
  · show xbk (g13 tb ++ g13 sb) σ ς (tb + 10) i = _
    rw [e 10 (by omega)]; exact p.2.2.1 i hi
  · show xbk (g13 tb ++ g13 sb) σ ς (tb + 0) 0 = _
    rw [e 0 (by omega)]; exact p.2.2.2.1.1
  · show xbk (g13 tb ++ g13 sb) σ ς (tb + 0) 1 = _
    rw [e 0 (by omega)]; exact p.2.2.2.1.2.1
  · show xbk (g13 tb ++ g13 sb) σ ς (tb + 0) 2 = _
    rw [e 0 (by omega)]; exact p.2.2.2.1.2.2.1
  · show xbk (g13 tb ++ g13 sb) σ ς (tb + 0) 8 = _
    rw [e 0 (by omega)]; exact p.2.2.2.1.2.2.2.1
  · show xbk (g13 tb ++ g13 sb) σ ς (tb + 0) 9 = _
    rw [e 0 (by omega)]; exact p.2.2.2.1.2.2.2.2
  · show xbk (g13 tb ++ g13 sb) σ ς (tb + 9) 2 = _
    rw [e 9 (by omega)]; exact p.2.2.2.2
  · exact q.1.loc (fun t ht => by rw [xsel13 ht]; exact e t ht)
  · have z := congrFun (e 0 (by omega)) 14
    rw [show tb + 0 = tb from rfl] at z
    rw [z, q.2.1]
    show σ ((g13 tb ++ g13 sb).getD (13 + 0) 0) 14 = _
    rw [ap13_at (by omega)]
    exact hf.2
  · rw [e 1 (by omega), q.2.2 j (by omega)]
    show σ ((g13 tb ++ g13 sb).getD (13 + 1) 0) j = _
    rw [ap13_at (by omega)]
set_option maxHeartbeats 4000000 in
set_option maxRecDepth 100000 in
theorem pX5_keepF {w : Nat → Bool} {gv : xV} {σ : xS} {Q : Option xV → xS → Prop} {Z : Nat → List xV → xS → Prop} (hp0 : (0 ≤ σ 39 1 ∧ σ 39 1 ≤ 7)) (hp1 : (0 ≤ σ 39 2 ∧ σ 39 2 ≤ 8)) (hQ : ∀ σ' : xS, Fr [39] [] σ σ' → (((σ 39 1 = 7 ∧ σ' 39 1 = 0) ∨ (σ 39 1 < 7 ∧ σ' 39 1 = σ 39 1 + 1)) ∧ ((σ 39 2 = 8 ∧ σ' 39 2 = 8) ∨ (σ 39 2 < 8 ∧ σ' 39 2 = σ 39 2 + 1))) → Q none σ') : xTE (kX5_keep_b w) Q Z 41 [xvr 39, gv] σ := by
  intro X hX hZZ
  have hF : Fr [39] [] σ σ := Fr.rf
  refine hX 400 41 _ _ ?_
  intro v1 e1 l1 h1
  have e1 : v1 = σ 39 1 := e1
  intro z2 t2 e2 l2 h2
  try have w2 : t2 = 0 := by omega
  refine And.intro (fun c3 => ?_) (fun c3 => ?_)
  · have hF := hF.pt (t := 39) (j := 1) (v := 0) (by decide) (by decide)
    intro v5 e5 l5 h5
    have e5 : v5 = σ 39 2 := e5
    intro z6 t6 e6 l6 h6
    try have w6 : t6 = 0 := by omega
    intro r7 o7 a7 b7
    have hF := hF.pt (t := 39) (j := 2) (v := r7) (by decide) (by decide)
    refine And.intro rfl (And.intro rfl ?_)
    exact hQ _ hF (show ((σ 39 1 = 7 ∧ (0) = 0) ∨ (σ 39 1 < 7 ∧ (0) = σ 39 1 + 1)) ∧ ((σ 39 2 = 8 ∧ (r7) = 8) ∨ (σ 39 2 < 8 ∧ (r7) = σ 39 2 + 1)) from by first | trivial | omega)
  · intro v9 e9 l9 h9
    have e9 : v9 = σ 39 1 := e9
    intro z10 t10 e10 l10 h10
    try have w10 : t10 = 0 := by omega
    have hF := hF.pt (t := 39) (j := 1) (v := z10) (by decide) (by decide)
    intro v12 e12 l12 h12
    have e12 : v12 = σ 39 2 := e12
    intro z13 t13 e13 l13 h13
    try have w13 : t13 = 0 := by omega
    intro r14 o14 a14 b14
    have hF := hF.pt (t := 39) (j := 2) (v := r14) (by decide) (by decide)
    refine And.intro rfl (And.intro rfl ?_)
    exact hQ _ hF (show ((σ 39 1 = 7 ∧ (z10) = 0) ∨ (σ 39 1 < 7 ∧ (z10) = σ 39 1 + 1)) ∧ ((σ 39 2 = 8 ∧ (r14) = 8) ∨ (σ 39 2 < 8 ∧ (r14) = σ 39 2 + 1)) from by first | trivial | omega)
/-- the game g is kept: where, and what else stays -/
def kpF (w : Nat → Bool) (σ : xS) (w' : Nat → Bool) (σ' : xS) (g : Nat) (f : Nat → Int) : Prop := ∃ i : Nat, i < 8 ∧ σ 39 1 = i ∧ w' (1 + i) = true ∧ (∀ c, c ≠ 1 + i → w' c = w c) ∧ (∀ t, t ≠ 39 → blkV t ≠ 1 + i → σ' t = σ t) ∧ (gmC (47 + 13 * i) σ' f ∧ ∀ j : Nat, j < 6 → σ' (47 + 13 * i + 1) j = σ (g + 1) j) ∧ ((σ 39 1 = 7 ∧ σ' 39 1 = 0) ∨ (σ 39 1 < 7 ∧ σ' 39 1 = σ 39 1 + 1)) ∧ ((σ 39 2 = 8 ∧ σ' 39 2 = 8) ∨ (σ 39 2 < 8 ∧ σ' 39 2 = σ 39 2 + 1))
def keepEF : vE := fun w as σ Q => ∃ g : Nat, ∃ f : Nat → Int, as = [xvr 39, xvr g] ∧ (g = 2 ∨ g = 15) ∧ PV w σ ∧ JG (xsel (g13 g) σ) ∧ gmC g σ f ∧ ∀ w' σ', keepR w σ w' σ' → kpF w σ w' σ' g f → Q none w' σ'
section XP
variable {p : Program} {l : Launch} {e : Env} {R : Room} {s : State} {m : MethodId} {args : Array Value} {below : List Frame} {meth : Method} {c : Code}
variable {d : Nat} {D : va_G} {yv : Nat → ClassId} {a : Nat → Nat} {ρ : Nat → Nat → Option Nat} {A : Nat → Prop} {kz : Nat × Nat} {σ : xS}
set_option maxHeartbeats 4000000 in
set_option maxRecDepth 100000 in
theorem vKeep28F {f : Nat → Int} {w0 w : Nat → Bool} {a0 : Nat → Nat} {K : Option xV → (Nat → Bool) → xS → Prop} {mc ms i g : Nat} (hC : XC p R s m args meth c D yv A RX5 cX5_keep 2 d none) (hd : 3 ≤ d) (hkq : kz.1 ≤ mc ∧ kz.2 ≤ ms) (hk1 : kz.1 ≤ R.cells) (hk2 : kz.2 ≤ R.slots) (hi : i < 8) (hg : g = 2 ∨ g = 15) (hwi : w (1 + i) = true) (htop : σ 39 1 = i) (hsz : 0 ≤ σ 39 2 ∧ σ 39 2 ≤ 8) (hLK : LK a ρ w) (hag : ∀ t, (vsh w0 t).isSome = true → a t = a0 t) (hJ : JG (xsel (g13 g) σ)) (hf : gmC g σ f)
    (hK : ∀ σ', (∀ t, t ≠ 39 → t ∉ g13 (47 + 13 * i) → σ' t = σ t) → JG (xsel (g13 (47 + 13 * i)) σ') → (gmC (47 + 13 * i) σ' f ∧ ∀ j : Nat, j < 6 → σ' (47 + 13 * i + 1) j = σ (g + 1) j) → (((σ 39 1 = 7 ∧ σ' 39 1 = 0) ∨ (σ 39 1 < 7 ∧ σ' 39 1 = σ 39 1 + 1)) ∧ ((σ 39 2 = 8 ∧ σ' 39 2 = 8) ∨ (σ 39 2 < 8 ∧ σ' 39 2 = σ 39 2 + 1))) → K none w σ') : XA kz p l e R s m args below meth c D yv a ρ 194 (vsh w) A 2 (MQ below (vQ D yv a0 w0 A K) args s mc ms A) 28 [xvr 39, xvr g] [] σ := by
  have hcp : cpB (47 + 13 * i) g = true := by rcases hg with rfl | rfl <;> first | exact (cpK i hi).1 | exact (cpK i hi).2.1
  have hbt : blkV (47 + 13 * i) = 0 ∨ w (blkV (47 + 13 * i)) = true := Or.inr (by rw [bk1 hi]; exact hwi)
  have hbg : blkV g = 0 ∨ w (blkV g) = true := Or.inl (by rcases hg with rfl | rfl <;> rfl)
  refine xs_aload hC (i := 0) (x := 39) dX5_keep_28 rfl ?_
  refine xs_get hC (vfi w) (foX5 11 5 0 rfl) (cd := 44) (v := xvr 40) (sh39 w) rfl rfl (fun _ => trivial) dX5_keep_29 ?_
  refine xs_aload hC (i := 0) (x := 39) dX5_keep_32 rfl ?_
  refine xs_get hC (vfi w) (foX5 15 5 1 rfl) (cd := 0) (v := xvi (σ 39 1)) (sh39 w) rfl rfl (fun hσ => (hσ.1 39 5 _ (sh39 w) 1 0 rfl).1 (Or.inl rfl)) dX5_keep_33 ?_
  refine xs_aaload hC (vfi w) (k := 4) (v := xvr (47 + 13 * i)) (Or.inl rfl) (sh40 w) ⟨by omega, by omega⟩ ⟨by omega, by omega⟩ (by rw [show (σ 39 1).toNat = i by omega, hLK.1 i hi, if_pos hwi]; rfl) trivial dX5_keep_36 ?_
  refine xs_aload hC (i := 1) (x := g) dX5_keep_37 rfl ?_
  refine xs_ck (v := true) (i := 23) (n := 2) (as := [xvr (47 + 13 * i), xvr g]) (rest := []) (K := fun r σ' => r = none ∧ (∀ t, t ∉ g13 (47 + 13 * i) → σ' t = σ t) ∧ JG (xsel (g13 (47 + 13 * i)) σ') ∧ gmC (47 + 13 * i) σ' f ∧ ∀ j : Nat, j < 6 → σ' (47 + 13 * i + 1) j = σ (g + 1) j) hC ((vCopyC hcp q_3_182 hbt hbg).up hd) hk1 hk2 dX5_keep_38 (vCopyEF hcp hbt hJ hf (fun σ' h1 h2 h3 => ⟨rfl, h1, h2, h3⟩)) rfl (by decide) (fun r σ1 hk => ?_)
  obtain ⟨rfl, h1, h2, h3⟩ := hk
  have h39 : σ1 39 = σ 39 := h1 39 (fun h => by obtain ⟨k, _, h⟩ := g13_mem h; omega)
  refine vTE (C := kX5_keep_b w) (Z := fun _ _ _ => False) hkq hC (zX5_keep_b w) (fun v i n E he => (hX5_keep_b w l D yv v i n E he).up (by omega)) hk1 hk2 rfl hLK hag (pX5_keepF (by rw [h39]; omega) (by rw [h39]; exact hsz) (fun σ2 f p => ⟨(fun _ h => by cases h), ?_⟩)) (fun _ _ _ h => h.elim)
  have hu : ∀ t, t ≠ 39 → σ2 t = σ1 t := by
    intro t ht
    by_cases h0 : t = 0
    · subst h0
      funext j
      exact f.2 j (by simp)
    · exact f.1 t h0 (by simp [ht])
  refine hK σ2 (fun t h3 h4 => (hu t h3).trans (h1 t h4)) (jg_sel h2 (fun k hk => hu _ (by omega))) ⟨h3.1.eq (fun t h5 h6 => hu t (by omega)), fun j hj => by rw [hu _ (by omega)]; exact h3.2 j hj⟩ (by rw [h39] at p; exact p)
end XP
