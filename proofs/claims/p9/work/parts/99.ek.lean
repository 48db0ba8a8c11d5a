/-! A block comes: new, dup, invokespecial. -/
def vBlk (b : Nat) (τ : List Nat) (N' : Nat) (sh' : xH) : Prop := b ≠ 0 ∧ xSub τ N' sh' (fun t => wlVF0[t]?) ∧ (∀ t ∈ τ, t < 194 ∧ blkV t = b) ∧ (∀ t, t < 194 → blkV t = b → (xix τ t).isSome = true) ∧ (∀ i e, sh' i = some e → ∀ c, c + 4 ∈ e.2.2 → c < N') ∧ 0 < N'
def vAbk (τ : List Nat) (a aG : Nat → Nat) : Nat → Nat := fun t => match xix τ t with
  | some i => aG i
  | none => a t
def vRbk (τ : List Nat) (ρ : Nat → Nat → Option Nat) : Nat → Nat → Option Nat := fun t => match xix τ t with
  | some _ => fun _ => none
  | none => ρ t
theorem vOn_out {b : Nat} {τ : List Nat} {N' : Nat} {sh' : xH} {w : Nat → Bool} (hB : vBlk b τ N' sh') : ∀ t, xix τ t = none → vsh (wOn w b) t = vsh w t := by
  intro t ht
  rcases Nat.lt_or_ge t 194 with h | h
  · have hb : blkV t ≠ b := fun e => by
      have := hB.2.2.2.1 t h e
      rw [ht] at this; cases this
    show (if blkV t = 0 ∨ wOn w b (blkV t) = true then wlVF0[t]? else none) = (if blkV t = 0 ∨ w (blkV t) = true then wlVF0[t]? else none)
    rw [show wOn w b (blkV t) = w (blkV t) from if_neg hb]
  · rw [vfi _ t h, vfi _ t h]
theorem vOn_sub {b : Nat} {τ : List Nat} {N' : Nat} {sh' : xH} {w : Nat → Bool} (hB : vBlk b τ N' sh') : xSub τ N' sh' (vsh (wOn w b)) := subW hB.2.1 (fun t ht => Or.inr (by rw [(hB.2.2.1 t ht).2]; exact if_pos rfl))
theorem vOn_none {b : Nat} {τ : List Nat} {N' : Nat} {sh' : xH} {w : Nat → Bool} (hB : vBlk b τ N' sh') (hw : w b = false) {t : Nat} (ht : (vsh w t).isSome = true) : xix τ t = none := by
  cases hi : xix τ t with
  | none => rfl
  | some i =>
    have h1 := (hB.2.2.1 t (List.mem_of_getElem? (xix_e hi))).2
    obtain ⟨e, he⟩ := Option.isSome_iff_exists.mp ht
    rcases (shW_e he).2 with h2 | h2
    · exact absurd (h1.symm.trans h2) hB.1
    · rw [h1, hw] at h2; cases h2
theorem vAdd_P {b : Nat} {τ : List Nat} {N' : Nat} {sh' : xH} {w : Nat → Bool} {D : va_G} {yv : Nat → ClassId} {a aG : Nat → Nat} {ρ : Nat → Nat → Option Nat} {σ σG : xS} {H : Heap} (hB : vBlk b τ N' sh') (hw : w b = false) (hP : va_P D vwCl (xws a yv ρ 194 (vsh w) σ) H) (hG : va_P D vwCl (xws aG yv (fun _ _ => none) N' sh' σG) H) : va_P D vwCl (xws (vAbk τ a aG) yv (vRbk τ ρ) 194 (vsh (wOn w b)) (xbk τ σ σG)) H := by
  have hsub := vOn_sub (w := w) hB
  refine xws_P.mpr (fun t e ht hs => ?_)
  cases hi : xix τ t with
  | some i =>
    have hti := xix_e hi
    have hlt : i < N' := by rw [← hsub.1]; exact (List.getElem?_eq_some_iff.mp hti).1
    obtain ⟨e', he'⟩ := Option.isSome_iff_exists.mp (hsub.2.2.1 i hlt)
    have h5 := (hsub.2.2.2 i e' he').2
    have h6 := xws_P.mp hG i e' hlt he'
    have hat : ∀ c, c < N' → xix τ (τ.getD c 0) = some c := by
      intro c hc
      have hc2 : c < τ.length := by rw [hsub.1]; exact hc
      refine xix_of hsub.2.1 ?_
      rw [List.getElem?_eq_getElem hc2, List.getD_eq_getElem?_getD, List.getElem?_eq_getElem hc2]; rfl
    have h7 : xcell (fun i => vAbk τ a aG (τ.getD i 0)) yv (fun i => vRbk τ ρ (τ.getD i 0)) σG i e' = xcell aG yv (fun _ _ => none) σG i e' := by
      refine xcell_cg (fun c hc => ?_) ?_ rfl
      · show (match xix τ (τ.getD c 0) with | some i => aG i | none => a (τ.getD c 0)) = aG c
        rw [hat c (hB.2.2.2.2.1 i e' he' c hc)]
      · show (match xix τ (τ.getD i 0) with | some _ => fun _ => none | none => ρ (τ.getD i 0)) = fun _ => none
        rw [hat i hlt]
    have h8 : σG i = xbk τ σ σG (τ.getD i 0) := by
      rw [xgetD hti]; unfold xbk; rw [hi]
    rw [← h7, xcell_sub (a := vAbk τ a aG) (y := yv) (ρ := vRbk τ ρ) (σ := xbk τ σ σG) (σ' := σG) (τ := τ) (i := i) h8 e'] at h6
    rw [xgetD hti] at h5 h6
    rw [hs] at h5
    rw [Option.some.inj h5]
    have h9 : vAbk τ a aG t = aG i := by unfold vAbk; rw [hi]
    rw [h9]
    exact h6
  | none =>
    rw [vOn_out hB t hi] at hs
    have h1 := xws_P.mp hP t e ht hs
    have h9 : vAbk τ a aG t = a t := by unfold vAbk; rw [hi]
    rw [h9, xcell_cg (a := a) (ρ := ρ) (σ := σ) (fun c hc => ?_) (by unfold vRbk; rw [hi]) (by unfold xbk; rw [hi])]
    · exact h1
    · have := vOn_none hB hw (vSome hs hc).2
      unfold vAbk; rw [this]
theorem vAdd_D {b : Nat} {τ : List Nat} {N' : Nat} {sh' : xH} {w : Nat → Bool} {yv : Nat → ClassId} {a aG : Nat → Nat} {ρ ρ2 ρ3 : Nat → Nat → Option Nat} {σ σG σ3 : xS} {A : Nat → Prop} (hB : vBlk b τ N' sh') (hD : va_D A (xws a yv ρ 194 (vsh w) σ)) (hG : va_D A (xws aG yv ρ2 N' sh' σG)) (hx : ∀ t i, t < 194 → i < N' → (vsh w t).isSome = true → (sh' i).isSome = true → a t ≠ aG i) : va_D A (xws (vAbk τ a aG) yv ρ3 194 (vsh (wOn w b)) σ3) := by
  have hsub := vOn_sub (w := w) hB
  have h1 := xws_D.mp hD
  have h2 := xws_D.mp hG
  have key : ∀ t, t < 194 → (vsh (wOn w b) t).isSome = true → (xix τ t = none ∧ vAbk τ a aG t = a t ∧ (vsh w t).isSome = true) ∨ ∃ i, xix τ t = some i ∧ vAbk τ a aG t = aG i ∧ i < N' ∧ (sh' i).isSome = true := by
    intro t ht hs
    cases hi : xix τ t with
    | none => exact Or.inl ⟨rfl, by unfold vAbk; rw [hi], by rw [vOn_out hB t hi] at hs; exact hs⟩
    | some i =>
      have hti := xix_e hi
      have hlt : i < N' := by rw [← hsub.1]; exact (List.getElem?_eq_some_iff.mp hti).1
      exact Or.inr ⟨i, rfl, by unfold vAbk; rw [hi], hlt, hsub.2.2.1 i hlt⟩
  refine xws_D.mpr ⟨fun t u ht hu hst hsu he => ?_, fun t ht hst => ?_⟩
  · rcases key t ht hst with ⟨a1, a2, a3⟩ | ⟨i, a1, a2, a3, a4⟩ <;> rcases key u hu hsu with ⟨b1, b2, b3⟩ | ⟨j, b1, b2, b3, b4⟩
    · rw [a2, b2] at he; exact h1.1 t u ht hu a3 b3 he
    · rw [a2, b2] at he; exact absurd he (hx t j ht b3 a3 b4)
    · rw [a2, b2] at he; exact absurd he.symm (hx u i hu a3 b3 a4)
    · rw [a2, b2] at he
      have := h2.1 i j a3 b3 a4 b4 he
      subst this
      exact Option.some.inj ((xix_e a1).symm.trans (xix_e b1))
  · rcases key t ht hst with ⟨a1, a2, a3⟩ | ⟨i, a1, a2, a3, a4⟩
    · rw [a2]; exact h1.2 t ht a3
    · rw [a2]; exact h2.2 i a3 a4
/-- what a constructor leaves -/
def ctQ (D : va_G) (yv : Nat → ClassId) (ci : Nat) (fs0 : List Value) (N' : Nat) (sh' : xH) (sz g : Nat) : Array Value → State → Outcome → State → Prop := fun _ st oc t =>
  (∃ (aG : Nat → Nat) (σG : xS), oc = .returned none ∧ aG 0 = g ∧ xgs sh' σG ∧ va_P D vwCl (xws aG yv (fun _ _ => none) N' sh' σG) t.heap ∧ va_D (va_A [px_o g ci fs0] sz) (xws aG yv (fun _ _ => none) N' sh' σG)) ∧ va_F (va_A [px_o g ci fs0] sz) st t
section XP
variable {p : Program} {l : Launch} {e : Env} {R : Room} {s : State} {m : MethodId} {args : Array Value} {below : List Frame} {meth : Method} {c : Code}
variable {cc : ByteArray} {nL d : Nat} {own : String} {D : va_G} {yv : Nat → ClassId} {a : Nat → Nat} {ρ : Nat → Nat → Option Nat} {A : Nat → Prop} {kz : Nat × Nat} {Qm : State → Prop} {ret : Option FieldType} {pc : Nat} {L st : List xV} {σ : xS}
theorem vs_new {w : Nat → Bool} {b : Nat} {τ : List Nat} {N' ci NN idx mc ms : Nat} {sh' : xH} {C : String} {T : u_T} {fs0 : List Value} {ty0 : Nat → FieldType} (hC : XC p R s m args meth c D yv A own cc nL d ret) (hXX : vX s) (hB : vBlk b τ N' sh') (hw : w b = false) (hcl : Cond.classLink own idx C ∈ gw) (hinst : Cond.instantiable C NN ∈ gw) (hini : Cond.initialized C ∈ gw) (f1 : vwCl[ci]? = some (C, T, NN)) (f2 : ∀ w ∈ u_ws C T NN, w ∈ gw) (f3 : ∀ k, k < NN → parseFieldDescriptor (T k).2.2.1 = some (ty0 k)) (hfs : ∀ j, j < NN → defaultValue (ty0 j) = vp_V fs0 j)
    (hd0 : decode cc pc = .ok (.new idx, 3)) (hd1 : decode cc (pc + 3) = .ok (.dup, 1)) (hcells : kz.1 + 1 ≤ R.cells) (hslots : kz.2 + NN ≤ R.slots) (hrest : st.length ≤ 3)
    (hcall : ∀ (H1 : Heap) (locs1 : List Loc) (ls : Array Slot) (g : Nat) (rest : List Value), ls.size = nL → PreS s H1 (va_Pc [.ref g] (fun U => px_P D yv H1.size [px_o g ci fs0] U ∧ vX U)) [.ref g] → (rest.map fun v => v.category).sum ≤ 8 → va_Run p l e R s m args below meth c H1 locs1 (kz.1 + 1) (kz.2 + NN) mc ms (F0 m (pc + 4) ls (.ref g :: rest)) rest (ctQ D yv ci fs0 N' sh' H1.size g #[.ref g]) (va_A [px_o g ci fs0] H1.size))
    (hLp : ∀ u, xvr u ∈ L → (vsh w u).isSome = true) (hsp : ∀ u, xvr u ∈ st → (vsh w u).isSome = true)
    (kk : ∀ (a' : Nat → Nat) (ρ' : Nat → Nat → Option Nat) (σ' : xS), (∀ t, xix τ t = none → a' t = a t ∧ ρ' t = ρ t ∧ σ' t = σ t) → XA (kz.1 + 1 + mc, kz.2 + NN + ms) p l e R s m args below meth c D yv a' ρ' 194 (vsh (wOn w b)) A nL Qm (pc + 7) L (xvr (τ.getD 0 0) :: st) σ') : XA kz p l e R s m args below meth c D yv a ρ 194 (vsh w) A nL Qm pc L st σ := by
  obtain ⟨hx, hb1, hml, hown, hg, hK, hA, hR1, hR2, hr, hlocks⟩ := hC
  intro hL1 hst hσ hln H locs ls hP hD hS hl
  refine va_new (ci := ci) (fs := fs0) (C := C) (T := T) (N := NN) hx hb1 hg f2 ty0 f3 hown (hg _ hcl) (hg _ hinst) (hg _ hini) hK hP hD hS hA f1 hfs hcells hslots hd0 (fun g H1 hP1 hD1 hS1 => ?_)
  refine lv_dup hx hb1 hd1 rfl ?_
  have hlen : (xws a yv ρ 194 (vsh w) σ ++ [px_o g ci fs0])[(xws a yv ρ 194 (vsh w) σ).length]? = some (px_o g ci fs0) := by simp
  have hPg : va_P D vwCl [px_o g ci fs0] H1 := by
    intro k q hk
    match k, hk with
    | 0, hk => cases hk; exact hP1 _ _ hlen
  have hDg : va_D A [px_o g ci fs0] := by
    refine ⟨fun i j p q hi hj _ => ?_, fun k q hk => ?_⟩
    · match i, j, hi, hj with
      | 0, 0, _, _ => rfl
    · match k, hk with
      | 0, hk => cases hk; exact hD1.2 _ _ hlen
  have hPo : va_P D vwCl (xws a yv ρ 194 (vsh w) σ) H1 := fun k q hk => hP1 k q (by rw [List.getElem?_append_left (List.getElem?_eq_some_iff.mp hk).1]; exact hk)
  have hne : ∀ t, t < 194 → (vsh w t).isSome = true → a t ≠ g := by
    intro t ht hs he
    obtain ⟨e1, he1⟩ := Option.isSome_iff_exists.mp hs
    obtain ⟨q, hq⟩ := xtags_in (vfi w) he1
    have h1 := xws_at (a := a) (y := yv) (ρ := ρ) (σ := σ) hq he1
    have h2 := (List.getElem?_eq_some_iff.mp h1).1
    have := hD1.1 q _ _ _ (by rw [List.getElem?_append_left h2]; exact h1) hlen he
    omega
  have hFc : ∀ q, va_A [px_o g ci fs0] H1.size q → A q := by
    intro q hq
    rcases hq with ⟨k, e1, hk⟩ | hq
    · match k, hk with
      | 0, hk => cases hk; exact hDg.2 0 _ rfl
    · exact hA q (Nat.le_trans hS1.1 hq)
  have hr := hcall H1 locs ls g (.ref g :: st.map (xv a)) hl.1 ⟨v_blind, fun U hU hW => ⟨rfl, ⟨by rw [hU], by rw [hU]; exact hPg, va_K.moved hW.alike hK, hDg.weaken (fun _ _ _ _ => trivial)⟩, hXX.warm hW⟩⟩ (by
    have h1 := xcat a st
    have h2 : (Value.ref g).category = 1 := rfl
    rw [List.map_cons, List.sum_cons, h2]
    omega)
  intro T hT X
  obtain ⟨v, st₀, t, T', L', h0, X', hL', e1, e2, ⟨⟨aG, σG, hv, hg0, hσG, hPG, hDG⟩, hz, hk⟩, stp⟩ := hr T hT X
  cases hv
  rw [h0] at hz hk
  have hPo2 : va_P D vwCl (xws a yv ρ 194 (vsh w) σ) t.heap := by
    refine xws_P.mpr (fun u e hu hue => ?_)
    have h1 := xws_P.mp hPo u e hu hue
    refine h1.kept (hk _ h1.lt (fun hq => ?_))
    rcases hq with ⟨k, e3, hk3⟩ | hq
    · match k, hk3 with
      | 0, hk3 =>
        have : a u = g := (congrArg Prod.fst (Option.some.inj hk3)).symm
        exact hne u hu (by rw [hue]; rfl) this
    · have := h1.lt
      dsimp only at this hq
      omega
  have hDG2 : va_D A (xws aG yv (fun _ _ => none) N' sh' σG) := hDG.weaken (fun _ q _ h => hFc q.1 h)
  have hcross : ∀ u i, u < 194 → i < N' → (vsh w u).isSome = true → (sh' i).isSome = true → a u ≠ aG i := by
    intro u i hu hi hsu hsi he
    obtain ⟨e3, he3⟩ := Option.isSome_iff_exists.mp hsu
    have h1 := (xws_P.mp hPo u e3 hu he3).lt
    dsimp only at h1
    rcases (xws_D.mp hDG).2 i hi hsi with ⟨k, e4, hk4⟩ | hq
    · match k, hk4 with
      | 0, hk4 =>
        have h2 : g = aG i := congrArg Prod.fst (Option.some.inj hk4)
        exact hne u hu hsu (he.trans h2.symm)
    · omega
  have hPn := vAdd_P hB hw hPo2 hPG
  have hDn := vAdd_D (ρ3 := vRbk τ ρ) (σ3 := xbk τ σ σG) hB hD hDG2 hcross
  have hσn : xgs (vsh (wOn w b)) (xbk τ σ σG) := xgs_bk2 (vOn_sub hB) (vOn_out hB) hσ hσG
  have hout : ∀ u, (vsh w u).isSome = true → vAbk τ a aG u = a u := fun u hu => by
    have := vOn_none hB hw hu
    unfold vAbk; rw [this]
  have hin2 : ∀ v : xV, (∀ u, v = xvr u → (vsh w u).isSome = true) → xv (vAbk τ a aG) v = xv a v := by
    intro v hv
    match v, hv with
    | .inl _, _ => rfl
    | .inr (.inl _), _ => rfl
    | .inr (.inr (.inl u)), hv => simp only [xv]; rw [hout u (hv u rfl)]
    | .inr (.inr (.inr ())), _ => rfl
  have hln2 : lv_has ls nL (xlv (vAbk τ a aG) L) := by
    refine ⟨hl.1, hl.2.1, fun ⟨i, v⟩ hq => hl.2.2 (i, v) ?_⟩
    obtain ⟨v2, q1, q2, q3⟩ := xlv_mem hq
    have q1 : L[i]? = some v2 := q1
    have q3 : v = xv (vAbk τ a aG) v2 := q3
    rw [q3, hin2 v2 (fun u hu => hLp u (hu ▸ List.mem_of_getElem? q1))]
    exact xlv_in (a := a) q1 q2
  have hτ0 : xix τ (τ.getD 0 0) = some 0 := by
    have hc2 : 0 < τ.length := by rw [hB.2.1.1]; exact hB.2.2.2.2.2
    refine xix_of hB.2.1.2.1 ?_
    rw [List.getElem?_eq_getElem hc2, List.getD_eq_getElem?_getD, List.getElem?_eq_getElem hc2]; rfl
  have h9 := kk (vAbk τ a aG) (vRbk τ ρ) (xbk τ σ σG) (fun u hu => ⟨by unfold vAbk; rw [hu], by unfold vRbk; rw [hu], by unfold xbk; rw [hu]⟩) hL1 (xcons hst trivial) hσn hln T'.heap (locs ++ L') ls (by rw [e1]; exact hPn) hDn
    ⟨Nat.le_trans hS1.1 (by rw [e1]; exact hz), fun q h1 h2 => by rw [e1, hk q (Nat.lt_of_lt_of_le h1 hS1.1) (fun z => h2 (hFc q z))]; exact hS1.2.1 q h1 h2, fun q hq => by
      rcases List.mem_append.mp hq with h | h
      · exact hS1.2.2 q h
      · exact hFc _ (hL' q h)⟩ hln2
  have e3 : (xvr (τ.getD 0 0) :: st).map (xv (vAbk τ a aG)) = .ref g :: st.map (xv a) := by
    rw [List.map_cons, List.map_congr_left (fun v hv => hin2 v (fun u hu => hsp u (hu ▸ hv)))]
    simp only [xv]
    unfold vAbk
    rw [hτ0]
    simp only [hg0]
  rw [e3] at h9
  obtain ⟨t2, a1, b1⟩ := h9 T' rfl X'
  exact ⟨t2, stp t2 a1, b1⟩
/-- a reference into a row that isn't looked at -/
theorem vs_aastore {w : Nat → Bool} {t u k n ci : Nat} {lx codes : List Nat} {i : Int} {vwq : vw_C} (hC : XC p R s m args meth c D yv A own cc nL d ret) (hk : k = 4 ∨ k = 5) (hs : vsh w t = some (k + 1, n, lx)) (hu : vsh w u = some (0, ci, codes)) (hc : vwCl[ci]? = some vwq) (hq : vwq.1 = if k = 4 then "SevenTable$Game" else "SevenTable$Sentence") (hi : 0 ≤ i ∧ i < n) (hr : xR32 i) (hd : decode cc pc = .ok (.aastore, 1))
    (kk : XA kz p l e R s m args below meth c D yv a (fun x j => if x = t ∧ j = i.toNat then some (a u) else ρ x j) 194 (vsh w) A nL Qm (pc + 1) L st σ) : XA kz p l e R s m args below meth c D yv a ρ 194 (vsh w) A nL Qm pc L (xvr u :: xvi i :: xvr t :: st) σ := by
  obtain ⟨hx, hb, hml, hown, hg, hK, hA, hR1, hR2, hre, hlocks⟩ := hC
  obtain ⟨q0, hq0⟩ := xtags_in (vfi w) hs
  obtain ⟨q1, hq1⟩ := xtags_in (vfi w) hu
  intro hL hst hσ hln H locs ls hP hD hS hl
  have hcl : (Int32.ofInt i).toNatClampNeg = i.toNat := x32cl hr
  have hin : vp_in (Int32.ofInt i) n := x32in hr hi
  have hkey : ∀ (hk4 : ¬ k < 4) (hk2 : ¬ k = 2), (xws a yv ρ 194 (vsh w) σ).set q0 (a t, .inl (yv k, n, .inr (.inr (.inr (.inr (va_up (ρ t) (Int32.ofInt i).toNatClampNeg (some (a u)))))))) = xws a yv (fun x j => if x = t ∧ j = i.toNat then some (a u) else ρ x j) 194 (vsh w) σ := by
    intro hk4 hk2
    refine xws_upd hq0 (fun _ => rfl) (fun x hx e9 h9 => ⟨e9, h9, xcell_cg (fun _ _ => rfl) (by funext j; simp [hx]) rfl⟩) ⟨_, hs, ?_⟩
    simp only [xcell, xcon, if_neg hk4, if_neg hk2]
    congr 7
    funext j
    rw [hcl]
    unfold va_up
    simp only [true_and]
  have h4 : ¬ k < 4 := by omega
  have h2 : ¬ k = 2 := by omega
  have hat := xws_at (a := a) (y := yv) (ρ := ρ) (σ := σ) hq0 hs
  have hat2 : (xws a yv ρ 194 (vsh w) σ)[q0]? = some (a t, .inl (yv k, n, .inr (.inr (.inr (.inr (ρ t)))))) := by
    rw [hat]; simp only [xcell, xcon, if_neg h4, if_neg h2]
  have hty : (px_tys yv)[k]? = some (yv k, .object vwq.1) := by
    rw [hq]
    rcases hk with rfl | rfl <;> rfl
  refine va_astq hx hb hK hP hD hS q0 k q1 ci hat2 hty (xws_at hq1 hu) hc hin hd (fun H1 locs1 hP1 hD1 hS1 => ?_)
  rw [hkey h4 h2] at hP1 hD1
  exact kk hL (xtl (xtl (xtl hst))) hσ hln H1 locs1 ls hP1 hD1 hS1 hl
/-- a reference into a field that isn't looked at -/
theorem vs_putr {w : Nat → Bool} {i ci j t u NN : Nat} {codes : List Nat} {C : String} {T : u_T} {ty0 : Nat → FieldType} {ty : FieldType} (hC : XC p R s m args meth c D yv A own cc nL d ret) (f1 : vwCl[ci]? = some (C, T, NN)) (f2 : ∀ w ∈ u_ws C T NN, w ∈ gw) (f3 : ∀ k, k < NN → parseFieldDescriptor (T k).2.2.1 = some (ty0 k)) (f4 : ∀ a, a < NN → ∀ b, b < NN → a ≠ b → (T a).2.1 ≠ (T b).2.1) (f5 : j < NN) (f6 : Cond.fieldLink own i (T j).1 (T j).2.1 (T j).2.2.1 ∈ gw) (hfin : (T j).2.2.2 = false) (hty : parseFieldDescriptor (T j).2.2.1 = some ty) (hn : ∀ q : Nat, narrow ty (.ref q) = .ref q) (hfit : ∀ q : Nat, fits ty (.ref q) = true)
    (hs : vsh w t = some (0, ci, codes)) (hj : codes[j]? = some 3) (hd : decode cc pc = .ok (.putfield i, 3)) (k : XA kz p l e R s m args below meth c D yv a (fun x y => if x = t ∧ y = j then some (a u) else ρ x y) 194 (vsh w) A nL Qm (pc + 3) L st σ) : XA kz p l e R s m args below meth c D yv a ρ 194 (vsh w) A nL Qm pc L (xvr u :: xvr t :: st) σ := by
  obtain ⟨hx, hb, hml, hown, hg, hK, hA, hR1, hR2, hr, hlocks⟩ := hC
  obtain ⟨q, hq⟩ := xtags_in (vfi w) hs
  intro hL hst hσ hln H locs ls hP hD hS hl
  have hj2 : j < codes.length := (List.getElem?_eq_some_iff.mp hj).1
  have hl2 : j < (xfs a ρ σ t codes).length := by unfold xfs; rw [List.length_map, List.length_zipIdx]; exact hj2
  refine va_put hx hb hg f2 ty0 f3 f4 hown hK hP hD hS q (xws_at hq hs) f1 j f5 (hg _ f6) (fun _ h9 => h9) hfin (ty := ty) (v := .ref (a u)) hty (hn _) (hfit _) hl2 hd (fun H1 locs1 hP1 hD1 hS1 => ?_)
  have he : (xws a yv ρ 194 (vsh w) σ).set q (a t, .inr (ci, (xfs a ρ σ t codes).set j (.ref (a u)))) = xws a yv (fun x y => if x = t ∧ y = j then some (a u) else ρ x y) 194 (vsh w) σ := by
    refine xws_upd hq (fun _ => rfl) (fun x hx e9 h9 => ⟨e9, h9, xcell_cg (fun _ _ => rfl) (by funext j; simp [hx]) rfl⟩) ⟨_, hs, ?_⟩
    show (Sum.inr (ci, xfs a (fun x y => if x = t ∧ y = j then some (a u) else ρ x y) σ t codes) : va_E) = _
    congr 2
    refine List.ext_getElem? (fun k => ?_)
    rw [List.getElem?_set, xfs_at, xfs_at]
    by_cases hk : j = k
    · subst hk
      rw [if_pos rfl, if_pos hl2, hj]
      simp [xfv, va_rf]
    · rw [if_neg hk]
      cases hck : codes[k]? with
      | none => rfl
      | some c9 =>
        match c9 with
        | 0 => rfl
        | 1 => rfl
        | 2 => rfl
        | 3 => simp [xfv, Ne.symm hk]
        | c9 + 4 => rfl
  rw [he] at hP1 hD1
  exact k hL (xtl (xtl hst)) hσ hln H1 locs1 ls hP1 hD1 hS1 hl
end XP
