/-! Calls into a part of the world. -/
theorem xre_at {τ : List Nat} {ci : Nat} {codes : List Nat} {ci2 : Nat} {codes2 : List Nat} (h : xre τ (0, ci, codes) = (0, ci2, codes2)) {j c : Nat} (hj : codes[j]? = some c) : ∃ c2, codes2[j]? = some c2 ∧ (c < 4 → c2 = c) := by
  unfold xre at h
  cases h
  refine ⟨_, by rw [List.getElem?_map, hj]; rfl, fun hc => ?_⟩
  match c, hc with
  | 0, _ => rfl
  | 1, _ => rfl
  | 2, _ => rfl
  | 3, _ => rfl
theorem xre_at2 {τ : List Nat} {ci : Nat} {codes : List Nat} {ci2 : Nat} {codes2 : List Nat} (h : xre τ (0, ci, codes) = (0, ci2, codes2)) {j c : Nat} (hj : codes2[j]? = some c) (hc : c < 4) : codes[j]? = some c := by
  unfold xre at h
  cases h
  rw [List.getElem?_map] at hj
  cases hc2 : codes[j]? with
  | none => rw [hc2] at hj; cases hj
  | some c2 =>
    rw [hc2] at hj
    match c2, hj with
    | 0, hj => exact hj
    | 1, hj => exact hj
    | 2, hj => exact hj
    | 3, hj => exact hj
    | c3 + 4, hj =>
      have h2 : τ.getD c3 0 + 4 = c := by simpa using hj
      omega
theorem xgs_sel {τ : List Nat} {N' : Nat} {sh' sh : xH} {σ : xS} (hb : xSub τ N' sh' sh) (h : xgs sh σ) : xgs sh' (xsel τ σ) := by
  obtain ⟨h1, h2, h3, h4⟩ := hb
  refine ⟨fun t ci codes hs j c hc => ?_, fun t k n l hs i hi => ?_⟩
  · obtain ⟨hlt, h5⟩ := h4 t _ hs
    obtain ⟨c2, hc2, hcc⟩ := xre_at (τ := τ) (ci := ci) (codes := codes) rfl hc
    have h6 := h.1 _ _ _ h5 j c2 hc2
    refine ⟨fun hc0 => ?_, fun hc0 => ?_⟩
    · have := hcc (by omega)
      subst this
      exact h6.1 hc0
    · have := hcc (by omega)
      subst this
      exact h6.2 hc0
  · obtain ⟨hlt, h5⟩ := h4 t _ hs
    exact h.2 _ k n l h5 i hi
theorem xgs_bk {τ : List Nat} {N' : Nat} {sh' sh : xH} {σ σ' : xS} (hb : xSub τ N' sh' sh) (h : xgs sh σ) (h' : xgs sh' σ') : xgs sh (xbk τ σ σ') := by
  obtain ⟨h1, h2, h3, h4⟩ := hb
  refine ⟨fun t ci codes hs j c hc => ?_, fun t k n l hs i hi => ?_⟩
  · cases hi : xix τ t with
    | some i =>
      have e0 : xbk τ σ σ' t = σ' i := by unfold xbk; rw [hi]
      rw [e0]
      have hti := xix_e hi
      have hlt : i < N' := by rw [← h1]; exact (List.getElem?_eq_some_iff.mp hti).1
      obtain ⟨e', he'⟩ := Option.isSome_iff_exists.mp (h3 i hlt)
      have h5 := (h4 i e' he').2
      rw [xgetD hti, hs] at h5
      have h6 := Option.some.inj h5
      match e', he', h6 with
      | (0, ci', codes'), he', h6 =>
        have h7 := h'.1 i ci' codes' he' j
        refine ⟨fun hc0 => ?_, fun hc0 => ?_⟩
        · exact (h7 c (xre_at2 h6.symm hc (by omega))).1 hc0
        · exact (h7 c (xre_at2 h6.symm hc (by omega))).2 hc0
      | (k + 1, n, l), he', h6 => unfold xre at h6; cases h6
    | none =>
      have e0 : xbk τ σ σ' t = σ t := by unfold xbk; rw [hi]
      rw [e0]
      exact h.1 t ci codes hs j c hc
  · cases hq : xix τ t with
    | some q =>
      have e0 : xbk τ σ σ' t = σ' q := by unfold xbk; rw [hq]
      rw [e0]
      have hti := xix_e hq
      have hlt : q < N' := by rw [← h1]; exact (List.getElem?_eq_some_iff.mp hti).1
      obtain ⟨e', he'⟩ := Option.isSome_iff_exists.mp (h3 q hlt)
      have h5 := (h4 q e' he').2
      rw [xgetD hti, hs] at h5
      have h6 := Option.some.inj h5
      match e', he', h6 with
      | (0, ci', codes'), he', h6 => unfold xre at h6; cases h6
      | (k' + 1, n', l'), he', h6 =>
        unfold xre at h6
        cases h6
        exact h'.2 q k n l he' i hi
    | none =>
      have e0 : xbk τ σ σ' t = σ t := by unfold xbk; rw [hq]
      rw [e0]
      exact h.2 t k n l hs i hi
theorem xP_sel {τ : List Nat} {N' N : Nat} {sh' sh : xH} {σ : xS} {a : Nat → Nat} {y : Nat → ClassId} {ρ : Nat → Nat → Option Nat} {D : va_G} {H : Heap} (hN : xfin N sh) (hb : xSub τ N' sh' sh) (h : va_P D vwCl (xws a y ρ N sh σ) H) : va_P D vwCl (xws (fun i => a (τ.getD i 0)) y (fun i => ρ (τ.getD i 0)) N' sh' (xsel τ σ)) H := by
  refine xws_P.mpr (fun i e hi hs => ?_)
  obtain ⟨hlt, h5⟩ := hb.2.2.2 i e hs
  have ht : τ.getD i 0 < N := by
    rcases Nat.lt_or_ge (τ.getD i 0) N with h6 | h6
    · exact h6
    · rw [hN _ h6] at h5; cases h5
  have h7 := xws_P.mp h _ _ ht h5
  rw [xcell_sub (a := a) (y := y) (ρ := ρ) (σ := σ) (σ' := xsel τ σ) (τ := τ) (i := i) rfl e]
  exact h7
theorem xD_sel {τ : List Nat} {N' N : Nat} {sh' sh : xH} {σ σ' : xS} {a : Nat → Nat} {y : Nat → ClassId} {ρ : Nat → Nat → Option Nat} {A : Nat → Prop} (hN : xfin N sh) (hb : xSub τ N' sh' sh) (h : va_D A (xws a y ρ N sh σ)) : va_D A (xws (fun i => a (τ.getD i 0)) y (fun i => ρ (τ.getD i 0)) N' sh' σ') := by
  obtain ⟨h1, h2⟩ := xws_D.mp h
  have key : ∀ i, i < N' → (sh' i).isSome = true → τ.getD i 0 < N ∧ (sh (τ.getD i 0)).isSome = true := by
    intro i hi hs
    obtain ⟨e, he⟩ := Option.isSome_iff_exists.mp hs
    obtain ⟨hlt, h5⟩ := hb.2.2.2 i e he
    refine ⟨?_, by rw [h5]; rfl⟩
    rcases Nat.lt_or_ge (τ.getD i 0) N with h6 | h6
    · exact h6
    · rw [hN _ h6] at h5; cases h5
  refine xws_D.mpr ⟨fun i j hi hj hsi hsj e => ?_, fun i hi hsi => h2 _ (key i hi hsi).1 (key i hi hsi).2⟩
  have h3 := h1 _ _ (key i hi hsi).1 (key j hj hsj).1 (key i hi hsi).2 (key j hj hsj).2 e
  have e1 : τ[i]? = some (τ.getD i 0) := by
    rw [List.getElem?_eq_getElem (by rw [hb.1]; exact hi), List.getD_eq_getElem?_getD, List.getElem?_eq_getElem (by rw [hb.1]; exact hi)]; rfl
  have e2 : τ[j]? = some (τ.getD j 0) := by
    rw [List.getElem?_eq_getElem (by rw [hb.1]; exact hj), List.getD_eq_getElem?_getD, List.getElem?_eq_getElem (by rw [hb.1]; exact hj)]; rfl
  have e3 := xix_of hb.2.1 e1
  have e4 := xix_of hb.2.1 e2
  rw [h3] at e3
  exact Option.some.inj (e3.symm.trans e4)
theorem xP_bk {τ : List Nat} {N' N : Nat} {sh' sh : xH} {σ σ' : xS} {a : Nat → Nat} {y : Nat → ClassId} {ρ : Nat → Nat → Option Nat} {D : va_G} {A : Nat → Prop} {H H1 : Heap} (hb : xSub τ N' sh' sh) (hP : va_P D vwCl (xws a y ρ N sh σ) H) (hD : va_D A (xws a y ρ N sh σ))
    (hP1 : va_P D vwCl (xws (fun i => a (τ.getD i 0)) y (fun i => ρ (τ.getD i 0)) N' sh' σ') H1) (hf : ∀ q : Nat, q < H.size → ¬ va_A (xws (fun i => a (τ.getD i 0)) y (fun i => ρ (τ.getD i 0)) N' sh' (xsel τ σ)) H.size q → H1[q]? = H[q]?) (hN : xfin N sh) : va_P D vwCl (xws a y ρ N sh (xbk τ σ σ')) H1 := by
  refine xws_P.mpr (fun t e ht hs => ?_)
  cases hi : xix τ t with
  | some i =>
    have hti := xix_e hi
    have hlt : i < N' := by rw [← hb.1]; exact (List.getElem?_eq_some_iff.mp hti).1
    obtain ⟨e', he'⟩ := Option.isSome_iff_exists.mp (hb.2.2.1 i hlt)
    have h5 := (hb.2.2.2 i e' he').2
    have h6 := xws_P.mp hP1 i e' hlt he'
    have h7 : σ' i = xbk τ σ σ' (τ.getD i 0) := by
      rw [xgetD hti]; unfold xbk; rw [hi]
    rw [xcell_sub (a := a) (y := y) (ρ := ρ) (σ := xbk τ σ σ') (σ' := σ') (τ := τ) (i := i) h7 e'] at h6
    rw [xgetD hti] at h5 h6
    rw [hs] at h5
    rw [Option.some.inj h5]
    exact h6
  | none =>
    have h1 := xws_P.mp hP t e ht hs
    have h2 : xbk τ σ σ' t = σ t := by unfold xbk; rw [hi]
    rw [xcell_eq h2 e]
    refine h1.kept (hf _ h1.lt (fun hq => ?_))
    rcases xws_in hq with ⟨i, e', hi', hs', e0⟩ | hq
    · obtain ⟨hlt, h5⟩ := hb.2.2.2 i e' hs'
      have hlt2 : τ.getD i 0 < N := by
        rcases Nat.lt_or_ge (τ.getD i 0) N with h6 | h6
        · exact h6
        · rw [hN _ h6] at h5; cases h5
      have h8 : t = τ.getD i 0 := (xws_D.mp hD).1 t _ ht hlt2 (by rw [hs]; rfl) (by rw [h5]; rfl) e0
      have e1 : τ[i]? = some (τ.getD i 0) := by
        rw [List.getElem?_eq_getElem (by rw [hb.1]; exact hi'), List.getD_eq_getElem?_getD, List.getElem?_eq_getElem (by rw [hb.1]; exact hi')]; rfl
      rw [← h8] at e1
      rw [xix_of hb.2.1 e1] at hi
      cases hi
    · have := h1.lt
      dsimp only at this hq
      omega
theorem xnr_e {r : Option xV} {P : Prop} (h : xnr r P) : P ∧ ∀ a a' : Nat → Nat, r.map (xv a) = r.map (xv a') := by
  match r, h with
  | none, h => exact ⟨h, fun _ _ => rfl⟩
  | some (.inl _), h => exact ⟨h, fun _ _ => rfl⟩
  | some (.inr (.inl _)), h => exact ⟨h, fun _ _ => rfl⟩
section XK
variable {l : Launch} {D : va_G} {yv : Nat → ClassId} {own : String} {cc : ByteArray} {y : MethodName} {cy : ByteArray} {nLy : Nat} {ret : Option FieldType} {ci d N N' i n : Nat} {sh sh' : xH} {τ : List Nat} {E : xE} {vwq : vw_C}
/-- a virtual call of a method whose world is a part of this one -/
theorem xCk_MV (hM : xMt l D yv y cy nLy ret d N' sh' E) (hb : xSub τ N' sh' sh) (h1 : Cond.methodLink own i y ∈ gw) (h2 : Cond.instanceMethod y ∈ gw) (h3 : Cond.selects y.cls y y ∈ gw) (h4 : Cond.initialized y.cls ∈ gw) (h5 : Cond.code y cy nLy ret ∈ gw)
    (hc : vwCl[ci]? = some vwq) (hq : vwq.1 = y.cls) (hd : y.cls ≠ "java/lang/invoke/MethodHandle" ∧ y.cls ≠ "java/lang/invoke/VarHandle" ∧ (parseMethodDescriptor y.desc).map (fun d => d.parameters.length) = some n) (hL : nLy ≤ 21) (hN : xfin N sh) :
    xCk l D yv own cc (d + 1) N sh true i (n + 1) (xMV sh ci τ E) := by
  intro p e R s m args below meth c a ρ A nL Qm hx hb1 hml hown hg hK hA hR1 hR2 kz hk1 hk2 pc L rest as σ K hdec hE hlen hrest hk
  obtain ⟨t, as', codes, rfl, hs, hE⟩ := xIV_e hE
  have hE2 : xallB τ (xvr t :: as') = true ∧ xMm τ E (xvr t :: as') σ K := by
    split at hE
    · exact ⟨by assumption, hE⟩
    · exact hE.elim
  have hal := xallB_e hE2.1
  intro hL1 hst hσ hln H locs ls hP hD hS hl
  have has : ∀ v ∈ xvr t :: as', xg v := fun v hv => hst v (List.mem_append_left _ (List.mem_reverse.mpr hv))
  have hre : ∀ v ∈ rest, xg v := fun v hv => hst v (List.mem_append_right _ hv)
  have hMet := hM (fun i => a (τ.getD i 0)) (fun i => ρ (τ.getD i 0)) H.size _ _ _ hE2.2 (xgs_sel hb hσ) (xdn_g has)
  rw [xdn_v (a := a) hal] at hMet
  have hPs := xP_sel hN hb hP
  have hDs := xD_sel (σ' := xsel τ σ) hN hb hD
  have hF : ∀ q, va_A (xws (fun i => a (τ.getD i 0)) yv (fun i => ρ (τ.getD i 0)) N' sh' (xsel τ σ)) H.size q → A q := by
    intro q hq
    rcases xws_in hq with ⟨u, e1, hu, hsu, rfl⟩ | hq
    · exact (xws_D.mp hDs).2 u hu (by rw [hsu]; rfl)
    · exact hA q (Nat.le_trans hS.1 hq)
  have hlst : ((xvr t :: as').reverse ++ rest).map (xv a) = (as'.map (xv a)).reverse ++ .ref (a t) :: rest.map (xv a) := by
    simp [xv]
  rw [hlst]
  have hlen2 : (as'.map (xv a)).length = n := by rw [List.length_map]; simpa using hlen
  have hrun := va_runV (y := y) (As := as'.map (xv a)) (rest := rest.map (xv a)) (b := a t) (C := y.cls) (n := n) (g := F0 m pc ls ((as'.map (xv a)).reverse ++ .ref (a t) :: rest.map (xv a))) (H := H) (locs := locs) (cells := kz.1) (slots := kz.2) (below := below) (meth := meth) (e := e) (R := R) (p := p) (S := ⟨hx, hb1, hml, hown, hg⟩) hMet
    (cwV n hg (px_gV h1 h2 h3 h4 h5) rfl rfl rfl ⟨rfl, hd⟩ ⟨hR1, by show 8 + (nLy + 11) + 40 * d ≤ R.locals; omega⟩)
    ⟨px_blind, hq ▸ xclass hN hK hP hc hs, fun U hU hW => ⟨rfl, by rw [hU], by rw [hU]; exact hPs, va_K.moved hW.alike hK, hDs.weaken (fun _ _ _ _ => trivial)⟩⟩ rfl hlen2 hl.1 rfl (lv_room (by have := xcat a rest; omega)) hdec ⟨hk1, hk2⟩
  refine xrun_go hrun hS (fun q _ h => hF q h) hF (fun r σ' H1 locs1 hk1 hr1 hσ1 hP1 hD1 hz1 hf1 hS1 => ?_)
  obtain ⟨hk1, hrr⟩ := xnr_e hk1
  have h9 := hk r _ hk1 hL1 (xg_app hr1 hre) (xgs_bk hb hσ hσ1) hln H1 locs1 ls (xP_bk hb hP hD hP1 hf1 hN) (xws_D.mpr (xws_D.mp hD)) hS1 hl
  rw [xmap_o, hrr a (fun i => a (τ.getD i 0))] at h9
  exact h9
theorem xCk_MS (hM : xMt l D yv y cy nLy ret d N' sh' E) (hb : xSub τ N' sh' sh) (h1 : Cond.methodLink own i y ∈ gw) (h2 : Cond.static y ∈ gw) (h4 : Cond.initialized y.cls ∈ gw) (h5 : Cond.code y cy nLy ret ∈ gw)
    (hd : y.cls ≠ "java/lang/invoke/MethodHandle" ∧ y.cls ≠ "java/lang/invoke/VarHandle" ∧ (parseMethodDescriptor y.desc).map (fun d => d.parameters.length) = some n) (hL : nLy ≤ 21) (hN : xfin N sh) :
    xCk l D yv own cc (d + 1) N sh false i n (xMS τ E) := by
  intro p e R s m args below meth c a ρ A nL Qm hx hb1 hml hown hg hK hA hR1 hR2 kz hk1 hk2 pc L rest as σ K hdec hE hlen hrest hk
  have hE2 : xallB τ as = true ∧ xMm τ E as σ K := by
    unfold xMS at hE
    split at hE
    · exact ⟨by assumption, hE⟩
    · exact hE.elim
  have hal := xallB_e hE2.1
  intro hL1 hst hσ hln H locs ls hP hD hS hl
  have has : ∀ v ∈ as, xg v := fun v hv => hst v (List.mem_append_left _ (List.mem_reverse.mpr hv))
  have hre : ∀ v ∈ rest, xg v := fun v hv => hst v (List.mem_append_right _ hv)
  have hMet := hM (fun i => a (τ.getD i 0)) (fun i => ρ (τ.getD i 0)) H.size _ _ _ hE2.2 (xgs_sel hb hσ) (xdn_g has)
  rw [xdn_v (a := a) hal] at hMet
  have hPs := xP_sel hN hb hP
  have hDs := xD_sel (σ' := xsel τ σ) hN hb hD
  have hF : ∀ q, va_A (xws (fun i => a (τ.getD i 0)) yv (fun i => ρ (τ.getD i 0)) N' sh' (xsel τ σ)) H.size q → A q := by
    intro q hq
    rcases xws_in hq with ⟨u, e1, hu, hsu, rfl⟩ | hq
    · exact (xws_D.mp hDs).2 u hu (by rw [hsu]; rfl)
    · exact hA q (Nat.le_trans hS.1 hq)
  have hlst : (as.reverse ++ rest).map (xv a) = (as.map (xv a)).reverse ++ rest.map (xv a) := by simp
  rw [hlst]
  have hlen2 : (as.map (xv a)).length = n := by rw [List.length_map]; exact hlen
  have hrun := va_runS (y := y) (As := as.map (xv a)) (rest := rest.map (xv a)) (n := n) (g := F0 m pc ls ((as.map (xv a)).reverse ++ rest.map (xv a))) (H := H) (locs := locs) (cells := kz.1) (slots := kz.2) (below := below) (meth := meth) (e := e) (R := R) (p := p) (S := ⟨hx, hb1, hml, hown, hg⟩) hMet
    (va_cwS n hg (px_gS h1 h2 h4 h5) rfl rfl rfl hd ⟨hR1, by show 8 + (nLy + 11) + 40 * d ≤ R.locals; omega⟩)
    ⟨px_blind, fun U hU hW => ⟨rfl, by rw [hU], by rw [hU]; exact hPs, va_K.moved hW.alike hK, hDs.weaken (fun _ _ _ _ => trivial)⟩⟩ rfl hlen2 hl.1 rfl (lv_room (by have := xcat a rest; omega)) hdec ⟨hk1, hk2⟩
  refine xrun_go hrun hS (fun q _ h => hF q h) hF (fun r σ' H1 locs1 hk1 hr1 hσ1 hP1 hD1 hz1 hf1 hS1 => ?_)
  obtain ⟨hk1, hrr⟩ := xnr_e hk1
  have h9 := hk r _ hk1 hL1 (xg_app hr1 hre) (xgs_bk hb hσ hσ1) hln H1 locs1 ls (xP_bk hb hP hD hP1 hf1 hN) (xws_D.mpr (xws_D.mp hD)) hS1 hl
  rw [xmap_o, hrr a (fun i => a (τ.getD i 0))] at h9
  exact h9
/-- less room is asked than there is -/
theorem xCk.up {d d' : Nat} {v : Bool} {sh : xH} (h : xCk l D yv own cc d N sh v i n E) (hd : d ≤ d') : xCk l D yv own cc d' N sh v i n E := by
  intro p e R s m args below meth c a ρ A nL Qm hx hb hml hown hg hK hA hR1 hR2
  exact h p e R s m args below meth c a ρ A nL Qm hx hb hml hown hg hK hA (Nat.le_trans hd hR1) (Nat.le_trans (Nat.mul_le_mul_left 40 hd) hR2)
end XK
