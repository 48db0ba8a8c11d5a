/-! A method's entry; a cell of another shape; calls that change a part's shape. -/
theorem xEnter {l : Launch} {D : va_G} {yv : Nat → ClassId} {y : MethodName} {cc : ByteArray} {nL : Nat} {ret : Option FieldType} {N : Nat} {sh : xH} {d mc ms sz : Nat} {a : Nat → Nat} {ρ : Nat → Nat → Option Nat} {as : List xV} {σ : xS} {Qc : Array Value → State → Outcome → State → Prop} (hpl : plainName y.cls = true) (hlen : (xargs as).length ≤ nL) (hσ : xgs sh σ) (has : ∀ v ∈ as, xg v)
    (body : ∀ (p : Program) (e : Env) (s : State) (m : MethodId) (below : List Frame) (meth : Method) (c : Code), s.heap.size = sz → XC p { frames := d, cells := mc, slots := ms, locals := 40 * d } s m (as.map (xv a)).toArray meth c D yv (va_A (xws a yv ρ N sh σ) sz) y.cls cc nL d ret → XA (0, 0) p l e { frames := d, cells := mc, slots := ms, locals := 40 * d } s m (as.map (xv a)).toArray below meth c D yv a ρ N sh (va_A (xws a yv ρ N sh σ) sz) nL (MQ below Qc (as.map (xv a)).toArray s mc ms (va_A (xws a yv ρ N sh σ) sz)) 0 (xargs as ++ List.replicate (nL - (xargs as).length) xvu) [] σ) :
    Met l y (px_w y cc nL ret) { frames := d, cells := mc, slots := ms, locals := 40 * d } (va_Pc (as.map (xv a)) (px_P D yv sz (xws a yv ρ N sh σ))) Qc mc ms (va_A (xws a yv ρ N sh σ) sz) := by
  refine Met.ofW (cc := cc) (maxL := nL) (ret := ret) hpl rfl ?_
  intro p e s m args below meth c s₁ B hml hv
  obtain ⟨rfl, hsz, hP, hK, hD0⟩ := hv
  have hts := atoms_spec (ws := px_w y cc nL ret) B.pre
  have hg : ∀ w ∈ gw, w.before (as.map (xv a)).toArray s = true := fun w h => hts w (List.mem_cons_of_mem _ h)
  have hown : s.vm.findClass y.cls = some m.cls := findClass_of_methodNamed B.named
  have hb0 := body p e s m below meth c hsz ⟨B.exec, B.bytes, hml, hown, hg, hK, fun q h => Or.inr (by omega), Nat.le_refl _, Nat.le_refl _, B.returns, B.notSynchronized⟩
  have hD := hD0.self (sz := sz)
  have hl := lv_entry (as.map (xv a)) (n := nL) (by rw [xargs_len]; exact hlen)
  rw [lg_entry_eq]
  generalize (lg_sl (as.map (xv a)) ++ List.replicate (nL - (lg_sl (as.map (xv a))).length) Slot.unset).toArray = ls at hl ⊢
  refine hb0 ?_ (fun v h => by cases h) hσ ?_ s.heap [] ls hP hD va_S.rf ?_
  · intro v hv
    rcases List.mem_append.mp hv with hv | hv
    · exact xargs_g has v hv
    · rw [List.eq_of_mem_replicate hv]; exact trivial
  · rw [List.length_append, List.length_replicate]
    omega
  · refine ⟨hl.1, hl.2.1, fun q hq => ?_⟩
    obtain ⟨w, h1, h2, h3⟩ := xlv_mem hq
    have h4 : (xargs as)[q.1]? = some w := by
      rcases Nat.lt_or_ge q.1 (xargs as).length with h5 | h5
      · rwa [List.getElem?_append_left h5] at h1
      · rw [List.getElem?_append_right h5] at h1
        exact absurd (List.eq_of_mem_replicate (List.mem_of_getElem? h1)) h2
    have h6 := hl.2.2 _ (xargs_at a as 0 q.1 w h4 h2)
    rw [h3]
    simpa using h6
/-- a world in which one cell is another -/
theorem xws_upd {a : Nat → Nat} {y : Nat → ClassId} {ρ ρ2 : Nat → Nat → Option Nat} {N : Nat} {sh sh2 : xH} {σ σ2 : xS} {q t : Nat} {x : va_E} (hq : (xtags N sh)[q]? = some t) (hsome : ∀ u, (sh2 u).isSome = (sh u).isSome) (hu : ∀ u, u ≠ t → ∀ e, sh u = some e → ∃ e2, sh2 u = some e2 ∧ xcell a y ρ2 σ2 u e2 = xcell a y ρ σ u e) (hx : ∃ e2, sh2 t = some e2 ∧ xcell a y ρ2 σ2 t e2 = x) : (xws a y ρ N sh σ).set q (a t, x) = xws a y ρ2 N sh2 σ2 := by
  have ht : xtags N sh2 = xtags N sh := by
    unfold xtags
    congr 1
    funext u
    exact hsome u
  unfold xws
  rw [ht]
  refine List.ext_getElem? (fun k => ?_)
  rw [List.getElem?_set, List.getElem?_map, List.getElem?_map]
  by_cases hk : q = k
  · subst hk
    obtain ⟨e2, h1, h2⟩ := hx
    have hl := (List.getElem?_eq_some_iff.mp hq).1
    rw [if_pos rfl, if_pos (by rw [List.length_map]; exact hl), hq]
    simp [h1, h2]
  · rw [if_neg hk]
    cases hk2 : (xtags N sh)[k]? with
    | none => rfl
    | some u =>
      have hne : u ≠ t := fun e => by
        subst e
        obtain ⟨a1, a2⟩ := List.getElem?_eq_some_iff.mp hq
        obtain ⟨b1, b2⟩ := List.getElem?_eq_some_iff.mp hk2
        exact hk ((List.getElem_inj (xtags_nd N sh)).mp (a2.trans b2.symm))
      have hm := (List.mem_filter.mp (List.mem_of_getElem? hk2)).2
      obtain ⟨e, he⟩ := Option.isSome_iff_exists.mp hm
      obtain ⟨e2, h1, h2⟩ := hu u hne e he
      simp [he, h1, h2]
theorem xgs_bk2 {τ : List Nat} {N' : Nat} {sh'2 sh sh2 : xH} {σ σ' : xS} (hb2 : xSub τ N' sh'2 sh2) (hout : ∀ t, xix τ t = none → sh2 t = sh t) (h : xgs sh σ) (h' : xgs sh'2 σ') : xgs sh2 (xbk τ σ σ') := by
  have key : xgs sh2 (xbk τ (fun t => if xix τ t = none then σ t else fun _ => 0) σ') := by
    refine xgs_bk hb2 ?_ h'
    refine ⟨fun t ci codes hs j c hc => ?_, fun t k n l hs i hi => ?_⟩
    · dsimp only
      cases ht : xix τ t with
      | none =>
        rw [if_pos rfl]
        rw [hout t ht] at hs
        exact h.1 t ci codes hs j c hc
      | some i =>
        rw [if_neg (by simp)]
        exact ⟨fun _ => ⟨by decide, by decide⟩, fun _ => ⟨by decide, by decide⟩⟩
    · dsimp only
      cases ht : xix τ t with
      | none =>
        rw [if_pos rfl]
        rw [hout t ht] at hs
        exact h.2 t k n l hs i hi
      | some i' =>
        rw [if_neg (by simp)]
        exact ⟨fun _ => ⟨by decide, by decide⟩, fun _ _ => ⟨by decide, by decide⟩⟩
  have e : xbk τ (fun t => if xix τ t = none then σ t else fun _ => 0) σ' = xbk τ σ σ' := by
    funext t
    unfold xbk
    cases ht : xix τ t with
    | none => simp [ht]
    | some i => rfl
  rw [← e]
  exact key
theorem xD_bk2 {τ : List Nat} {N' N : Nat} {sh' sh'2 sh sh2 : xH} {σ σ2 : xS} {a : Nat → Nat} {y : Nat → ClassId} {ρ : Nat → Nat → Option Nat} {A : Nat → Prop} (hb : xSub τ N' sh' sh) (hb2 : xSub τ N' sh'2 sh2) (hout : ∀ t, xix τ t = none → sh2 t = sh t) (h : va_D A (xws a y ρ N sh σ)) : va_D A (xws a y ρ N sh2 σ2) := by
  have hs : ∀ t, (sh2 t).isSome = true → (sh t).isSome = true := by
    intro t ht
    cases hi : xix τ t with
    | none => rw [hout t hi] at ht; exact ht
    | some i =>
      have hti := xix_e hi
      have hlt : i < N' := by rw [← hb.1]; exact (List.getElem?_eq_some_iff.mp hti).1
      obtain ⟨e', he'⟩ := Option.isSome_iff_exists.mp (hb.2.2.1 i hlt)
      have h5 := (hb.2.2.2 i e' he').2
      rw [xgetD hti] at h5
      rw [h5]; rfl
  obtain ⟨h1, h2⟩ := xws_D.mp h
  exact xws_D.mpr ⟨fun t u ht hu hst hsu => h1 t u ht hu (hs t hst) (hs u hsu), fun t ht hst => h2 t ht (hs t hst)⟩
theorem xP_bk2 {τ : List Nat} {N' N : Nat} {sh' sh'2 sh sh2 : xH} {σ σ' : xS} {a : Nat → Nat} {y : Nat → ClassId} {ρ : Nat → Nat → Option Nat} {D : va_G} {A : Nat → Prop} {H H1 : Heap} (hb : xSub τ N' sh' sh) (hb2 : xSub τ N' sh'2 sh2) (hout : ∀ t, xix τ t = none → sh2 t = sh t) (hP : va_P D vwCl (xws a y ρ N sh σ) H) (hD : va_D A (xws a y ρ N sh σ))
    (hP1 : va_P D vwCl (xws (fun i => a (τ.getD i 0)) y (fun i => ρ (τ.getD i 0)) N' sh'2 σ') H1) (hf : ∀ q : Nat, q < H.size → ¬ va_A (xws (fun i => a (τ.getD i 0)) y (fun i => ρ (τ.getD i 0)) N' sh' (xsel τ σ)) H.size q → H1[q]? = H[q]?) (hN : xfin N sh) : va_P D vwCl (xws a y ρ N sh2 (xbk τ σ σ')) H1 := by
  refine xws_P.mpr (fun t e ht hs => ?_)
  cases hi : xix τ t with
  | some i =>
    have hti := xix_e hi
    have hlt : i < N' := by rw [← hb2.1]; exact (List.getElem?_eq_some_iff.mp hti).1
    obtain ⟨e', he'⟩ := Option.isSome_iff_exists.mp (hb2.2.2.1 i hlt)
    have h5 := (hb2.2.2.2 i e' he').2
    have h6 := xws_P.mp hP1 i e' hlt he'
    have h7 : σ' i = xbk τ σ σ' (τ.getD i 0) := by
      rw [xgetD hti]; unfold xbk; rw [hi]
    rw [xcell_sub (a := a) (y := y) (ρ := ρ) (σ := xbk τ σ σ') (σ' := σ') (τ := τ) (i := i) h7 e'] at h6
    rw [xgetD hti] at h5 h6
    rw [hs] at h5
    rw [Option.some.inj h5]
    exact h6
  | none =>
    rw [hout t hi] at hs
    have h1 := xws_P.mp hP t e ht hs
    have h2 : xbk τ σ σ' t = σ t := by unfold xbk; rw [hi]
    rw [xcell_eq h2 e]
    refine h1.kept (hf _ h1.lt (fun hq => ?_))
    rcases xws_in hq with ⟨i, e', hi', hs', e0⟩ | hq
    · obtain ⟨hlt, h5⟩ := hb.2.2.2 i e' hs'
      have hlt2 : τ.getD i 0 < N := by
        rcases Nat.lt_or_ge (τ.getD i 0) N with h6 | h6
        · exact h6
        · rw [hN _ h6] at h5; cases h5
      have h8 : t = τ.getD i 0 := (xws_D.mp hD).1 t _ ht hlt2 (by rw [hs]; rfl) (by rw [h5]; rfl) e0
      have e1 : τ[i]? = some (τ.getD i 0) := by
        rw [List.getElem?_eq_getElem (by rw [hb.1]; exact hi'), List.getD_eq_getElem?_getD, List.getElem?_eq_getElem (by rw [hb.1]; exact hi')]; rfl
      rw [← h8] at e1
      rw [xix_of hb.2.1 e1] at hi
      cases hi
    · have := h1.lt
      dsimp only at this hq
      omega
/-- a method that changes its world's shape -/
def xMt2 (l : Launch) (D : va_G) (yv : Nat → ClassId) (y : MethodName) (cy : ByteArray) (nLy : Nat) (ret : Option FieldType) (d N : Nat) (sh sh2 : xH) (E : xE) : Prop :=
  ∀ (a : Nat → Nat) (ρ : Nat → Nat → Option Nat) (sz : Nat) (as : List xV) (σ : xS) (Q : Option xV → xS → Prop), E as σ Q → xgs sh σ → (∀ v ∈ as, xg v) →
    Met l y (px_w y cy nLy ret) (xroom d) (va_Pc (as.map (xv a)) (px_P D yv sz (xws a yv ρ N sh σ))) (xQ D yv a ρ N sh2 (va_A (xws a yv ρ N sh σ) sz) Q) 0 0 (va_A (xws a yv ρ N sh σ) sz)
section XP
variable {p : Program} {l : Launch} {e : Env} {R : Room} {s : State} {m : MethodId} {args : Array Value} {below : List Frame} {meth : Method} {c : Code}
variable {cc : ByteArray} {nL d : Nat} {own : String} {D : va_G} {yv : Nat → ClassId} {a : Nat → Nat} {ρ : Nat → Nat → Option Nat} {N : Nat} {sh : xH} {A : Nat → Prop} {kz : Nat × Nat} {Qm : State → Prop} {ret : Option FieldType} {pc : Nat} {L st : List xV} {σ : xS}
/-- a virtual call of a method that changes the shape of a part of the world -/
theorem xs_call2 {y : MethodName} {cy : ByteArray} {nLy dy N' i n ci t : Nat} {rety : Option FieldType} {sh2 sh' sh'2 : xH} {τ : List Nat} {E : xE} {vwq : vw_C} {codes : List Nat} {as' rest : List xV} {K : Option xV → xS → Prop} (hC : XC p R s m args meth c D yv A own cc nL d ret) (hM : xMt2 l D yv y cy nLy rety dy N' sh' sh'2 E) (hd : dy + 1 ≤ d) (hb : xSub τ N' sh' sh) (hb2 : xSub τ N' sh'2 sh2) (hout : ∀ t, xix τ t = none → sh2 t = sh t) (h1 : Cond.methodLink own i y ∈ gw) (h2 : Cond.instanceMethod y ∈ gw) (h3 : Cond.selects y.cls y y ∈ gw) (h4 : Cond.initialized y.cls ∈ gw) (h5 : Cond.code y cy nLy rety ∈ gw)
    (hc : vwCl[ci]? = some vwq) (hq : vwq.1 = y.cls) (hdd : y.cls ≠ "java/lang/invoke/MethodHandle" ∧ y.cls ≠ "java/lang/invoke/VarHandle" ∧ (parseMethodDescriptor y.desc).map (fun d => d.parameters.length) = some n) (hL : nLy ≤ 21) (hN : xfin N sh) (hk1 : kz.1 ≤ R.cells) (hk2 : kz.2 ≤ R.slots) (hdec : decode cc pc = .ok (.invokevirtual i, 3)) (hs : sh t = some (0, ci, codes)) (hal : xallB τ (xvr t :: as') = true) (hlen : as'.length = n) (hrest : rest.length ≤ 4)
    (hE : E ((xvr t :: as').map (xdn τ)) (xsel τ σ) (fun r σ' => xnr r (K r (xbk τ σ σ'))))
    (hk : ∀ r σ', K r σ' → XA kz p l e R s m args below meth c D yv a ρ N sh2 A nL Qm (pc + 3) L (r.toList ++ rest) σ') : XA kz p l e R s m args below meth c D yv a ρ N sh A nL Qm pc L ((xvr t :: as').reverse ++ rest) σ := by
  obtain ⟨hx, hb1, hml, hown, hg, hK, hA, hR1, hR2, hr, hlocks⟩ := hC
  have hal := xallB_e hal
  intro hL1 hst hσ hln H locs ls hP hD hS hl
  have has : ∀ v ∈ xvr t :: as', xg v := fun v hv => hst v (List.mem_append_left _ (List.mem_reverse.mpr hv))
  have hre : ∀ v ∈ rest, xg v := fun v hv => hst v (List.mem_append_right _ hv)
  have hMet := hM (fun i => a (τ.getD i 0)) (fun i => ρ (τ.getD i 0)) H.size _ _ _ hE (xgs_sel hb hσ) (xdn_g has)
  rw [xdn_v (a := a) hal] at hMet
  have hPs := xP_sel hN hb hP
  have hDs := xD_sel (σ' := xsel τ σ) hN hb hD
  have hF : ∀ q, va_A (xws (fun i => a (τ.getD i 0)) yv (fun i => ρ (τ.getD i 0)) N' sh' (xsel τ σ)) H.size q → A q := by
    intro q hq
    rcases xws_in hq with ⟨u, e1, hu, hsu, rfl⟩ | hq
    · exact (xws_D.mp hDs).2 u hu (by rw [hsu]; rfl)
    · exact hA q (Nat.le_trans hS.1 hq)
  have hlst : ((xvr t :: as').reverse ++ rest).map (xv a) = (as'.map (xv a)).reverse ++ .ref (a t) :: rest.map (xv a) := by
    simp [xv]
  rw [hlst]
  have hlen2 : (as'.map (xv a)).length = n := by rw [List.length_map]; exact hlen
  have hrun := va_runV (y := y) (As := as'.map (xv a)) (rest := rest.map (xv a)) (b := a t) (C := y.cls) (n := n) (g := F0 m pc ls ((as'.map (xv a)).reverse ++ .ref (a t) :: rest.map (xv a))) (H := H) (locs := locs) (cells := kz.1) (slots := kz.2) (below := below) (meth := meth) (e := e) (R := R) (p := p) (S := ⟨hx, hb1, hml, hown, hg⟩) hMet
    (cwV n hg (px_gV h1 h2 h3 h4 h5) rfl rfl rfl ⟨rfl, hdd⟩ ⟨Nat.le_trans hd hR1, by show 8 + (nLy + 11) + 40 * dy ≤ R.locals; omega⟩)
    ⟨px_blind, hq ▸ xclass hN hK hP hc hs, fun U hU hW => ⟨rfl, by rw [hU], by rw [hU]; exact hPs, va_K.moved hW.alike hK, hDs.weaken (fun _ _ _ _ => trivial)⟩⟩ rfl hlen2 hl.1 rfl (lv_room (by have := xcat a rest; omega)) hdec ⟨hk1, hk2⟩
  refine xrun_go hrun hS (fun q _ h => hF q h) hF (fun r σ' H1 locs1 hk1 hr1 hσ1 hP1 hD1 hz1 hf1 hS1 => ?_)
  obtain ⟨hk1, hrr⟩ := xnr_e hk1
  have h9 := hk r _ hk1 hL1 (xg_app hr1 hre) (xgs_bk2 hb2 hout hσ hσ1) hln H1 locs1 ls (xP_bk2 hb hb2 hout hP hD hP1 hf1 hN) (xD_bk2 hb hb2 hout hD) hS1 hl
  rw [xmap_o, hrr a (fun i => a (τ.getD i 0))] at h9
  exact h9
end XP
