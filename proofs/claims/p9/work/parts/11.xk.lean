/-! The laws of calls. -/
theorem xcat (a : Nat → Nat) : ∀ rest : List xV, ((rest.map (xv a)).map fun v => v.category).sum ≤ 2 * rest.length := by
  intro rest
  induction rest with
  | nil => simp
  | cons v rest ih =>
    simp only [List.map_cons, List.sum_cons, List.length_cons]
    have h : (xv a v).category ≤ 2 := by
      rcases lv_cat (xv a v) with h | h <;> omega
    omega
theorem xg_app {r : Option xV} {rest : List xV} (h1 : ∀ v, r = some v → xg v) (h2 : ∀ v ∈ rest, xg v) : ∀ v ∈ r.toList ++ rest, xg v := by
  intro v hv
  rcases List.mem_append.mp hv with h | h
  · exact h1 v (Option.mem_toList.mp h)
  · exact h2 v h
theorem xmap_o (a : Nat → Nat) (r : Option xV) (rest : List xV) : (r.toList ++ rest).map (xv a) = (r.map (xv a)).toList ++ rest.map (xv a) := by
  cases r <;> rfl
theorem xclass {vwq : vw_C} {ci : Nat} {D : va_G} {yv : Nat → ClassId} {s : State} {H : Heap} {a : Nat → Nat} {ρ : Nat → Nat → Option Nat} {N : Nat} {sh : xH} {σ : xS} {t : Nat} {codes : List Nat} (hN : xfin N sh) (hK : va_K D vwCl (px_tys yv) s) (hP : va_P D vwCl (xws a yv ρ N sh σ) H) (hc : vwCl[ci]? = some vwq) (hs : sh t = some (0, ci, codes)) : ∃ cell : Cell, H[a t]? = some cell ∧ cell.vm.isStatics = false ∧ s.vm.findClass vwq.1 = some cell.cls := by
  obtain ⟨q, hq⟩ := xtags_in hN hs
  exact va_recv hK hP hc (xws_at hq hs)
section XK
variable {l : Launch} {D : va_G} {yv : Nat → ClassId} {own : String} {cc : ByteArray} {y : MethodName} {cy : ByteArray} {nLy : Nat} {ret : Option FieldType} {ci d N i n : Nat} {sh : xH} {E : xE} {vwq : vw_C}
/-- a virtual call in the same world -/
theorem xCk_IV (hM : xMt l D yv y cy nLy ret d N sh E) (h1 : Cond.methodLink own i y ∈ gw) (h2 : Cond.instanceMethod y ∈ gw) (h3 : Cond.selects y.cls y y ∈ gw) (h4 : Cond.initialized y.cls ∈ gw) (h5 : Cond.code y cy nLy ret ∈ gw)
    (hc : vwCl[ci]? = some vwq) (hq : vwq.1 = y.cls) (hd : y.cls ≠ "java/lang/invoke/MethodHandle" ∧ y.cls ≠ "java/lang/invoke/VarHandle" ∧ (parseMethodDescriptor y.desc).map (fun d => d.parameters.length) = some n) (hL : nLy ≤ 21) (hN : xfin N sh) :
    xCk l D yv own cc (d + 1) N sh true i (n + 1) (xIV sh ci E) := by
  intro p e R s m args below meth c a ρ A nL Qm hx hb hml hown hg hK hA hR1 hR2 kz hk1 hk2 pc L rest as σ K hdec hE hlen hrest hk
  obtain ⟨t, as', codes, rfl, hs, hE⟩ := xIV_e hE
  intro hL1 hst hσ hln H locs ls hP hD hS hl
  have has : ∀ v ∈ xvr t :: as', xg v := fun v hv => hst v (List.mem_append_left _ (List.mem_reverse.mpr hv))
  have hre : ∀ v ∈ rest, xg v := fun v hv => hst v (List.mem_append_right _ hv)
  have hMet := hM a ρ H.size (xvr t :: as') σ K hE hσ has
  have hF : ∀ q, va_A (xws a yv ρ N sh σ) H.size q → A q := by
    intro q hq
    rcases xws_in hq with ⟨u, e1, hu, hsu, rfl⟩ | hq
    · exact (xws_D.mp hD).2 u hu (by rw [hsu]; rfl)
    · exact hA q (Nat.le_trans hS.1 hq)
  have hlst : ((xvr t :: as').reverse ++ rest).map (xv a) = (as'.map (xv a)).reverse ++ .ref (a t) :: rest.map (xv a) := by
    simp [xv]
  rw [hlst]
  have hlen2 : (as'.map (xv a)).length = n := by rw [List.length_map]; simpa using hlen
  have hrun := va_runV (y := y) (As := as'.map (xv a)) (rest := rest.map (xv a)) (b := a t) (C := y.cls) (n := n) (g := F0 m pc ls ((as'.map (xv a)).reverse ++ .ref (a t) :: rest.map (xv a))) (H := H) (locs := locs) (cells := kz.1) (slots := kz.2) (below := below) (meth := meth) (e := e) (R := R) (p := p) (S := ⟨hx, hb, hml, hown, hg⟩) hMet
    (cwV n hg (px_gV h1 h2 h3 h4 h5) rfl rfl rfl ⟨rfl, hd⟩ ⟨hR1, by show 8 + (nLy + 11) + 40 * d ≤ R.locals; omega⟩)
    ⟨px_blind, hq ▸ xclass hN hK hP hc hs, fun U hU hW => ⟨rfl, by rw [hU], by rw [hU]; exact hP, va_K.moved hW.alike hK, hD.weaken (fun _ _ _ _ => trivial)⟩⟩ rfl hlen2 hl.1 rfl (lv_room (by have := xcat a rest; omega)) hdec ⟨hk1, hk2⟩
  refine xrun_go hrun hS (fun q _ h => hF q h) hF (fun r σ' H1 locs1 hk1 hr1 hσ1 hP1 hD1 hz1 hf1 hS1 => ?_)
  have h9 := hk r σ' hk1 hL1 (xg_app hr1 hre) hσ1 hln H1 locs1 ls hP1 (hD1.weaken (fun _ q _ h => hF q.1 h)) hS1 hl
  rw [xmap_o] at h9
  exact h9
/-- a static call in the same world -/
theorem xCk_IS (hM : xMt l D yv y cy nLy ret d N sh E) (h1 : Cond.methodLink own i y ∈ gw) (h2 : Cond.static y ∈ gw) (h4 : Cond.initialized y.cls ∈ gw) (h5 : Cond.code y cy nLy ret ∈ gw)
    (hd : y.cls ≠ "java/lang/invoke/MethodHandle" ∧ y.cls ≠ "java/lang/invoke/VarHandle" ∧ (parseMethodDescriptor y.desc).map (fun d => d.parameters.length) = some n) (hL : nLy ≤ 21) :
    xCk l D yv own cc (d + 1) N sh false i n E := by
  intro p e R s m args below meth c a ρ A nL Qm hx hb hml hown hg hK hA hR1 hR2 kz hk1 hk2 pc L rest as σ K hdec hE hlen hrest hk
  intro hL1 hst hσ hln H locs ls hP hD hS hl
  have has : ∀ v ∈ as, xg v := fun v hv => hst v (List.mem_append_left _ (List.mem_reverse.mpr hv))
  have hre : ∀ v ∈ rest, xg v := fun v hv => hst v (List.mem_append_right _ hv)
  have hMet := hM a ρ H.size as σ K hE hσ has
  have hF : ∀ q, va_A (xws a yv ρ N sh σ) H.size q → A q := by
    intro q hq
    rcases xws_in hq with ⟨u, e1, hu, hsu, rfl⟩ | hq
    · exact (xws_D.mp hD).2 u hu (by rw [hsu]; rfl)
    · exact hA q (Nat.le_trans hS.1 hq)
  have hlst : (as.reverse ++ rest).map (xv a) = (as.map (xv a)).reverse ++ rest.map (xv a) := by simp
  rw [hlst]
  have hlen2 : (as.map (xv a)).length = n := by rw [List.length_map]; exact hlen
  have hrun := va_runS (y := y) (As := as.map (xv a)) (rest := rest.map (xv a)) (n := n) (g := F0 m pc ls ((as.map (xv a)).reverse ++ rest.map (xv a))) (H := H) (locs := locs) (cells := kz.1) (slots := kz.2) (below := below) (meth := meth) (e := e) (R := R) (p := p) (S := ⟨hx, hb, hml, hown, hg⟩) hMet
    (va_cwS n hg (px_gS h1 h2 h4 h5) rfl rfl rfl hd ⟨hR1, by show 8 + (nLy + 11) + 40 * d ≤ R.locals; omega⟩)
    ⟨px_blind, fun U hU hW => ⟨rfl, by rw [hU], by rw [hU]; exact hP, va_K.moved hW.alike hK, hD.weaken (fun _ _ _ _ => trivial)⟩⟩ rfl hlen2 hl.1 rfl (lv_room (by have := xcat a rest; omega)) hdec ⟨hk1, hk2⟩
  refine xrun_go hrun hS (fun q _ h => hF q h) hF (fun r σ' H1 locs1 hk1 hr1 hσ1 hP1 hD1 hz1 hf1 hS1 => ?_)
  have h9 := hk r σ' hk1 hL1 (xg_app hr1 hre) hσ1 hln H1 locs1 ls hP1 (hD1.weaken (fun _ q _ h => hF q.1 h)) hS1 hl
  rw [xmap_o] at h9
  exact h9
end XK
