theorem v_conf {l : Launch} {y : MethodName} {ws : List Cond} {rm : Room} {Pc Pc' : Array Value → State → Prop} {Qc Qc' : Array Value → State → Outcome → State → Prop} {mc ms : Nat} {free free' : Addr → Prop} (h : Met l y ws rm Pc Qc mc ms free) (h1 : ∀ a st, Pc' a st → Pc a st) (h2 : ∀ a st o t, Pc' a st → Qc a st o t → Qc' a st o t) (h3 : ∀ q, free q → free' q) : Met l y ws rm Pc' Qc' mc ms free' := by
  intro p e h4 h5 h6 s m args below h7 h8 h9 h10
  obtain ⟨n, o, a1, a2, a3, a4, L, a5, a6⟩ := h p e h4 h5 h6 s m args below h7 h8 (h1 _ _ h9) h10
  exact ⟨n, o, a1, a2, a3, h2 _ _ _ _ h9 a4, L, a5, fun q hq => h3 _ (a6 q hq)⟩
theorem vA_sub {a : Nat → Nat} {yv : Nat → ClassId} {ρ : Nat → Nat → Option Nat} {τ : List Nat} {N' sz : Nat} {sh' : xH} {w : Nat → Bool} {σ σ' : xS} (hb : xSub τ N' sh' (vsh w)) : ∀ q, va_A (xws (fun i => a (τ.getD i 0)) yv (fun i => ρ (τ.getD i 0)) N' sh' σ') sz q → va_A (xws a yv ρ 194 (vsh w) σ) sz q := by
  intro q hq
  rcases xws_in hq with ⟨u, e1, hu, hsu, rfl⟩ | hq
  · obtain ⟨hlt, h5⟩ := hb.2.2.2 u e1 hsu
    obtain ⟨k, hk⟩ := xtags_in (vfi w) h5
    exact Or.inl ⟨k, _, xws_at hk h5⟩
  · exact Or.inr hq
theorem xnr_n {r : Option xV} {P : Prop} (h : xnr r P) : ∀ u, r ≠ some (xvr u) := by
  match r, h with
  | none, _ => exact fun _ h => by cases h
  | some (.inl _), _ => exact fun _ h => by cases h
  | some (.inr (.inl _)), _ => exact fun _ h => by cases h
/-- a method of a part that is always there -/
theorem vOf1 {l : Launch} {D : va_G} {yv : Nat → ClassId} {y : MethodName} {cy : ByteArray} {nLy : Nat} {ret : Option FieldType} {d N' : Nat} {sh' : xH} {E : xE} {τ : List Nat} (hM : xMt l D yv y cy nLy ret d N' sh' E) (hb : xSub τ N' sh' (fun t => wlVF0[t]?)) (h0 : ∀ t ∈ τ, blkV t = 0) : vMt l D yv y cy nLy ret d (fun _ => 0) (fun _ => 0) (fun w as σ Q => xallB τ as = true ∧ E (as.map (xdn τ)) (xsel τ σ) (fun r σ' => xnr r (Q r w (xbk τ σ σ')))) := by
  intro a ρ w sz as σ Q hE hLK hσ has
  have hbw : xSub τ N' sh' (vsh w) := subW0 hb h0
  have hal := xallB_e hE.1
  have hMet := hM (fun i => a (τ.getD i 0)) (fun i => ρ (τ.getD i 0)) sz _ _ _ hE.2 (xgs_sel hbw hσ) (xdn_g has)
  rw [xdn_v (a := a) hal] at hMet
  refine v_conf hMet (fun av st h => ⟨h.1, h.2.1.1, xP_sel (vfi w) hbw h.2.1.2.1, h.2.1.2.2.1, xD_sel (vfi w) hbw h.2.1.2.2.2⟩) (fun av st o t hpre h => ?_) (vA_sub hbw)
  obtain ⟨⟨r, σ', ho, hk, hr, hσ1, hP1, hD1⟩, hz, hF⟩ := h
  obtain ⟨hk1, hrr⟩ := xnr_e hk
  obtain ⟨hsz, hP, hK, hD0⟩ := hpre.2.1
  refine ⟨⟨r, w, a, ρ, xbk τ σ σ', ho.trans (by rw [hrr a (fun i => a (τ.getD i 0))]), hk1, hr, fun u hu => absurd hu (xnr_n hk u), hLK, xgs_bk hbw hσ hσ1, fun _ _ => rfl, xP_bk hbw hP hD0 hP1 (fun q h1 h2 => hF q h1 (by rw [← hsz]; exact h2)) (vfi w), xws_D.mpr (xws_D.mp (hD0.self (sz := sz)))⟩, hz, fun q h1 h2 => hF q h1 (fun h => h2 (vA_sub hbw q h))⟩
/-- the same, where the reader's text comes to be looked at -/
theorem vOf2 {l : Launch} {D : va_G} {yv : Nat → ClassId} {y : MethodName} {cy : ByteArray} {nLy : Nat} {ret : Option FieldType} {d N' : Nat} {sh' sh'2 : xH} {E : xE} {τ : List Nat} (hM : xMt2 l D yv y cy nLy ret d N' sh' sh'2 E) (hb : xSub τ N' sh' (fun t => wlVF0[t]?)) (hb2 : xSub τ N' sh'2 (fun t => wlVF1[t]?)) (h30 : (xix τ 30).isSome = true) (h0 : ∀ t ∈ τ, blkV t = 0) : vMt l D yv y cy nLy ret d (fun _ => 0) (fun _ => 0) (fun w as σ Q => xallB τ as = true ∧ E (as.map (xdn τ)) (xsel τ σ) (fun r σ' => xnr r (Q r w (xbk τ σ σ')))) := by
  intro a ρ w sz as σ Q hE hLK hσ has
  have hbw : xSub τ N' sh' (vsh w) := subW0 hb h0
  have hbw2 : xSub τ N' sh'2 (shW wlVF1 w) := subW0 hb2 h0
  have hal := xallB_e hE.1
  have hMet := hM (fun i => a (τ.getD i 0)) (fun i => ρ (τ.getD i 0)) sz _ _ _ hE.2 (xgs_sel hbw hσ) (xdn_g has)
  rw [xdn_v (a := a) hal] at hMet
  refine v_conf hMet (fun av st h => ⟨h.1, h.2.1.1, xP_sel (vfi w) hbw h.2.1.2.1, h.2.1.2.2.1, xD_sel (vfi w) hbw h.2.1.2.2.2⟩) (fun av st o t hpre h => ?_) (vA_sub hbw)
  obtain ⟨⟨r, σ', ho, hk, hr, hσ1, hP1, hD1⟩, hz, hF⟩ := h
  obtain ⟨hk1, hrr⟩ := xnr_e hk
  obtain ⟨hsz, hP, hK, hD0⟩ := hpre.2.1
  refine ⟨⟨r, w, a, vTx a ρ, xbk τ σ σ', ho.trans (by rw [hrr a (fun i => a (τ.getD i 0))]), hk1, hr, fun u hu => absurd hu (xnr_n hk u), vTx_LK hLK, v1_gs (xgs_bk2 hbw2 (v1_out h30) hσ hσ1), fun _ _ => rfl, v1_P (xP_bk2 hbw hbw2 (v1_out h30) hP hD0 hP1 (fun q h1 h2 => hF q h1 (by rw [← hsz]; exact h2)) (vfi w)), xws_D.mpr (xws_D.mp (hD0.self (sz := sz)))⟩, hz, fun q h1 h2 => hF q h1 (fun h => h2 (vA_sub hbw q h))⟩
theorem vMt.mono {l : Launch} {D : va_G} {yv : Nat → ClassId} {y : MethodName} {cy : ByteArray} {nLy : Nat} {ret : Option FieldType} {d : Nat} {mc ms : (Nat → Bool) → Nat} {E E' : vE} (h : vMt l D yv y cy nLy ret d mc ms E) (hE : ∀ w as σ Q, E' w as σ Q → E w as σ Q) : vMt l D yv y cy nLy ret d mc ms E' := fun a ρ w sz as σ Q h1 => h a ρ w sz as σ Q (hE w as σ Q h1)
abbrev tB : List Nat := [0, 1, 2, 3, 4, 5, 6, 7, 8, 9, 10, 11, 12, 13, 14, 15, 16, 17, 18, 19, 20, 21, 22, 23, 24, 25, 26, 27, 28, 29, 30, 31, 32, 33, 34, 35, 36, 37, 38, 39, 40, 41, 42, 43, 44, 45, 46]
theorem subB0 : xSub tB 47 shB0 (fun t => wlVF0[t]?) := xsubB_ok (l' := wlB0) (l := wlVF0) (by decide +kernel)
theorem subB1 : xSub tB 47 shB1 (fun t => wlVF1[t]?) := xsubB_ok (l' := wlB1) (l := wlVF1) (by decide +kernel)
theorem JW.sm {w : Nat → Bool} {σ σ' : xS} (h : JW w σ) {ts js : List Nat} (f : Fr ts js σ σ') (hts : ts.all (fun t => decide (t < 47 ∧ t ≠ 28 ∧ t ≠ 39 ∧ (t < 2 ∨ 14 < t))) = true) (h1 : 0 ≤ σ' 0 1 ∧ σ' 0 1 ≤ 940) (h4 : 0 ≤ σ' 0 17 ∧ σ' 0 17 ≤ 78) : JW w σ' := by
  have hu : ∀ t, t ≠ 0 → (47 ≤ t ∨ t = 28 ∨ t = 39 ∨ (2 ≤ t ∧ t ≤ 14)) → σ' t = σ t := fun t h0 ht => f.1 t h0 (fun hm => by have := of_decide_eq_true (List.all_eq_true.mp hts t hm); omega)
  exact JW.fr h (fun t h1 _ => hu t (by omega) (Or.inl h1)) h1 (jg_sel h.g (fun k hk => hu _ (by omega) (by omega))) (by rw [hu 28 (by omega) (by omega)]; exact h.1.2.2.1) h4 (by rw [hu 39 (by omega) (by omega)]; exact ⟨h.p.1, h.p.2.1⟩)
theorem xbk_hi {σ ς : xS} {t : Nat} (h : 47 ≤ t) : xbk tB σ ς t = σ t := by
  have hx : xix tB t = none := by
    cases hi : xix tB t with
    | none => rfl
    | some i =>
      have hm := List.mem_of_getElem? (xix_e hi)
      simp only [tB, List.mem_cons, List.not_mem_nil, or_false] at hm
      omega
  unfold xbk
  rw [hx]
def Rfeed (_ : List xV) (σ : xS) (w : Nat → Bool) (r : Option xV) (w' : Nat → Bool) (σ' : xS) : Prop := (∃ z : Int, r = some (xvi z) ∧ ((940 < σ 0 1 + 20 ∧ z = -1 ∧ σ' 0 1 = σ 0 1) ∨ (σ 0 1 + 20 ≤ 940 ∧ z = σ 0 1 + 20 ∧ σ' 0 1 = σ 0 1 + 20))) ∧ w' 9 = w 9 ∧ w' 10 = w 10 ∧ (w 13 = true → w' 13 = true) ∧ σ' 31 = σ 31
def Rend (as : List xV) (σ : xS) (w : Nat → Bool) (r : Option xV) (w' : Nat → Bool) (σ' : xS) : Prop := (∃ z : Int, r = some (xvi z) ∧ ∀ n : Int, as = [xvr 0, xvi n] → (((n < 0 ∨ σ 0 1 < n) ∧ z = 0 ∧ σ' 0 1 = σ 0 1) ∨ (0 ≤ n ∧ n ≤ σ 0 1 ∧ z = 1 ∧ σ' 0 1 = n))) ∧ w' 9 = w 9 ∧ keptW w w' σ σ'
theorem mvX10_fault (l : Launch) (D : va_G) (yv : Nat → ClassId) : vMt l D yv yX10_fault cX10_fault 1 (some .int) 0 (fun _ => 0) (fun _ => 0) (pubE ar0 Rs) := by
  refine (vOf1 (mX10_fault l D yv) subB0 (by decide)).mono (fun w as σ Q h => ?_)
  obtain ⟨hJ, rfl, hQ⟩ := h
  refine ⟨by rfl, ?_⟩
  exact sX10_fault (σ := xsel tB σ)  (fun r => by show Q _ w (xbk tB σ (xsel tB σ)); rw [xbk_sel]; exact hQ _ w σ hJ ⟨⟨_, rfl⟩, rfl, rfl, kw_rfl⟩)
theorem mvX10_person (l : Launch) (D : va_G) (yv : Nat → ClassId) : vMt l D yv yX10_person cX10_person 3 (some .int) 2 (fun _ => 0) (fun _ => 0) (pubE ar2 Rs) := by
  refine (vOf1 (mX10_person l D yv) subB0 (by decide)).mono (fun w as σ Q h => ?_)
  obtain ⟨hJ, ⟨x1, x2, rfl⟩, hQ⟩ := h
  refine ⟨by rfl, ?_⟩
  exact sX10_person (σ := xsel tB σ) (by exact hJ.g) (fun r => by show Q _ w (xbk tB σ (xsel tB σ)); rw [xbk_sel]; exact hQ _ w σ hJ ⟨⟨_, rfl⟩, rfl, rfl, kw_rfl⟩)
theorem mvX10_book (l : Launch) (D : va_G) (yv : Nat → ClassId) : vMt l D yv yX10_book cX10_book 2 (some .int) 1 (fun _ => 0) (fun _ => 0) (pubE ar1 Rs) := by
  refine (vOf1 (mX10_book l D yv) subB0 (by decide)).mono (fun w as σ Q h => ?_)
  obtain ⟨hJ, ⟨x1, rfl⟩, hQ⟩ := h
  refine ⟨by rfl, ?_⟩
  exact sX10_book (σ := xsel tB σ) (by exact hJ.g) (fun r => by show Q _ w (xbk tB σ (xsel tB σ)); rw [xbk_sel]; exact hQ _ w σ hJ ⟨⟨_, rfl⟩, rfl, rfl, kw_rfl⟩)
theorem mvX10_heap (l : Launch) (D : va_G) (yv : Nat → ClassId) : vMt l D yv yX10_heap cX10_heap 2 (some .int) 1 (fun _ => 0) (fun _ => 0) (pubE ar1 Rs) := by
  refine (vOf1 (mX10_heap l D yv) subB0 (by decide)).mono (fun w as σ Q h => ?_)
  obtain ⟨hJ, ⟨x1, rfl⟩, hQ⟩ := h
  refine ⟨by rfl, ?_⟩
  exact sX10_heap (σ := xsel tB σ) (by exact hJ.g) (fun r => by show Q _ w (xbk tB σ (xsel tB σ)); rw [xbk_sel]; exact hQ _ w σ hJ ⟨⟨_, rfl⟩, rfl, rfl, kw_rfl⟩)
theorem mvX10_now (l : Launch) (D : va_G) (yv : Nat → ClassId) : vMt l D yv yX10_now cX10_now 2 (some .int) 2 (fun _ => 0) (fun _ => 0) (pubE ar1 Rs) := by
  refine (vOf1 (mX10_now l D yv) subB0 (by decide)).mono (fun w as σ Q h => ?_)
  obtain ⟨hJ, ⟨x1, rfl⟩, hQ⟩ := h
  refine ⟨by rfl, ?_⟩
  exact sX10_now (σ := xsel tB σ) (by exact hJ.g) (fun r => by show Q _ w (xbk tB σ (xsel tB σ)); rw [xbk_sel]; exact hQ _ w σ hJ ⟨⟨_, rfl⟩, rfl, rfl, kw_rfl⟩)
theorem mvX10_why (l : Launch) (D : va_G) (yv : Nat → ClassId) : vMt l D yv yX10_why cX10_why 4 (some .int) 2 (fun _ => 0) (fun _ => 0) (pubE ar3 Rs) := by
  refine (vOf1 (mX10_why l D yv) subB0 (by decide)).mono (fun w as σ Q h => ?_)
  obtain ⟨hJ, ⟨x1, x2, x3, rfl⟩, hQ⟩ := h
  refine ⟨by rfl, ?_⟩
  exact sX10_why (σ := xsel tB σ) (by exact hJ.g) (fun r => by show Q _ w (xbk tB σ (xsel tB σ)); rw [xbk_sel]; exact hQ _ w σ hJ ⟨⟨_, rfl⟩, rfl, rfl, kw_rfl⟩)
theorem mvX10_asked (l : Launch) (D : va_G) (yv : Nat → ClassId) : vMt l D yv yX10_asked cX10_asked 2 (some .int) 0 (fun _ => 0) (fun _ => 0) (pubE ar1 Rs) := by
  refine (vOf1 (mX10_asked l D yv) subB0 (by decide)).mono (fun w as σ Q h => ?_)
  obtain ⟨hJ, ⟨x1, rfl⟩, hQ⟩ := h
  refine ⟨by rfl, ?_⟩
  exact sX10_asked (σ := xsel tB σ)  (fun r => by show Q _ w (xbk tB σ (xsel tB σ)); rw [xbk_sel]; exact hQ _ w σ hJ ⟨⟨_, rfl⟩, rfl, rfl, kw_rfl⟩)
theorem mvX10_known (l : Launch) (D : va_G) (yv : Nat → ClassId) : vMt l D yv yX10_known cX10_known 3 (some .int) 1 (fun _ => 0) (fun _ => 0) (pubE ar2 Rs) := by
  refine (vOf1 (mX10_known l D yv) subB0 (by decide)).mono (fun w as σ Q h => ?_)
  obtain ⟨hJ, ⟨x1, x2, rfl⟩, hQ⟩ := h
  refine ⟨by rfl, ?_⟩
  exact sX10_known (σ := xsel tB σ) (by exact hJ.g) (fun r => by show Q _ w (xbk tB σ (xsel tB σ)); rw [xbk_sel]; exact hQ _ w σ hJ ⟨⟨_, rfl⟩, rfl, rfl, kw_rfl⟩)
theorem mvX10_can (l : Launch) (D : va_G) (yv : Nat → ClassId) : vMt l D yv yX10_can cX10_can 3 (some .int) 1 (fun _ => 0) (fun _ => 0) (pubE ar2 Rs) := by
  refine (vOf1 (mX10_can l D yv) subB0 (by decide)).mono (fun w as σ Q h => ?_)
  obtain ⟨hJ, ⟨x1, x2, rfl⟩, hQ⟩ := h
  refine ⟨by rfl, ?_⟩
  exact sX10_can (σ := xsel tB σ) (by exact hJ.g) (fun r => by show Q _ w (xbk tB σ (xsel tB σ)); rw [xbk_sel]; exact hQ _ w σ hJ ⟨⟨_, rfl⟩, rfl, rfl, kw_rfl⟩)
theorem mvX10_swept (l : Launch) (D : va_G) (yv : Nat → ClassId) : vMt l D yv yX10_swept cX10_swept 2 (some .int) 0 (fun _ => 0) (fun _ => 0) (pubE ar1 Rs) := by
  refine (vOf1 (mX10_swept l D yv) subB0 (by decide)).mono (fun w as σ Q h => ?_)
  obtain ⟨hJ, ⟨x1, rfl⟩, hQ⟩ := h
  refine ⟨by rfl, ?_⟩
  exact sX10_swept (σ := xsel tB σ) (by exact hJ.1.2.2.2.1) (fun r => by show Q _ w (xbk tB σ (xsel tB σ)); rw [xbk_sel]; exact hQ _ w σ hJ ⟨⟨_, rfl⟩, rfl, rfl, kw_rfl⟩)
theorem mvX10_gains (l : Launch) (D : va_G) (yv : Nat → ClassId) : vMt l D yv yX10_gains cX10_gains 4 (some .int) 2 (fun _ => 0) (fun _ => 0) (pubE ar1 Rs) := by
  refine (vOf1 (mX10_gains l D yv) subB0 (by decide)).mono (fun w as σ Q h => ?_)
  obtain ⟨hJ, ⟨x1, rfl⟩, hQ⟩ := h
  refine ⟨by rfl, ?_⟩
  exact sX10_gains (σ := xsel tB σ) (by exact hJ.g) (fun r => by show Q _ w (xbk tB σ (xsel tB σ)); rw [xbk_sel]; exact hQ _ w σ hJ ⟨⟨_, rfl⟩, rfl, rfl, kw_rfl⟩)
theorem mvX10_bent (l : Launch) (D : va_G) (yv : Nat → ClassId) : vMt l D yv yX10_bent cX10_bent 3 (some .int) 3 (fun _ => 0) (fun _ => 0) (pubE ar2 Rs) := by
  refine (vOf1 (mX10_bent l D yv) subB0 (by decide)).mono (fun w as σ Q h => ?_)
  obtain ⟨hJ, ⟨x1, x2, rfl⟩, hQ⟩ := h
  refine ⟨by rfl, ?_⟩
  exact sX10_bent (σ := xsel tB σ) (by exact hJ.g) (fun r => by show Q _ w (xbk tB σ (xsel tB σ)); rw [xbk_sel]; exact hQ _ w σ hJ ⟨⟨_, rfl⟩, rfl, rfl, kw_rfl⟩)
theorem mvX10_leader (l : Launch) (D : va_G) (yv : Nat → ClassId) : vMt l D yv yX10_leader cX10_leader 5 (some .int) 1 (fun _ => 0) (fun _ => 0) (pubE ar0 Rs) := by
  refine (vOf1 (mX10_leader l D yv) subB0 (by decide)).mono (fun w as σ Q h => ?_)
  obtain ⟨hJ, rfl, hQ⟩ := h
  refine ⟨by rfl, ?_⟩
  exact sX10_leader (σ := xsel tB σ) (by exact hJ.g) (fun r => by show Q _ w (xbk tB σ (xsel tB σ)); rw [xbk_sel]; exact hQ _ w σ hJ ⟨⟨_, rfl⟩, rfl, rfl, kw_rfl⟩)
theorem mvX10_heard (l : Launch) (D : va_G) (yv : Nat → ClassId) : vMt l D yv yX10_heard cX10_heard 2 (some .int) 0 (fun _ => 0) (fun _ => 0) (pubE ar1 Rs) := by
  refine (vOf1 (mX10_heard l D yv) subB0 (by decide)).mono (fun w as σ Q h => ?_)
  obtain ⟨hJ, ⟨x1, rfl⟩, hQ⟩ := h
  refine ⟨by rfl, ?_⟩
  exact sX10_heard (σ := xsel tB σ)  (fun r => by show Q _ w (xbk tB σ (xsel tB σ)); rw [xbk_sel]; exact hQ _ w σ hJ ⟨⟨_, rfl⟩, rfl, rfl, kw_rfl⟩)
theorem mvX10_said (l : Launch) (D : va_G) (yv : Nat → ClassId) : vMt l D yv yX10_said cX10_said 4 (some .int) 4 (fun _ => 0) (fun _ => 0) (pubE ar1 Rs) := by
  refine (vOf1 (mX10_said l D yv) subB0 (by decide)).mono (fun w as σ Q h => ?_)
  obtain ⟨hJ, ⟨x1, rfl⟩, hQ⟩ := h
  refine ⟨by rfl, ?_⟩
  exact sX10_said (σ := xsel tB σ) (by exact hJ.g) (by exact hJ.1.2.2.1) (fun r => by show Q _ w (xbk tB σ (xsel tB σ)); rw [xbk_sel]; exact hQ _ w σ hJ ⟨⟨_, rfl⟩, rfl, rfl, kw_rfl⟩)
theorem mvX10_count (l : Launch) (D : va_G) (yv : Nat → ClassId) : vMt l D yv yX10_count cX10_count 2 (some .int) 0 (fun _ => 0) (fun _ => 0) (pubE ar1 Rs) := by
  refine (vOf1 (mX10_count l D yv) subB0 (by decide)).mono (fun w as σ Q h => ?_)
  obtain ⟨hJ, ⟨x1, rfl⟩, hQ⟩ := h
  refine ⟨by rfl, ?_⟩
  exact sX10_count (σ := xsel tB σ)  (fun r => by show Q _ w (xbk tB σ (xsel tB σ)); rw [xbk_sel]; exact hQ _ w σ hJ ⟨⟨_, rfl⟩, rfl, rfl, kw_rfl⟩)
theorem mvX10_games (l : Launch) (D : va_G) (yv : Nat → ClassId) : vMt l D yv yX10_games cX10_games 5 (some .int) 7 (fun _ => 0) (fun _ => 0) (pubE ar4 Rs) := by
  refine (vOf1 (mX10_games l D yv) subB0 (by decide)).mono (fun w as σ Q h => ?_)
  obtain ⟨hJ, ⟨x1, x2, x3, x4, rfl⟩, hQ⟩ := h
  refine ⟨by rfl, ?_⟩
  exact sX10_games (σ := xsel tB σ) (by exact hJ.g) (fun r ς f => hQ _ w _ (hJ.sm (ts := [15, 16, 17, 18, 19, 20, 21, 22, 23, 24, 25, 26, 27, 44]) (js := []) (f.bk0 (by decide) (by decide) (by decide)) (by decide) (by rw [(f.bk0 (τ := tB) (ts2 := [15, 16, 17, 18, 19, 20, 21, 22, 23, 24, 25, 26, 27, 44]) (js2 := []) (by decide) (by decide) (by decide)).2 1 (by simp)]; exact hJ.1.1) (by rw [(f.bk0 (τ := tB) (ts2 := [15, 16, 17, 18, 19, 20, 21, 22, 23, 24, 25, 26, 27, 44]) (js2 := []) (by decide) (by decide) (by decide)).2 17 (by simp)]; exact hJ.1.2.2.2.1)) ⟨⟨_, rfl⟩, (f.bk0 (τ := tB) (ts2 := [15, 16, 17, 18, 19, 20, 21, 22, 23, 24, 25, 26, 27, 44]) (js2 := []) (by decide) (by decide) (by decide)).2 1 (by simp), rfl, kw_fr (f.bk0 (τ := tB) (ts2 := [15, 16, 17, 18, 19, 20, 21, 22, 23, 24, 25, 26, 27, 44]) (js2 := []) (by decide) (by decide) (by decide))⟩)
theorem mvX10_length (l : Launch) (D : va_G) (yv : Nat → ClassId) : vMt l D yv yX10_length cX10_length 5 (some .int) 7 (fun _ => 0) (fun _ => 0) (pubE ar4 Rs) := by
  refine (vOf1 (mX10_length l D yv) subB0 (by decide)).mono (fun w as σ Q h => ?_)
  obtain ⟨hJ, ⟨x1, x2, x3, x4, rfl⟩, hQ⟩ := h
  refine ⟨by rfl, ?_⟩
  exact sX10_length (σ := xsel tB σ) (by exact hJ.g) (fun r ς f => hQ _ w _ (hJ.sm (ts := [15, 16, 17, 18, 19, 20, 21, 22, 23, 24, 25, 26, 27, 44]) (js := []) (f.bk0 (by decide) (by decide) (by decide)) (by decide) (by rw [(f.bk0 (τ := tB) (ts2 := [15, 16, 17, 18, 19, 20, 21, 22, 23, 24, 25, 26, 27, 44]) (js2 := []) (by decide) (by decide) (by decide)).2 1 (by simp)]; exact hJ.1.1) (by rw [(f.bk0 (τ := tB) (ts2 := [15, 16, 17, 18, 19, 20, 21, 22, 23, 24, 25, 26, 27, 44]) (js2 := []) (by decide) (by decide) (by decide)).2 17 (by simp)]; exact hJ.1.2.2.2.1)) ⟨⟨_, rfl⟩, (f.bk0 (τ := tB) (ts2 := [15, 16, 17, 18, 19, 20, 21, 22, 23, 24, 25, 26, 27, 44]) (js2 := []) (by decide) (by decide) (by decide)).2 1 (by simp), rfl, kw_fr (f.bk0 (τ := tB) (ts2 := [15, 16, 17, 18, 19, 20, 21, 22, 23, 24, 25, 26, 27, 44]) (js2 := []) (by decide) (by decide) (by decide))⟩)
theorem mvX10_reply (l : Launch) (D : va_G) (yv : Nat → ClassId) : vMt l D yv yX10_reply cX10_reply 8 (some .int) 7 (fun _ => 0) (fun _ => 0) (pubE ar3 Rs) := by
  refine (vOf1 (mX10_reply l D yv) subB0 (by decide)).mono (fun w as σ Q h => ?_)
  obtain ⟨hJ, ⟨x1, x2, x3, rfl⟩, hQ⟩ := h
  refine ⟨by rfl, ?_⟩
  exact sX10_reply (σ := xsel tB σ) (by exact hJ.g) (fun r ς f => hQ _ w _ (hJ.sm (ts := [15, 16, 17, 18, 19, 20, 21, 22, 23, 24, 25, 26, 27, 44]) (js := []) (f.bk0 (by decide) (by decide) (by decide)) (by decide) (by rw [(f.bk0 (τ := tB) (ts2 := [15, 16, 17, 18, 19, 20, 21, 22, 23, 24, 25, 26, 27, 44]) (js2 := []) (by decide) (by decide) (by decide)).2 1 (by simp)]; exact hJ.1.1) (by rw [(f.bk0 (τ := tB) (ts2 := [15, 16, 17, 18, 19, 20, 21, 22, 23, 24, 25, 26, 27, 44]) (js2 := []) (by decide) (by decide) (by decide)).2 17 (by simp)]; exact hJ.1.2.2.2.1)) ⟨⟨_, rfl⟩, (f.bk0 (τ := tB) (ts2 := [15, 16, 17, 18, 19, 20, 21, 22, 23, 24, 25, 26, 27, 44]) (js2 := []) (by decide) (by decide) (by decide)).2 1 (by simp), rfl, kw_fr (f.bk0 (τ := tB) (ts2 := [15, 16, 17, 18, 19, 20, 21, 22, 23, 24, 25, 26, 27, 44]) (js2 := []) (by decide) (by decide) (by decide))⟩)
theorem mvX10_sweep (l : Launch) (D : va_G) (yv : Nat → ClassId) : vMt l D yv yX10_sweep cX10_sweep 3 (some .int) 2 (fun _ => 0) (fun _ => 0) (pubE ar1 Rs) := by
  refine (vOf1 (mX10_sweep l D yv) subB0 (by decide)).mono (fun w as σ Q h => ?_)
  obtain ⟨hJ, ⟨x1, rfl⟩, hQ⟩ := h
  refine ⟨by rfl, ?_⟩
  exact sX10_sweep (σ := xsel tB σ) (by exact hJ.g) (by exact hJ.1.2.2.2.1) (fun r ς f h => hQ _ w _ (hJ.sm (ts := [46]) (js := [17]) (f.bk0 (by decide) (by decide) (by decide)) (by decide) (by rw [(f.bk0 (τ := tB) (ts2 := [46]) (js2 := [17]) (by decide) (by decide) (by decide)).2 1 (by decide)]; exact hJ.1.1) (by exact h)) ⟨⟨_, rfl⟩, (f.bk0 (τ := tB) (ts2 := [46]) (js2 := [17]) (by decide) (by decide) (by decide)).2 1 (by decide), rfl, kw_fr (f.bk0 (τ := tB) (ts2 := [46]) (js2 := [17]) (by decide) (by decide) (by decide))⟩)
theorem mvX10_feed (l : Launch) (D : va_G) (yv : Nat → ClassId) : vMt l D yv yX10_feed cX10_feed 6 (some .int) 1 (fun _ => 0) (fun _ => 0) (pubE ar5 Rfeed) := by
  refine (vOf1 (mX10_feed l D yv) subB0 (by decide)).mono (fun w as σ Q h => ?_)
  obtain ⟨hJ, ⟨x1, x2, x3, x4, x5, rfl⟩, hQ⟩ := h
  refine ⟨by rfl, ?_⟩
  exact sX10_feed (σ := xsel tB σ) (by exact hJ.1.1) (fun r ς f h => hQ _ w _ (hJ.sm (ts := [1]) (js := [1]) (f.bk0 (by decide) (by decide) (by decide)) (by decide) (by have h9 := hJ.1.1; have h8 : (940 < σ 0 1 + 20 ∧ r = -1 ∧ ς 0 1 = σ 0 1) ∨ (σ 0 1 + 20 ≤ 940 ∧ r = σ 0 1 + 20 ∧ ς 0 1 = σ 0 1 + 20) := h; show 0 ≤ ς 0 1 ∧ ς 0 1 ≤ 940; omega) (by rw [(f.bk0 (τ := tB) (ts2 := [1]) (js2 := [1]) (by decide) (by decide) (by decide)).2 17 (by decide)]; exact hJ.1.2.2.2.1)) ⟨⟨r, rfl, h⟩, rfl, rfl, fun h => h, (f.bk0 (τ := tB) (ts2 := [1]) (js2 := [1]) (by decide) (by decide) (by decide)).1 31 (by decide) (by decide)⟩)
theorem mvX10_end (l : Launch) (D : va_G) (yv : Nat → ClassId) : vMt l D yv yX10_end cX10_end 2 (some .boolean) 0 (fun _ => 0) (fun _ => 0) (pubE ar1 Rend) := by
  refine (vOf1 (mX10_end l D yv) subB0 (by decide)).mono (fun w as σ Q h => ?_)
  obtain ⟨hJ, ⟨x1, rfl⟩, hQ⟩ := h
  refine ⟨by rfl, ?_⟩
  exact sX10_end (σ := xsel tB σ) (by exact hJ.1.1) (fun r ς f h => hQ _ w _ (hJ.sm (ts := []) (js := [1]) (f.bk0 (by decide) (by decide) (by decide)) (by decide) (by have h9 := hJ.1.1; have h8 : ((x1 < 0 ∨ σ 0 1 < x1) ∧ r = 0 ∧ ς 0 1 = σ 0 1) ∨ (0 ≤ x1 ∧ x1 ≤ σ 0 1 ∧ r = 1 ∧ ς 0 1 = x1) := h; show 0 ≤ ς 0 1 ∧ ς 0 1 ≤ 940; omega) (by rw [(f.bk0 (τ := tB) (ts2 := []) (js2 := [1]) (by decide) (by decide) (by decide)).2 17 (by decide)]; exact hJ.1.2.2.2.1)) ⟨⟨r, rfl, fun n hn => by cases hn; exact h⟩, rfl, kw_fr (f.bk0 (τ := tB) (ts2 := []) (js2 := [1]) (by decide) (by decide) (by decide))⟩)
theorem mvX10_table (l : Launch) (D : va_G) (yv : Nat → ClassId) : vMt l D yv yX10_table cX10_table 2 (some .int) 7 (fun _ => 0) (fun _ => 0) (pubE ar0 Rz) := by
  refine (vOf2 (mX10_table l D yv) subB0 subB1 (by decide) (by decide)).mono (fun w as σ Q h => ?_)
  obtain ⟨hJ, rfl, hQ⟩ := h
  refine ⟨by rfl, ?_⟩
  exact TABLEE_i (σ := xsel tB σ) (by exact hJ.1.1) (by exact hJ.g) (by exact hJ.1.2.2.1) (by exact ⟨hJ.p.2.1, hJ.p.1⟩) (fun r ς f h => hQ _ w _ (JW.fr hJ (fun t h1 _ => xbk_hi (by omega)) (by show 0 ≤ ς 0 1 ∧ ς 0 1 ≤ 940; have h8 : ς 0 1 = 0 := h.2.1; omega) (by exact h.1) (by exact h.2.2.1) (by rw [(f.bk0 (τ := tB) (ts2 := tB) (js2 := [1, 2]) (by decide) (by decide) (by decide)).2 17 (by decide)]; exact hJ.1.2.2.2.1) (by exact ⟨h.2.2.2.2, h.2.2.2.1⟩)) ⟨⟨_, rfl⟩, h.2.1, rfl, kw_fr (f.bk0 (τ := tB) (ts2 := [30, 32, 33, 2, 3, 4, 5, 6, 7, 8, 9, 10, 11, 12, 13, 14, 15, 16, 17, 18, 19, 20, 21, 22, 23, 24, 25, 26, 27, 28, 39]) (js2 := [1, 2]) (by decide) (by decide) (by decide))⟩)
theorem mvX10_sentence (l : Launch) (D : va_G) (yv : Nat → ClassId) : vMt l D yv yX10_sentence cX10_sentence 2 (some .int) 34 (fun _ => 0) (fun _ => 0) (pubE ar0 Rz) := by
  refine (vOf2 (mX10_sentence l D yv) subB0 subB1 (by decide) (by decide)).mono (fun w as σ Q h => ?_)
  obtain ⟨hJ, rfl, hQ⟩ := h
  refine ⟨by rfl, ?_⟩
  exact SENTENCEE_i (σ := xsel tB σ) (by exact hJ.1.1) (by exact hJ.g) (by exact hJ.1.2.2.1) (fun r ς f h => by
    have f2 := f.bk0 (τ := tB) (ts2 := [30, 36, 37, 38, 28, 29]) (js2 := [1, 2]) (by decide) (by decide) (by decide)
    have hu : ∀ t, t ≠ 0 → (t = 39 ∨ (2 ≤ t ∧ t ≤ 14)) → xbk tB σ ς t = σ t := fun t h0 ht => f2.1 t h0 (by simp only [List.mem_cons, List.not_mem_nil, or_false]; omega)
    exact hQ _ w _ (JW.fr hJ (fun t h1 _ => xbk_hi (by omega)) (by show 0 ≤ ς 0 1 ∧ ς 0 1 ≤ 940; have h8 : ς 0 1 = 0 := h.1; omega) (jg_sel hJ.g (fun k hk => hu _ (by omega) (by omega))) (by exact h.2) (by rw [f2.2 17 (by decide)]; exact hJ.1.2.2.2.1) (by rw [hu 39 (by omega) (by omega)]; exact ⟨hJ.p.1, hJ.p.2.1⟩)) ⟨⟨_, rfl⟩, h.1, rfl, kw_fr f2⟩)
