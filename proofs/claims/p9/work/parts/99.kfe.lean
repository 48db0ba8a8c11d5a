/-! The law's world: V(w) and more; calls that throw; static calls. -/
section XP
variable {p : Program} {l : Launch} {e : Env} {R : Room} {s : State} {m : MethodId} {args : Array Value} {below : List Frame} {meth : Method} {c : Code}
variable {cc : ByteArray} {nL d : Nat} {own : String} {D : va_G} {yv : Nat → ClassId} {a : Nat → Nat} {ρ : Nat → Nat → Option Nat} {A : Nat → Prop} {kz : Nat × Nat} {Qm : State → Prop} {ret : Option FieldType} {pc : Nat} {L st : List xV} {σ : xS}
/-- a world that holds another in its first N1 tags -/
def gFam (N1 N2 : Nat) (sh1 sh2 : (Nat → Bool) → xH) : Prop := N1 ≤ N2 ∧ (∀ w, xfin N1 (sh1 w)) ∧ (∀ w, xfin N2 (sh2 w)) ∧ (∀ w t, t < N1 → sh2 w t = sh1 w t) ∧ (∀ w w' t, N1 ≤ t → sh2 w t = sh2 w' t) ∧ (∀ w t e, sh1 w t = some e → ∀ c, c + 4 ∈ e.2.2 → c < N1) ∧ ∀ w t e, N1 ≤ t → sh2 w t = some e → ∀ c, c + 4 ∈ e.2.2 → N1 ≤ c ∧ c < N2
def gMg (N1 N2 : Nat) (σ : xS) (a : Nat → Nat) (ρ : Nat → Nat → Option Nat) (m1 : xS → xS) (m2 : (Nat → Nat) → Nat → Nat) (m3 : (Nat → Nat → Option Nat) → Nat → Nat → Option Nat) : Prop := (∀ f t, (t < N1 → m1 f t = f t) ∧ (N1 ≤ t → t < N2 → m1 f t = σ t)) ∧ (∀ f t, (t < N1 → m2 f t = f t) ∧ (N1 ≤ t → t < N2 → m2 f t = a t)) ∧ (∀ f t, (t < N1 → m3 f t = f t) ∧ (N1 ≤ t → t < N2 → m3 f t = ρ t))
theorem gsub_P {N1 N2 : Nat} {sh1 sh2 : (Nat → Bool) → xH} {w : Nat → Bool} {H : Heap} (hF : gFam N1 N2 sh1 sh2) (hP : va_P D vwCl (xws a yv ρ N2 (sh2 w) σ) H) : va_P D vwCl (xws a yv ρ N1 (sh1 w) σ) H := xws_P.mpr (fun u e hu hue => xws_P.mp hP u e (by have := hF.1; omega) (by rw [hF.2.2.2.1 w u hu]; exact hue))
theorem gsub_D {N1 N2 : Nat} {sh1 sh2 : (Nat → Bool) → xH} {w : Nat → Bool} {σ' : xS} (hF : gFam N1 N2 sh1 sh2) (hD : va_D A (xws a yv ρ N2 (sh2 w) σ)) : va_D A (xws a yv ρ N1 (sh1 w) σ') := by
  have h := xws_D.mp hD
  have h12 := hF.1
  exact xws_D.mpr ⟨fun u v hu hv hsu hsv => h.1 u v (by omega) (by omega) (by rw [hF.2.2.2.1 w u hu]; exact hsu) (by rw [hF.2.2.2.1 w v hv]; exact hsv), fun u hu hsu => h.2 u (by omega) (by rw [hF.2.2.2.1 w u hu]; exact hsu)⟩
theorem gsub_g {N1 N2 : Nat} {sh1 sh2 : (Nat → Bool) → xH} {w : Nat → Bool} (hF : gFam N1 N2 sh1 sh2) (hσ : xgs (sh2 w) σ) : xgs (sh1 w) σ := by
  have lt : ∀ u e, sh1 w u = some e → u < N1 := fun u e h => Nat.not_le.mp (fun h2 => by rw [hF.2.1 w u h2] at h; cases h)
  exact ⟨fun u ci codes hu j c hc => hσ.1 u ci codes (by rw [hF.2.2.2.1 w u (lt u _ hu)]; exact hu) j c hc, fun u k n l hu j hj => hσ.2 u k n l (by rw [hF.2.2.2.1 w u (lt u _ hu)]; exact hu) j hj⟩
theorem gmerge {N1 N2 : Nat} {sh1 sh2 : (Nat → Bool) → xH} {w w' : Nat → Bool} {a' : Nat → Nat} {ρ' : Nat → Nat → Option Nat} {σ' : xS} {H H1 : Heap} {m1 : xS → xS} {m2 : (Nat → Nat) → Nat → Nat} {m3 : (Nat → Nat → Option Nat) → Nat → Nat → Option Nat} (hF : gFam N1 N2 sh1 sh2) (hm : gMg N1 N2 σ a ρ m1 m2 m3)
    (hP : va_P D vwCl (xws a yv ρ N2 (sh2 w) σ) H) (hD : va_D A (xws a yv ρ N2 (sh2 w) σ)) (hσ : xgs (sh2 w) σ) (hP1 : va_P D vwCl (xws a' yv ρ' N1 (sh1 w') σ') H1) (hD1 : va_D (va_A (xws a yv ρ N1 (sh1 w) σ) H.size) (xws a' yv ρ' N1 (sh1 w') σ')) (k5 : xgs (sh1 w') σ')
    (hFq : ∀ q, va_A (xws a yv ρ N1 (sh1 w) σ) H.size q → A q) (hf4 : ∀ q : Nat, q < H.size → ¬ va_A (xws a yv ρ N1 (sh1 w) σ) H.size q → H1[q]? = H[q]?) :
    va_P D vwCl (xws (m2 a') yv (m3 ρ') N2 (sh2 w') (m1 σ')) H1 ∧ va_D A (xws (m2 a') yv (m3 ρ') N2 (sh2 w') (m1 σ')) ∧ xgs (sh2 w') (m1 σ') := by
  obtain ⟨h12, hfin1, hfin, hf1, hf2, hr1, hf3⟩ := hF
  obtain ⟨hm1, hm2, hm3⟩ := hm
  have hDold := xws_D.mp hD
  refine ⟨?_, ?_, ?_⟩
  · refine xws_P.mpr (fun u e hu hue => ?_)
    rcases Nat.lt_or_ge u N1 with h6 | h6
    · have h7 := hue
      rw [hf1 w' u h6] at h7
      have h8 := xws_P.mp hP1 u e h6 h7
      rw [(hm2 a' u).1 h6, xcell_cg (a := a') (ρ := ρ') (σ := σ') (fun c hc => (hm2 a' c).1 (hr1 w' u e h7 c hc)) ((hm3 ρ' u).1 h6) ((hm1 σ' u).1 h6)]
      exact h8
    · have h7 := hue
      rw [hf2 w' w u h6] at h7
      have h8 := xws_P.mp hP u e hu h7
      rw [(hm2 a' u).2 h6 hu, xcell_cg (a := a) (ρ := ρ) (σ := σ) (fun c hc => (hm2 a' c).2 (hf3 w u e h6 h7 c hc).1 (hf3 w u e h6 h7 c hc).2) ((hm3 ρ' u).2 h6 hu) ((hm1 σ' u).2 h6 hu)]
      refine h8.kept (hf4 _ h8.lt (fun hq => ?_))
      rcases xws_in hq with ⟨v, e1, hv, hsv, h9⟩ | hq
      · have := hDold.1 u v hu (by omega) (by rw [h7]; rfl) (by rw [hf1 w v hv, hsv]; rfl) h9
        omega
      · have := h8.lt
        dsimp only at this hq
        omega
  · have hD1' := xws_D.mp hD1
    have hmix : ∀ u v, u < N1 → N1 ≤ v → v < N2 → (sh1 w' u).isSome = true → (sh2 w v).isSome = true → a' u = a v → False := by
      intro u v hu hv1 hv2 hsu hsv he
      obtain ⟨ev, hev⟩ := Option.isSome_iff_exists.mp hsv
      have h8 := (xws_P.mp hP v ev hv2 hev).lt
      dsimp only at h8
      rcases xws_in (hD1'.2 u hu hsu) with ⟨v2, e1, hv3, hsv2, h9⟩ | hq
      · have := hDold.1 v2 v (by omega) hv2 (by rw [hf1 w v2 hv3, hsv2]; rfl) hsv (by rw [← h9, he])
        omega
      · omega
    refine xws_D.mpr ⟨fun u v hu hv hsu hsv he => ?_, fun u hu hsu => ?_⟩
    · rcases Nat.lt_or_ge u N1 with h6 | h6 <;> rcases Nat.lt_or_ge v N1 with h7 | h7
      · rw [hf1 w' u h6] at hsu
        rw [hf1 w' v h7] at hsv
        rw [(hm2 a' u).1 h6, (hm2 a' v).1 h7] at he
        exact hD1'.1 u v h6 h7 hsu hsv he
      · rw [hf1 w' u h6] at hsu
        rw [hf2 w' w v h7] at hsv
        rw [(hm2 a' u).1 h6, (hm2 a' v).2 h7 hv] at he
        exact (hmix u v h6 h7 hv hsu hsv he).elim
      · rw [hf2 w' w u h6] at hsu
        rw [hf1 w' v h7] at hsv
        rw [(hm2 a' u).2 h6 hu, (hm2 a' v).1 h7] at he
        exact (hmix v u h7 h6 hu hsv hsu he.symm).elim
      · rw [hf2 w' w u h6] at hsu
        rw [hf2 w' w v h7] at hsv
        rw [(hm2 a' u).2 h6 hu, (hm2 a' v).2 h7 hv] at he
        exact hDold.1 u v hu hv hsu hsv he
    · rcases Nat.lt_or_ge u N1 with h6 | h6
      · rw [hf1 w' u h6] at hsu
        rw [(hm2 a' u).1 h6]
        exact hFq _ (hD1'.2 u h6 hsu)
      · rw [hf2 w' w u h6] at hsu
        rw [(hm2 a' u).2 h6 hu]
        exact hDold.2 u hu hsu
  · refine ⟨fun u ci codes hu j c hc => ?_, fun u k n l hu j hj => ?_⟩
    · rcases Nat.lt_or_ge u N1 with h6 | h6
      · rw [hf1 w' u h6] at hu
        rw [(hm1 σ' u).1 h6]; exact k5.1 u ci codes hu j c hc
      · have h7 : u < N2 := Nat.not_le.mp (fun h => by rw [hfin w' u h] at hu; cases hu)
        rw [hf2 w' w u h6] at hu
        rw [(hm1 σ' u).2 h6 h7]; exact hσ.1 u ci codes hu j c hc
    · rcases Nat.lt_or_ge u N1 with h6 | h6
      · rw [hf1 w' u h6] at hu
        rw [(hm1 σ' u).1 h6]; exact k5.2 u k n l hu j hj
      · have h7 : u < N2 := Nat.not_le.mp (fun h => by rw [hfin w' u h] at hu; cases hu)
        rw [hf2 w' w u h6] at hu
        rw [(hm1 σ' u).2 h6 h7]; exact hσ.2 u k n l hu j hj
/-- values stay the same -/
theorem gvals {N1 N2 : Nat} {sh1 : (Nat → Bool) → xH} {w : Nat → Bool} {a' : Nat → Nat} {m1 : xS → xS} {m2 : (Nat → Nat) → Nat → Nat} {m3 : (Nat → Nat → Option Nat) → Nat → Nat → Option Nat} (hfin : xfin N1 (sh1 w)) (hm : gMg N1 N2 σ a ρ m1 m2 m3) (k6 : ∀ t, (sh1 w t).isSome = true → a' t = a t) : ∀ v : xV, (∀ u, v = xvr u → (N1 ≤ u ∧ u < N2) ∨ (sh1 w u).isSome = true) → xv (m2 a') v = xv a v := by
  have hin : ∀ u, ((N1 ≤ u ∧ u < N2) ∨ (sh1 w u).isSome = true) → m2 a' u = a u := by
    intro u hu
    rcases hu with hu | hu
    · exact (hm.2.1 a' u).2 hu.1 hu.2
    · have hu2 : u < N1 := Nat.not_le.mp (fun h => by rw [hfin u h] at hu; cases hu)
      rw [(hm.2.1 a' u).1 hu2]; exact k6 u hu
  intro v hv
  match v, hv with
  | .inl _, _ => rfl
  | .inr (.inl _), _ => rfl
  | .inr (.inr (.inl u)), hv => simp only [xv]; rw [hin u (hv u rfl)]
  | .inr (.inr (.inr ())), _ => rfl
theorem glocs {N1 N2 : Nat} {sh1 : (Nat → Bool) → xH} {w : Nat → Bool} {a' : Nat → Nat} {m2 : (Nat → Nat) → Nat → Nat} {ls : Array Slot} (hv : ∀ v : xV, (∀ u, v = xvr u → (N1 ≤ u ∧ u < N2) ∨ (sh1 w u).isSome = true) → xv (m2 a') v = xv a v) (hLp : ∀ u, xvr u ∈ L → (N1 ≤ u ∧ u < N2) ∨ (sh1 w u).isSome = true) (hl : lv_has ls nL (xlv a L)) : lv_has ls nL (xlv (m2 a') L) := by
  refine ⟨hl.1, hl.2.1, fun ⟨i, v⟩ hq => hl.2.2 (i, v) ?_⟩
  obtain ⟨v2, q1, q2, q3⟩ := xlv_mem hq
  have q1 : L[i]? = some v2 := q1
  have q3 : v = xv (m2 a') v2 := q3
  rw [q3, hv v2 (fun u hu => hLp u (hu ▸ List.mem_of_getElem? q1))]
  exact xlv_in (a := a) q1 q2
theorem xst1_u {i : Nat} {x : Value} {ls : Array Slot} (hnl : ∀ (j : Nat) (z : Int), L[j]? ≠ some (xvl z)) (h : lv_has ls nL ((i, x) :: (xlv a L).filter (fun q => !(q.1 == i) && !(q.1 + 1 == i && q.2.category == 2)))) : lv_has ls nL (xlv a (xst1 L i xvu)) := by
  have hcl : xcl L i = L := by
    cases i with
    | zero => rfl
    | succ j =>
      unfold xcl
      dsimp only
      split
      · rename_i z hz; exact absurd hz (hnl j z)
      · rfl
  refine ⟨h.1, h.2.1, fun q hq => h.2.2 q (List.mem_cons_of_mem _ ?_)⟩
  obtain ⟨w, q1, q2, q3⟩ := xlv_mem hq
  unfold xst1 at q1
  rw [hcl, List.getElem?_set] at q1
  by_cases hi : i = q.1
  · rw [if_pos hi] at q1
    split at q1
    · cases q1; exact absurd rfl q2
    · cases q1
  · rw [if_neg hi] at q1
    have hm := xlv_in (a := a) q1 q2
    obtain ⟨qi, qv⟩ := q
    dsimp only at q1 q3 hi hm ⊢
    rw [q3]
    refine List.mem_filter.mpr ⟨hm, ?_⟩
    have hcat : (xv a w).category ≠ 2 := by
      match w, q1 with
      | .inl _, _ => exact (show (1 : Nat) ≠ 2 from by decide)
      | .inr (.inl z), q1 => exact absurd q1 (hnl qi z)
      | .inr (.inr (.inl _)), _ => exact (show (1 : Nat) ≠ 2 from by decide)
      | .inr (.inr (.inr ())), _ => exact (show (1 : Nat) ≠ 2 from by decide)
    simp [hcat, Ne.symm hi]
/-- a call of a method of V(w) that may throw, caught at once -/
theorem vxs_call {N2 : Nat} {sh2 : (Nat → Bool) → xH} {ad : Nat → Nat} {y : MethodName} {cy : ByteArray} {nLy dy i n ci t hi ht ec : Nat} {rety : Option FieldType} {mc ms : (Nat → Bool) → Nat} {w : Nat → Bool} {E : vEx} {vwq : vw_C} {codes : List Nat} {as' rest : List xV} {K : Option xV → (Nat → Bool) → xS → Prop} {Kx : (Nat → Bool) → xS → Prop} {m1 : xS → xS} {m2 : (Nat → Nat) → Nat → Nat} {m3 : (Nat → Nat → Option Nat) → Nat → Nat → Option Nat} (hm : gMg 194 N2 σ a ρ m1 m2 m3)
    (hC : XC p R s m args meth c D yv A own cc nL d ret) (hYY : vY ad A s s.heap) (hM : vxMt l D yv ad y cy nLy rety dy mc ms E) (hd : dy + 1 ≤ d) (hF : gFam 194 N2 vsh sh2) (h1 : Cond.methodLink own i y ∈ gw) (h2 : Cond.instanceMethod y ∈ gw) (h3 : Cond.selects y.cls y y ∈ gw) (h4 : Cond.initialized y.cls ∈ gw) (h5 : Cond.code y cy nLy rety ∈ gw)
    (hc : vwCl[ci]? = some vwq) (hq : vwq.1 = y.cls) (hdd : y.cls ≠ "java/lang/invoke/MethodHandle" ∧ y.cls ≠ "java/lang/invoke/VarHandle" ∧ (parseMethodDescriptor y.desc).map (fun d => d.parameters.length) = some n) (hL : nLy ≤ 21) (hk1 : kz.1 + mc w ≤ R.cells) (hk2 : kz.2 + ms w ≤ R.slots) (hdec : decode cc pc = .ok (.invokevirtual i, 3)) (hs : vsh w t = some (0, ci, codes)) (hlen : as'.length = n) (hrest : rest.length ≤ 4) (hLK : LK a ρ w)
    (hLp : ∀ u, xvr u ∈ L → (194 ≤ u ∧ u < N2) ∨ (vsh w u).isSome = true) (hrp : ∀ u, xvr u ∈ rest → (194 ≤ u ∧ u < N2) ∨ (vsh w u).isSome = true)
    (hE : E w (xvr t :: as') σ K Kx) (htab : c.exceptionTable.toList = [⟨0, ec, ht, 13⟩]) (hcov : covers ⟨0, ec, ht, 13⟩ pc = true) (hlk : Cond.classLink own 13 px_nse ∈ gw) (hast : decode cc ht = .ok (.astore hi, 2)) (hhi : hi < L.length) (hnl : ∀ (j : Nat) (z : Int), L[j]? ≠ some (xvl z))
    (hk : ∀ r w' a' ρ' σ', K r w' σ' → LK a' ρ' w' → (∀ t, (vsh w t).isSome = true → a' t = a t) → XA (kz.1 + mc w, kz.2 + ms w) p l e R s m args below meth c D yv (m2 a') (m3 ρ') N2 (sh2 w') A nL Qm (pc + 3) L (r.toList ++ rest) (m1 σ'))
    (hx : ∀ w' a' ρ' σ', Kx w' σ' → LK a' ρ' w' → (∀ t, (vsh w t).isSome = true → a' t = a t) → XA (kz.1 + mc w, kz.2 + ms w) p l e R s m args below meth c D yv (m2 a') (m3 ρ') N2 (sh2 w') A nL Qm (ht + 2) (xst1 L hi xvu) [] (m1 σ')) : XA kz p l e R s m args below meth c D yv a ρ N2 (sh2 w) A nL Qm pc L ((xvr t :: as').reverse ++ rest) σ := by
  obtain ⟨hx1, hb1, hml, hown, hg, hK, hA, hR1, hR2, hr, hlocks⟩ := hC
  intro hL1 hst hσ hln H locs ls hP hD hS hl
  have has : ∀ v ∈ xvr t :: as', xg v := fun v hv => hst v (List.mem_append_left _ (List.mem_reverse.mpr hv))
  have hre : ∀ v ∈ rest, xg v := fun v hv => hst v (List.mem_append_right _ hv)
  have hMet := hM a ρ w H.size (xvr t :: as') σ K Kx hE hLK (gsub_g hF hσ) has
  have hPs := gsub_P hF hP
  have hDs := gsub_D (σ' := σ) hF hD
  have hFq : ∀ q, va_A (xws a yv ρ 194 (vsh w) σ) H.size q → A q := by
    intro q hq
    rcases xws_in hq with ⟨u, e1, hu, hsu, rfl⟩ | hq
    · exact (xws_D.mp hDs).2 u hu (by rw [hsu]; rfl)
    · exact hA q (Nat.le_trans hS.1 hq)
  have hlst : ((xvr t :: as').reverse ++ rest).map (xv a) = (as'.map (xv a)).reverse ++ .ref (a t) :: rest.map (xv a) := by
    simp [xv]
  rw [hlst]
  have hlen2 : (as'.map (xv a)).length = n := by rw [List.length_map]; exact hlen
  have hrun := vx_runV (y := y) (As := as'.map (xv a)) (rest := rest.map (xv a)) (b := a t) (C := y.cls) (n := n) (g := F0 m pc ls ((as'.map (xv a)).reverse ++ .ref (a t) :: rest.map (xv a))) (H := H) (locs := locs) (cells := kz.1) (slots := kz.2) (below := below) (meth := meth) (e := e) (R := R) (p := p) (S := ⟨hx1, hb1, hml, hown, hg⟩) hMet
    (cwV n hg (px_gV h1 h2 h3 h4 h5) rfl rfl rfl ⟨rfl, hdd⟩ ⟨Nat.le_trans hd hR1, by show 8 + (nLy + 11) + 40 * dy ≤ R.locals; omega⟩)
    ⟨v_blindY, hq ▸ xclass (vfi w) hK hPs hc hs, fun U hU hW => ⟨rfl, ⟨by rw [hU], by rw [hU]; exact hPs, va_K.moved hW.alike hK, hDs.weaken (fun _ _ _ _ => trivial)⟩, hYY.call hS hFq hU hW⟩⟩ rfl hlen2 hl.1 rfl (lv_room (by have := xcat a rest; omega)) hdec ⟨hk1, hk2⟩
  intro T hT X
  rcases hrun T hT X with ⟨v, st₀, t9, T', L9, h0, X', hL9, e1, e2, ⟨⟨r, w', a', ρ', σ', hv, k1, k2, k3, k4, k5, k6, hP1, hD1⟩, hF9⟩, stp⟩ | ⟨q, st₀, t9, T', L9, E9, ce, h0, X', hL9, e1, e2, ⟨hE9, ⟨w', a', ρ', σ', k1, k4, k5, k6, hP1, hD1⟩, hF9⟩, hce, hcv, hcl, stp⟩
  · cases hv
    obtain ⟨z1, z2, z3⟩ := vx_keep h0 e1 hS (fun q _ h => hFq q h) hFq hL9 hF9
    have hg9 := gmerge hF hm hP hD hσ (by rw [← e1] at hP1; exact hP1) hD1 k5 hFq z2
    have hval := gvals (vfi w) hm k6
    have h9 := hk r w' a' ρ' σ' k1 k4 k6 hL1 (xg_app k2 hre) hg9.2.2 hln T'.heap (locs ++ L9) ls hg9.1 hg9.2.1 z3 (glocs hval hLp hl)
    rw [xmap_o] at h9
    have e3 : r.map (xv (m2 a')) = r.map (xv a') := by
      match r, k3 with
      | none, _ => rfl
      | some (.inl _), _ => rfl
      | some (.inr (.inl _)), _ => rfl
      | some (.inr (.inr (.inl u))), k3 => simp only [Option.map_some, xv]; rw [(hm.2.1 a' u).1 (k3 u rfl)]
      | some (.inr (.inr (.inr ()))), _ => rfl
    have e4 : rest.map (xv (m2 a')) = rest.map (xv a) := List.map_congr_left (fun v hv => hval v (fun u hu => hrp u (hu ▸ hv)))
    rw [e3, e4] at h9
    obtain ⟨t2, a1, b1⟩ := h9 T' rfl X'
    exact ⟨t2, stp t2 a1, b1⟩
  · subst hE9
    obtain ⟨z1, z2, z3⟩ := vx_keep h0 e1 hS (fun q _ h => hFq q h) hFq hL9 hF9
    have hg9 := gmerge hF hm hP hD hσ (by rw [← e1] at hP1; exact hP1) hD1 k5 hFq z2
    have hval := gvals (vfi w) hm k6
    have hW : vx_W p l e R s m args below meth c T'.heap (locs ++ L9) (kz.1 + mc w) (kz.2 + ms w) Qm (F0 m pc ls (rest.map (xv a))) q := by
      refine vx_catch hown [] ⟨0, ec, ht, 13⟩ [] htab (fun z h => by cases h) hcov (show (13 : Nat) ≠ 0 from by decide) (hg _ hlk) (va_Nw.use rfl hYY.2.2.2.2.2.2.2) (by rw [e1]; exact hce) hcv hcl ?_
      refine W.eq (g2 := F0 m ht ls [.ref q]) rfl ?_
      refine lv_astore (lv := xlv (m2 a') L) hx1 hb1 hast (glocs hval hLp hl) (show hi < nL from hln ▸ hhi) rfl (fun ls2 hl2 => ?_)
      · exact hx w' a' ρ' σ' k1 k4 k6 (xst1_g hL1 trivial) (fun v h => by cases h) hg9.2.2 (by rw [xst1_n]; exact hln) T'.heap (locs ++ L9) ls2 hg9.1 hg9.2.1 z3 (xst1_u hnl hl2)
    obtain ⟨t2, a1, b1⟩ := hW T' rfl X'
    exact ⟨t2, stp.trans a1, b1⟩
end XP
