/-! The law's world: V(w), out (194), the script (195, not looked at), the reference (from 196 on). -/
def wlL : List (Nat × Nat × List Nat) := [(0, 11, [0, 201, 0, 0, 0, 0, 202, 203, 204, 205, 206, 0, 0, 0, 0, 0, 0, 1, 0, 0, 2, 2, 2, 207, 2, 208, 209, 0, 210, 211, 212, 213, 214, 0, 0, 0, 215, 0, 216, 217, 218, 219, 0, 0, 0, 0, 0, 0, 220, 0, 221, 0, 0, 222, 2, 223, 0, 0, 0, 0, 2, 224, 225, 226, 227]), (1, 940, []), (2, 765, []), (2, 584, []), (2, 135, []), (3, 12, []), (3, 19, []), (2, 8, []), (2, 4640, []), (2, 580, []), (2, 13, []), (2, 6, []), (2, 6, []), (3, 15625, []), (3, 15625, []), (2, 65, []), (2, 156250, []), (2, 400, []), (2, 3, []), (2, 3, []), (2, 6, []), (2, 52, []), (2, 4, []), (2, 45, []), (4, 45, []), (2, 1530, []), (3, 12, []), (4, 2, [])]
abbrev tM : List Nat := [196, 197, 198, 199, 200, 201, 202, 203, 204, 205, 206, 207, 208, 209, 210, 211, 212, 213, 214, 215, 216, 217, 218, 219, 220, 221, 222, 223]
def shLw (w : Nat → Bool) : xH := fun t => if t < 195 then shOu w t else if t < 196 then none else wlL[t - 196]?
theorem shLw_fin (w : Nat → Bool) : xfin 224 (shLw w) := fun t h => by
  unfold shLw
  rw [if_neg (by omega), if_neg (by omega)]
  exact List.getElem?_eq_none (by show 28 ≤ t - 196; omega)
theorem wlL_all : (wlL.all (fun q => q.2.2.all (fun c => decide (c < 4) || (decide (200 ≤ c) && decide (c < 228))))) = true := by decide +kernel
theorem wlL_r {t : Nat} {e : Nat × Nat × List Nat} (h : wlL[t]? = some e) {c : Nat} (hc : c + 4 ∈ e.2.2) : 196 ≤ c ∧ c < 224 := by
  have h2 := List.all_eq_true.mp (List.all_eq_true.mp wlL_all _ (List.mem_of_getElem? h)) _ hc
  simp only [Bool.or_eq_true, Bool.and_eq_true, decide_eq_true_eq] at h2
  omega
theorem shLw_hi {w : Nat → Bool} {t : Nat} {e : Nat × Nat × List Nat} (h1 : 195 ≤ t) (h2 : shLw w t = some e) : wlL[t - 196]? = some e ∧ 196 ≤ t := by
  unfold shLw at h2
  rw [if_neg (by omega)] at h2
  split at h2
  · cases h2
  · exact ⟨h2, by omega⟩
theorem famS : gFam 195 224 shOu shLw := ⟨by decide, shOu_fin, shLw_fin, fun w t h => if_pos h, fun w w' t h => by unfold shLw; rw [if_neg (show ¬ t < 195 by omega), if_neg (show ¬ t < 195 by omega)], fun w t e h c hc => (by
    unfold shOu at h
    split at h
    · have := (vSome h hc).1; omega
    · split at h
      · cases h; cases hc
      · cases h), fun w t e h1 h2 c hc => by have := wlL_r (shLw_hi h1 h2).1 hc; omega⟩
theorem famL : gFam 194 224 vsh shLw := ⟨by decide, vfi, shLw_fin, fun w t h => by unfold shLw; rw [if_pos (by omega)]; exact shOu_lt h, fun w w' t h => (by
    unfold shLw
    by_cases h9 : t < 195
    · rw [if_pos h9, if_pos h9]
      obtain rfl : t = 194 := by omega
      rfl
    · rw [if_neg h9, if_neg h9]), fun w t e h c hc => (vSome h hc).1, fun w t e h1 h2 c hc => by
    by_cases h9 : t < 195
    · obtain rfl : t = 194 := by omega
      cases h2; cases hc
    · have := wlL_r (shLw_hi (by omega) h2).1 hc; omega⟩
theorem vfamL : vFam 224 shLw := ⟨by decide, shLw_fin, famL.2.2.2.1, famL.2.2.2.2.1, famL.2.2.2.2.2.2⟩
theorem subM (w : Nat → Bool) : xSub tM 28 shM (shLw w) := by
  have hb : (List.range 28).all (fun i => decide (wlL[i]? = (wlM[i]?).map (xre tM)) && decide (tM.getD i 0 = 196 + i)) = true := by decide +kernel
  refine ⟨rfl, by decide +kernel, fun i hi => ?_, fun i e he => ?_⟩
  · show (wlM[i]?).isSome = true
    rw [List.getElem?_eq_getElem (show i < wlM.length from hi)]; rfl
  · have hi : i < 28 := Nat.not_le.mp (fun h => by rw [fiM i h] at he; cases he)
    have h1 := List.all_eq_true.mp hb i (List.mem_range.mpr hi)
    simp only [Bool.and_eq_true, decide_eq_true_eq] at h1
    refine ⟨hi, ?_⟩
    rw [h1.2]
    unfold shLw
    rw [if_neg (by omega), if_neg (by omega), show 196 + i - 196 = i by omega, h1.1]
    show (wlM[i]?).map (xre tM) = some (xre tM e)
    rw [show wlM[i]? = some e from he]; rfl
theorem shLw_196 (w : Nat → Bool) : ∃ codes, shLw w 196 = some (0, 11, codes) := ⟨_, rfl⟩
section XP
variable {p : Program} {l : Launch} {e : Env} {R : Room} {s : State} {m : MethodId} {args : Array Value} {below : List Frame} {meth : Method} {c : Code}
variable {cc : ByteArray} {nL d : Nat} {own : String} {D : va_G} {yv : Nat → ClassId} {a : Nat → Nat} {ρ : Nat → Nat → Option Nat} {A : Nat → Prop} {kz : Nat × Nat} {Qm : State → Prop} {ret : Option FieldType} {pc : Nat} {L st : List xV} {σ : xS}
/-- a static call of the law's own -/
theorem gs_callS {ad : Nat → Nat} {y : MethodName} {cy : ByteArray} {nLy dy i n : Nat} {rety : Option FieldType} {hh : List (Nat × Nat × Nat × Nat)} {mc ms : (Nat → Bool) → Nat} {w : Nat → Bool} {E : vE} {as rest : List xV} {K : Option xV → (Nat → Bool) → xS → Prop} {m1 : xS → xS} {m2 : (Nat → Nat) → Nat → Nat} {m3 : (Nat → Nat → Option Nat) → Nat → Nat → Option Nat} (hm : gMg 195 224 σ a ρ m1 m2 m3)
    (hC : XC p R s m args meth c D yv A own cc nL d ret) (hYY : vY ad A s s.heap) (hM : lMt l D yv ad y cy nLy rety hh dy mc ms E) (hd : dy + 1 ≤ d) (h1 : Cond.methodLink own i y ∈ gw) (h2 : Cond.static y ∈ gw) (h4 : Cond.initialized y.cls ∈ gw) (h5 : Cond.codeWith y cy nLy rety hh ∈ gw)
    (hdd : y.cls ≠ "java/lang/invoke/MethodHandle" ∧ y.cls ≠ "java/lang/invoke/VarHandle" ∧ (parseMethodDescriptor y.desc).map (fun d => d.parameters.length) = some n) (hL : nLy ≤ 21) (hk1 : kz.1 + mc w ≤ R.cells) (hk2 : kz.2 + ms w ≤ R.slots) (hdec : decode cc pc = .ok (.invokestatic i, 3)) (hlen : as.length = n) (hrest : rest.length ≤ 4) (hLK : LK a ρ w)
    (hLp : ∀ u, xvr u ∈ L → (195 ≤ u ∧ u < 224) ∨ (shOu w u).isSome = true) (hrp : ∀ u, xvr u ∈ rest → (195 ≤ u ∧ u < 224) ∨ (shOu w u).isSome = true)
    (hE : E w as σ K)
    (hk : ∀ r w' a' ρ' σ', K r w' σ' → LK a' ρ' w' → (∀ t, (shOu w t).isSome = true → a' t = a t) → XA (kz.1 + mc w, kz.2 + ms w) p l e R s m args below meth c D yv (m2 a') (m3 ρ') 224 (shLw w') A nL Qm (pc + 3) L (r.toList ++ rest) (m1 σ')) : XA kz p l e R s m args below meth c D yv a ρ 224 (shLw w) A nL Qm pc L (as.reverse ++ rest) σ := by
  obtain ⟨hx1, hb1, hml, hown, hg, hK, hA, hR1, hR2, hr, hlocks⟩ := hC
  intro hL1 hst hσ hln H locs ls hP hD hS hl
  have has : ∀ v ∈ as, xg v := fun v hv => hst v (List.mem_append_left _ (List.mem_reverse.mpr hv))
  have hre : ∀ v ∈ rest, xg v := fun v hv => hst v (List.mem_append_right _ hv)
  have hMet := hM a ρ w H.size as σ K hE hLK (gsub_g famS hσ) has
  have hPs := gsub_P famS hP
  have hDs := gsub_D (σ' := σ) famS hD
  have hFq : ∀ q, va_A (xws a yv ρ 195 (shOu w) σ) H.size q → A q := by
    intro q hq
    rcases xws_in hq with ⟨u, e1, hu, hsu, rfl⟩ | hq
    · exact (xws_D.mp hDs).2 u hu (by rw [hsu]; rfl)
    · exact hA q (Nat.le_trans hS.1 hq)
  have hlst : (as.reverse ++ rest).map (xv a) = (as.map (xv a)).reverse ++ rest.map (xv a) := by simp
  rw [hlst]
  have hlen2 : (as.map (xv a)).length = n := by rw [List.length_map]; exact hlen
  have hrun := vx_runSW (y := y) (As := as.map (xv a)) (rest := rest.map (xv a)) (n := n) (g := F0 m pc ls ((as.map (xv a)).reverse ++ rest.map (xv a))) (H := H) (locs := locs) (cells := kz.1) (slots := kz.2) (below := below) (meth := meth) (e := e) (R := R) (p := p) (S := ⟨hx1, hb1, hml, hown, hg⟩) hMet
    (vx_cwSW n hg (px_gSW h1 h2 h4 h5) rfl rfl rfl hdd ⟨Nat.le_trans hd hR1, by show 8 + (nLy + 11) + 40 * dy ≤ R.locals; omega⟩)
    ⟨v_blindY, fun U hU hW => ⟨rfl, ⟨by rw [hU], by rw [hU]; exact hPs, va_K.moved hW.alike hK, hDs.weaken (fun _ _ _ _ => trivial)⟩, hYY.call hS hFq hU hW⟩⟩ rfl hlen2 hl.1 rfl (lv_room (by have := xcat a rest; omega)) hdec ⟨hk1, hk2⟩
  intro T hT X
  obtain ⟨v, st₀, t9, T', L9, h0, X', hL9, e1, e2, ⟨⟨r, w', a', ρ', σ', hv, k1, k2, k3, k4, k5, k6, hP1, hD1⟩, hF9⟩, stp⟩ := hrun T hT X
  cases hv
  obtain ⟨z1, z2, z3⟩ := vx_keep h0 e1 hS (fun q _ h => hFq q h) hFq hL9 hF9
  have hg9 := gmerge famS hm hP hD hσ (by rw [← e1] at hP1; exact hP1) hD1 k5 hFq z2
  have hval := gvals (shOu_fin w) hm k6
  have h9 := hk r w' a' ρ' σ' k1 k4 k6 hL1 (xg_app k2 hre) hg9.2.2 hln T'.heap (locs ++ L9) ls hg9.1 hg9.2.1 z3 (glocs hval hLp hl)
  rw [xmap_o] at h9
  have e3 : r.map (xv (m2 a')) = r.map (xv a') := by
    match r, k3 with
    | none, _ => rfl
    | some (.inl _), _ => rfl
    | some (.inr (.inl _)), _ => rfl
    | some (.inr (.inr (.inl u))), k3 => exact absurd rfl (k3 u)
    | some (.inr (.inr (.inr ()))), _ => rfl
  have e4 : rest.map (xv (m2 a')) = rest.map (xv a) := List.map_congr_left (fun v hv => hval v (fun u hu => hrp u (hu ▸ hv)))
  rw [e3, e4] at h9
  obtain ⟨t2, a1, b1⟩ := h9 T' rfl X'
  exact ⟨t2, stp t2 a1, b1⟩
end XP
/-- the kept images: the same places on both sides -/
def KPx (w : Nat → Bool) (f : Nat → Int) : Prop := ∀ k : Nat, k < 2 → (¬ f k = 0 ↔ w (9 + k) = true)
/-- the tapes are alike, the words stand on both sides -/
def TPL (σ : xS) : Prop := TPx (σ 1) (σ 197) (σ 0 1) ∧ WDS (σ 31) ∧ ∀ j : Nat, j < 19 → σ 202 j = R8.getD j 0
theorem TPL.nx {σ σ2 ς : xS} (h : TPL σ) (e1 : σ2 1 = σ 1) (e31 : σ2 31 = σ 31) (g1 : ς 1 = σ 197) (g6 : ς 6 = σ 202) (hm : σ2 0 1 ≤ σ 0 1) : TPx (σ2 1) (ς 1) (σ2 0 1) ∧ WDS (σ2 31) ∧ ∀ j : Nat, j < 19 → ς 6 j = R8.getD j 0 := by
  rw [e1, e31, g1, g6]
  exact ⟨h.1.le hm, h.2⟩
/-- between two calls of the law -/
def LI (a : Nat → Nat) (ρ : Nat → Nat → Option Nat) (w : Nat → Bool) (σ : xS) (b : Nat) : Prop := LK a ρ w ∧ JW w σ ∧ RI (xsel tM σ) ∧ (σ 0 1 = σ 196 2 ∧ KPx w (σ 223) ∧ TPL σ) ∧ a 195 = b
def LKz (n : Nat) (w : Nat → Bool) (kz : Nat × Nat) : Prop := kz.1 ≤ 100 + 20 * n + (if w 13 = true then 8 else 0) ∧ kz.2 ≤ 210000 + 2600 * n + (if w 13 = true then 15684 else 0)
abbrev lL (i : Int) : List xV := [xvr 195, xvr 0, xvr 196, xvr 194, xvi i, xvu, xvu, xvu]
/-- what is looked up once for the law -/
def LC (p : Program) (l : Launch) (s : State) (m : MethodId) (meth : Method) (c : Code) (D : va_G) (yv : Nat → ClassId) (A : Nat → Prop) (b Lx : Nat) (xs : Nat → Int32) (ad : Nat → Nat) : Prop := XC p room_1 s m #[Value.ref b] meth c D yv A RL cL_law 8 48 ret ∧ vY ad A s s.heap ∧ va_X b Lx xs s s.heap ∧ b < s.heap.size ∧ ¬ A b ∧ l.stackTraces = false ∧ Lx ≤ 3072
theorem lLp {w : Nat → Bool} {L : List xV} (h : L.all (fun v => match v with
  | .inr (.inr (.inl u)) => decide (u < 47 ∨ (194 ≤ u ∧ u < 224))
  | _ => true) = true) : ∀ u, xvr u ∈ L → (194 ≤ u ∧ u < 224) ∨ (vsh w u).isSome = true := by
  intro u hu
  have h2 : u < 47 ∨ (194 ≤ u ∧ u < 224) := of_decide_eq_true (List.all_eq_true.mp h _ hu)
  rcases h2 with h2 | h2
  · have h3 : blkV u = 0 := by unfold blkV; rw [if_pos h2]
    obtain ⟨e2, he2⟩ : ∃ e2, wlVF0[u]? = some e2 := ⟨_, List.getElem?_eq_getElem (by rw [vLen]; omega)⟩
    rw [show vsh w u = some e2 from shW_of he2 (Or.inl h3)]
    exact Or.inr rfl
  · exact Or.inl h2
theorem lSp {w : Nat → Bool} {L : List xV} (h : L.all (fun v => match v with
  | .inr (.inr (.inl u)) => decide (u < 47 ∨ (194 ≤ u ∧ u < 224))
  | _ => true) = true) : ∀ u, xvr u ∈ L → (195 ≤ u ∧ u < 224) ∨ (shOu w u).isSome = true := by
  intro u hu
  have h2 : u < 47 ∨ (194 ≤ u ∧ u < 224) := of_decide_eq_true (List.all_eq_true.mp h _ hu)
  by_cases h9 : u = 194
  · subst h9; exact Or.inr rfl
  · rcases h2 with h2 | h2
    · have h3 : blkV u = 0 := by unfold blkV; rw [if_pos h2]
      obtain ⟨e2, he2⟩ : ∃ e2, wlVF0[u]? = some e2 := ⟨_, List.getElem?_eq_getElem (by rw [vLen]; omega)⟩
      rw [shOu_lt (by omega), show vsh w u = some e2 from shW_of he2 (Or.inl h3)]
      exact Or.inr rfl
    · exact Or.inl (by omega)
/-- behind the class's call -/
theorem LI.cls {a a1 : Nat → Nat} {ρ ρ1 : Nat → Nat → Option Nat} {w w1 : Nat → Bool} {σ σ1 : xS} {b N : Nat} (h : LI a ρ w σ b) (hN : N = 194 ∨ N = 195) (hLK : LK a1 ρ1 w1) (hJ : JW w1 σ1) : LK (mgA N a a1) (mgR N ρ ρ1) w1 ∧ JW w1 (mgS N σ σ1) ∧ RI (xsel tM (mgS N σ σ1)) ∧ mgS N σ σ1 196 2 = σ 196 2 ∧ mgA N a a1 195 = b ∧ mgS N σ σ1 0 1 = σ1 0 1 ∧ mgS N σ σ1 223 = σ 223 ∧ mgS N σ σ1 1 = σ1 1 ∧ mgS N σ σ1 31 = σ1 31 ∧ mgS N σ σ1 197 = σ 197 ∧ mgS N σ σ1 202 = σ 202 := by
  have hN1 : 194 ≤ N := by omega
  have e : ∀ t, 196 ≤ t → mgS N σ σ1 t = σ t := fun t ht => if_neg (by omega)
  refine ⟨mg_LK hN1 hLK, jw_mg hN1 hJ, h.2.2.1.eq (e 198 (by omega)) (e 204 (by omega)) (e 221 (by omega)) (e 223 (by omega)) (congrFun (e 196 (by omega)) 2) (congrFun (e 196 (by omega)) 27) (congrFun (e 196 (by omega)) 37), congrFun (e 196 (by omega)) 2, (if_neg (by omega)).trans h.2.2.2.2, ?_, e 223 (by omega), if_pos (by omega), if_pos (by omega), e 197 (by omega), e 202 (by omega)⟩
  show (if 0 < N then σ1 0 else σ 0) 1 = σ1 0 1
  rw [if_pos (by omega)]
/-- behind the reference's call -/
theorem LI.ref {a : Nat → Nat} {ρ : Nat → Nat → Option Nat} {w : Nat → Bool} {σ ς : xS} {b : Nat} (hLK : LK a ρ w) (hJ : JW w σ) (hR : RI ς) (hl : σ 0 1 = ς 0 2) (hkp : KPx w (ς 27)) (hT : TPx (σ 1) (ς 1) (σ 0 1) ∧ WDS (σ 31) ∧ ∀ j : Nat, j < 19 → ς 6 j = R8.getD j 0) (ha : a 195 = b) : LI a ρ w (xbk tM σ ς) b := by
  have e : ∀ t, t < 194 → xbk tM σ ς t = σ t := fun t ht => by
    have hx : xix tM t = none := by
      cases hi : xix tM t with
      | none => rfl
      | some i =>
        have hm := List.mem_of_getElem? (xix_e hi)
        simp only [tM, List.mem_cons, List.not_mem_nil, or_false] at hm
        omega
    unfold xbk
    rw [hx]
  refine ⟨hLK, hJ.hi (fun t ht => e t (by omega)), hR.eq rfl rfl rfl rfl rfl rfl rfl, ⟨?_, hkp, ?_⟩, ha⟩
  · rw [e 0 (by omega)]
    exact hl
  · unfold TPL
    rw [e 1 (by omega), e 0 (by omega), e 31 (by omega)]
    exact hT
