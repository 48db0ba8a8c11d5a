/-! The law's start: two new objects and the row that the last answer goes to, put together as the law's world. -/
theorem fs_l {w1 w2 : va_W} {i : Nat} {p : Nat × va_E} (h : w1[i]? = some p) : (w1 ++ w2)[i]? = some p := by
  rw [List.getElem?_append_left (List.getElem?_eq_some_iff.mp h).1]; exact h
theorem fs_r {w1 w2 : va_W} {i : Nat} {p : Nat × va_E} (h : w2[i]? = some p) : (w1 ++ w2)[w1.length + i]? = some p := by
  rw [List.getElem?_append_right (by omega), show w1.length + i - w1.length = i by omega]; exact h
theorem fs_D {A : Nat → Prop} {w1 w2 : va_W} (h : va_D A (w1 ++ w2)) : va_D A w1 ∧ va_D A w2 ∧ ∀ (i j : Nat) (p q : Nat × va_E), w1[i]? = some p → w2[j]? = some q → p.1 ≠ q.1 := by
  refine ⟨⟨fun i j p q hi hj e => h.1 i j p q (fs_l hi) (fs_l hj) e, fun k q hk => h.2 k q (fs_l hk)⟩, ⟨fun i j p q hi hj e => ?_, fun k q hk => h.2 _ q (fs_r hk)⟩, fun i j p q hi hj e => ?_⟩
  · have := h.1 _ _ p q (fs_r hi) (fs_r hj) e
    omega
  · have h1 := h.1 _ _ p q (fs_l hi) (fs_r hj) e
    have h2 := (List.getElem?_eq_some_iff.mp hi).1
    omega
theorem fs_P {D : va_G} {w1 w2 : va_W} {H : Heap} (h : va_P D vwCl (w1 ++ w2) H) : va_P D vwCl w1 H ∧ va_P D vwCl w2 H := ⟨fun k q hk => h k q (fs_l hk), fun k q hk => h _ q (fs_r hk)⟩
theorem fs_last (w1 : va_W) (x : Nat × va_E) : [w1.length].map (fun i => (w1 ++ [x])[i]?) = [x].map some := by simp
theorem fs_lastf (w1 : va_W) (x : Nat × va_E) : [w1.length].filterMap (fun i => (w1 ++ [x])[i]?) = [x] := by simp
theorem fs_range (w1 : va_W) (x : Nat × va_E) : (List.range w1.length).map (fun i => (w1 ++ [x])[i]?) = w1.map some := by
  refine List.ext_getElem? (fun k => ?_)
  rw [List.getElem?_map, List.getElem?_map]
  by_cases hk : k < w1.length
  · rw [List.getElem?_range hk, List.getElem?_eq_getElem hk]
    show some ((w1 ++ [x])[k]?) = _
    rw [fs_l (List.getElem?_eq_getElem hk)]; rfl
  · rw [List.getElem?_eq_none (by simp; omega), List.getElem?_eq_none (by omega)]; rfl
theorem fs_nd0 : ∀ l : List Nat, l.Nodup → va_nd l = true := by
  intro l
  induction l with
  | nil => intro _; rfl
  | cons a l ih =>
    intro h
    have h2 := List.nodup_cons.mp h
    simp only [va_nd, Bool.and_eq_true, decide_eq_true_eq]
    exact ⟨h2.1, ih h2.2⟩
theorem fs_nd (n : Nat) : va_nd (List.range n) = true := fs_nd0 _ List.nodup_range
theorem fs_in {a : Nat → Nat} {y : Nat → ClassId} {ρ : Nat → Nat → Option Nat} {N : Nat} {sh : xH} {σ : xS} (hN : xfin N sh) {t : Nat} {e : Nat × Nat × List Nat} (h : sh t = some e) : ∃ (k : Nat) (x : va_E), (xws a y ρ N sh σ)[k]? = some (a t, x) := by
  obtain ⟨q, hq⟩ := xtags_in hN h
  exact ⟨q, _, xws_at hq h⟩
/-- the law's world at its start: addresses, references, numbers -/
def fsA (q9 b : Nat) (a1 a2 : Nat → Nat) : Nat → Nat := fun t => if t < 194 then a1 t else if t = 194 then q9 else if t = 195 then b else a2 (t - 196)
def fsR (ρ1 : Nat → Nat → Option Nat) : Nat → Nat → Option Nat := fun t => if t < 194 then ρ1 t else fun _ => none
def fsS (σ1 σ2 : xS) : xS := fun t => if t < 194 then σ1 t else if t < 196 then fun _ => 0 else σ2 (t - 196)
theorem fsA_1 {q9 b : Nat} {a1 a2 : Nat → Nat} {t : Nat} (h : t < 194) : fsA q9 b a1 a2 t = a1 t := if_pos h
theorem fsA_2 {q9 b : Nat} {a1 a2 : Nat → Nat} {i : Nat} : fsA q9 b a1 a2 (196 + i) = a2 i := by
  unfold fsA
  rw [if_neg (by omega), if_neg (by omega), if_neg (by omega), show 196 + i - 196 = i by omega]
theorem fsR_1 {ρ1 : Nat → Nat → Option Nat} {t : Nat} (h : t < 194) : fsR ρ1 t = ρ1 t := if_pos h
theorem fsR_2 {ρ1 : Nat → Nat → Option Nat} {t : Nat} (h : 194 ≤ t) : fsR ρ1 t = fun _ => none := if_neg (by omega)
theorem fsS_1 {σ1 σ2 : xS} {t : Nat} (h : t < 194) : fsS σ1 σ2 t = σ1 t := if_pos h
theorem fsS_2 {σ1 σ2 : xS} {i : Nat} : fsS σ1 σ2 (196 + i) = σ2 i := by
  unfold fsS
  rw [if_neg (by omega), if_neg (by omega), show 196 + i - 196 = i by omega]
theorem fsS_3 {σ1 σ2 : xS} : fsS σ1 σ2 194 = fun _ => 0 := by
  unfold fsS
  rw [if_neg (by omega), if_pos (by omega)]
theorem fs_tM {i : Nat} (h : i < 28) : tM.getD i 0 = 196 + i := by
  have hb : (List.range 28).all (fun i => decide (tM.getD i 0 = 196 + i)) = true := by decide +kernel
  exact of_decide_eq_true (List.all_eq_true.mp hb i (List.mem_range.mpr h))
theorem fs_wlM : (wlM.all (fun q => q.2.2.all (fun c => decide (c < 32)))) = true := by decide +kernel
theorem fs_M {i : Nat} {e : Nat × Nat × List Nat} (h : shM i = some e) {c : Nat} (hc : c + 4 ∈ e.2.2) : c < 28 := by
  have h2 := of_decide_eq_true (List.all_eq_true.mp (List.all_eq_true.mp fs_wlM _ (List.mem_of_getElem? h)) _ hc)
  omega
/-- what stands at a tag of the law's world -/
theorem fs_tag {w : Nat → Bool} {t : Nat} {e : Nat × Nat × List Nat} (ht : t < 224) (h : shLw w t = some e) : (t < 194 ∧ vsh w t = some e) ∨ (t = 194 ∧ e = (3, 1, [])) ∨ ∃ i e0, i < 28 ∧ t = 196 + i ∧ shM i = some e0 ∧ e = xre tM e0 := by
  rcases Nat.lt_or_ge t 194 with h1 | h1
  · refine Or.inl ⟨h1, ?_⟩
    unfold shLw at h
    rw [if_pos (by omega), shOu_lt h1] at h
    exact h
  · by_cases h2 : t = 194
    · subst h2
      exact Or.inr (Or.inl ⟨rfl, by cases h; rfl⟩)
    · obtain ⟨h3, h4⟩ := shLw_hi (by omega) h
      obtain ⟨e0, he0⟩ := Option.isSome_iff_exists.mp ((subM w).2.2.1 (t - 196) (by omega))
      obtain ⟨h5, h6⟩ := (subM w).2.2.2 _ _ he0
      rw [fs_tM h5, show 196 + (t - 196) = t by omega, h] at h6
      exact Or.inr (Or.inr ⟨t - 196, e0, h5, by omega, he0, Option.some.inj h6⟩)
section FS
variable {D : va_G} {y : Nat → ClassId} {a1 a2 : Nat → Nat} {ρ1 : Nat → Nat → Option Nat} {σ1 σ2 : xS} {q9 b : Nat} {A : Nat → Prop} {H : Heap} {w : Nat → Bool}
theorem fs_c1 {t : Nat} {e : Nat × Nat × List Nat} (ht : t < 194) (h : vsh w t = some e) : xcell (fsA q9 b a1 a2) y (fsR ρ1) (fsS σ1 σ2) t e = xcell a1 y ρ1 σ1 t e :=
  xcell_cg (fun _ hc => fsA_1 (vSome h hc).1) (fsR_1 ht) (fsS_1 ht)
theorem fs_c2 {i : Nat} {e : Nat × Nat × List Nat} (hi : i < 28) (h : shM i = some e) : xcell (fsA q9 b a1 a2) y (fsR ρ1) (fsS σ1 σ2) (196 + i) (xre tM e) = xcell a2 y (fun _ _ => none) σ2 i e := by
  have h1 := xcell_sub (a := fsA q9 b a1 a2) (y := y) (ρ := fsR ρ1) (σ := fsS σ1 σ2) (σ' := σ2) (τ := tM) (i := i) (by rw [fs_tM hi, fsS_2]) e
  rw [fs_tM hi] at h1
  rw [← h1]
  refine xcell_cg (fun c hc => ?_) ?_ rfl
  · show fsA q9 b a1 a2 (tM.getD c 0) = a2 c
    rw [fs_tM (fs_M h hc), fsA_2]
  · show fsR ρ1 (tM.getD i 0) = fun _ => none
    rw [fs_tM hi]; exact fsR_2 (by omega)
theorem fs_world (hP : va_P D vwCl ((xws a1 y ρ1 194 (vsh w) σ1 ++ xws a2 y (fun _ _ => none) 28 shM σ2) ++ [px_l q9 (y 2) 1 (fun _ => 0)]) H) : va_P D vwCl (xws (fsA q9 b a1 a2) y (fsR ρ1) 224 (shLw w) (fsS σ1 σ2)) H := by
  obtain ⟨hP12, hP9⟩ := fs_P hP
  obtain ⟨hP1, hP2⟩ := fs_P hP12
  refine xws_P.mpr (fun t e ht h => ?_)
  rcases fs_tag ht h with ⟨h1, h2⟩ | ⟨rfl, rfl⟩ | ⟨i, e0, hi, rfl, h2, rfl⟩
  · rw [fs_c1 h1 h2, fsA_1 h1]
    exact xws_P.mp hP1 t e h1 h2
  · have h9 := hP9 0 _ rfl
    have e9 : xcell (fsA q9 b a1 a2) y (fsR ρ1) (fsS σ1 σ2) 194 (3, 1, []) = (px_l q9 (y 2) 1 (fun _ => 0)).2 := by
      unfold xcell xcon
      rw [fsS_3]; rfl
    rw [e9]
    exact h9
  · rw [fs_c2 hi h2, fsA_2]
    exact xws_P.mp hP2 i e0 hi h2
theorem fs_worldD (hD : va_D A ((xws a1 y ρ1 194 (vsh w) σ1 ++ xws a2 y (fun _ _ => none) 28 shM σ2) ++ [px_l q9 (y 2) 1 (fun _ => 0)])) : va_D A (xws (fsA q9 b a1 a2) y (fsR ρ1) 224 (shLw w) (fsS σ1 σ2)) := by
  obtain ⟨hD12, hD9, hx9⟩ := fs_D hD
  obtain ⟨hD1, hD2, hx12⟩ := fs_D hD12
  have h1 := xws_D.mp hD1
  have h2 := xws_D.mp hD2
  have n12 : ∀ t i, (vsh w t).isSome = true → (shM i).isSome = true → a1 t ≠ a2 i := fun t i ht hi => by
    obtain ⟨e1, he1⟩ := Option.isSome_iff_exists.mp ht
    obtain ⟨e2, he2⟩ := Option.isSome_iff_exists.mp hi
    obtain ⟨k, x, hk⟩ := fs_in (a := a1) (y := y) (ρ := ρ1) (σ := σ1) (vfi w) he1
    obtain ⟨k2, x2, hk2⟩ := fs_in (a := a2) (y := y) (ρ := fun _ _ => none) (σ := σ2) fiM he2
    exact hx12 k k2 _ _ hk hk2
  have n19 : ∀ t, (vsh w t).isSome = true → a1 t ≠ q9 := fun t ht => by
    obtain ⟨e1, he1⟩ := Option.isSome_iff_exists.mp ht
    obtain ⟨k, x, hk⟩ := fs_in (a := a1) (y := y) (ρ := ρ1) (σ := σ1) (vfi w) he1
    exact hx9 k 0 _ _ (fs_l hk) rfl
  have n29 : ∀ i, (shM i).isSome = true → a2 i ≠ q9 := fun i hi => by
    obtain ⟨e2, he2⟩ := Option.isSome_iff_exists.mp hi
    obtain ⟨k2, x2, hk2⟩ := fs_in (a := a2) (y := y) (ρ := fun _ _ => none) (σ := σ2) fiM he2
    exact hx9 _ 0 _ _ (fs_r hk2) rfl
  have n9 : fsA q9 b a1 a2 194 = q9 := rfl
  refine xws_D.mpr ⟨fun t u ht hu hst hsu e => ?_, fun t ht hst => ?_⟩
  · obtain ⟨et, het⟩ := Option.isSome_iff_exists.mp hst
    obtain ⟨eu, heu⟩ := Option.isSome_iff_exists.mp hsu
    rcases fs_tag ht het with ⟨t1, t2⟩ | ⟨rfl, rfl⟩ | ⟨i, e0, hi, rfl, t2, rfl⟩
    · rw [fsA_1 t1] at e
      rcases fs_tag hu heu with ⟨u1, u2⟩ | ⟨rfl, rfl⟩ | ⟨j, e1, hj, rfl, u2, rfl⟩
      · rw [fsA_1 u1] at e
        exact h1.1 t u t1 u1 (by rw [t2]; rfl) (by rw [u2]; rfl) e
      · exact absurd (e.trans n9) (n19 t (by rw [t2]; rfl))
      · rw [fsA_2] at e
        exact absurd e (n12 t j (by rw [t2]; rfl) (by rw [u2]; rfl))
    · rcases fs_tag hu heu with ⟨u1, u2⟩ | ⟨rfl, -⟩ | ⟨j, e1, hj, rfl, u2, rfl⟩
      · rw [fsA_1 u1] at e
        exact absurd (e.symm.trans n9) (n19 u (by rw [u2]; rfl))
      · rfl
      · rw [fsA_2] at e
        exact absurd (e.symm.trans n9) (n29 j (by rw [u2]; rfl))
    · rw [fsA_2] at e
      rcases fs_tag hu heu with ⟨u1, u2⟩ | ⟨rfl, rfl⟩ | ⟨j, e1, hj, rfl, u2, rfl⟩
      · rw [fsA_1 u1] at e
        exact absurd e.symm (n12 u i (by rw [u2]; rfl) (by rw [t2]; rfl))
      · exact absurd (e.trans n9) (n29 i (by rw [t2]; rfl))
      · rw [fsA_2] at e
        rw [h2.1 i j hi hj (by rw [t2]; rfl) (by rw [u2]; rfl) e]
  · obtain ⟨et, het⟩ := Option.isSome_iff_exists.mp hst
    rcases fs_tag ht het with ⟨t1, t2⟩ | ⟨rfl, rfl⟩ | ⟨i, e0, hi, rfl, t2, rfl⟩
    · rw [fsA_1 t1]; exact h1.2 t t1 (by rw [t2]; rfl)
    · exact hD9.2 0 _ rfl
    · rw [fsA_2]; exact h2.2 i hi (by rw [t2]; rfl)
theorem fs_g (h1 : xgs (vsh w) σ1) (h2 : xgs shM σ2) : xgs (shLw w) (fsS σ1 σ2) := by
  refine ⟨fun t ci codes hs j c hc => ?_, fun t k n l hs i hi => ?_⟩
  · have ht : t < 224 := Nat.not_le.mp (fun h => by rw [shLw_fin w t h] at hs; cases hs)
    rcases fs_tag ht hs with ⟨t1, t2⟩ | ⟨rfl, h9⟩ | ⟨i, e0, hi, rfl, t2, h9⟩
    · rw [fsS_1 t1]; exact h1.1 t ci codes t2 j c hc
    · cases h9
    · rw [fsS_2]
      match e0, h9 with
      | (0, ci', codes'), h9 =>
        obtain ⟨rfl, rfl⟩ : ci = ci' ∧ codes = codes'.map (fun c => match c with
          | c + 4 => tM.getD c 0 + 4
          | c => c) := by
          have h8 := congrArg Prod.snd h9
          exact ⟨congrArg Prod.fst h8, congrArg Prod.snd h8⟩
        rw [List.getElem?_map] at hc
        cases hc' : codes'[j]? with
        | none => rw [hc'] at hc; cases hc
        | some c' =>
          rw [hc'] at hc
          have h7 := h2.1 i ci codes' t2 j c' hc'
          have h6 := Option.some.inj hc
          match c', h6, h7 with
          | 0, h6, h7 => subst h6; exact h7
          | 1, h6, h7 => subst h6; exact h7
          | 2, h6, h7 => subst h6; exact h7
          | 3, h6, h7 => subst h6; exact h7
          | c' + 4, h6, h7 =>
            have h6 : tM.getD c' 0 + 4 = c := h6
            exact ⟨fun h => by omega, fun h => by omega⟩
      | (k + 1, n, l), h9 => cases h9
  · have ht : t < 224 := Nat.not_le.mp (fun h => by rw [shLw_fin w t h] at hs; cases hs)
    rcases fs_tag ht hs with ⟨t1, t2⟩ | ⟨rfl, h9⟩ | ⟨i0, e0, hi0, rfl, t2, h9⟩
    · rw [fsS_1 t1]; exact h1.2 t k n l t2 i hi
    · rw [fsS_3]; exact ⟨fun _ => (show xR64 0 from ⟨by decide, by decide⟩), fun _ _ => (show xR32 0 from ⟨by decide, by decide⟩)⟩
    · rw [fsS_2]
      match e0, h9 with
      | (0, ci', codes'), h9 => cases h9
      | (k' + 1, n', l'), h9 => cases h9; exact h2.2 i0 k n l t2 i hi
theorem fs_LI (hLK : LK a1 ρ1 w00) (hJ : JW w00 σ1) (hz : σ1 0 1 = 0) (hwd : WDS (σ1 31)) (hR : RI σ2) (hz2 : σ2 0 2 = 0) (hk2 : ∀ k : Nat, σ2 27 k = 0) (hr2 : ∀ j : Nat, j < 19 → σ2 6 j = R8.getD j 0) : LI (fsA q9 b a1 a2) (fsR ρ1) w00 (fsS σ1 σ2) b := by
  refine ⟨⟨fun i hi => ?_, fun k hk => ?_, fun k hk => ?_, ?_, ?_⟩, hJ.hi (fun t ht => fsS_1 (by omega)), hR.eq rfl rfl rfl rfl rfl rfl rfl, ⟨?_, fun k _ => ⟨fun h => absurd (hk2 k) h, fun h => by cases h⟩, fun i hi => ?_, ?_, hr2⟩, rfl⟩
  · rw [fsR_1 (by omega)]; exact hLK.1 i hi
  · rw [fsR_1 (by omega)]; exact hLK.2.1 k hk
  · rw [fsR_1 (by omega)]; exact hLK.2.2.1 k hk
  · rw [fsR_1 (by omega)]; exact hLK.2.2.2.1
  · rw [fsR_1 (by omega)]; exact hLK.2.2.2.2
  · show σ1 0 1 = σ2 0 2
    rw [hz, hz2]
  · have hi : (i : Int) < σ1 0 1 := hi
    omega
  · show WDS (fsS σ1 σ2 31)
    rw [fsS_1 (by omega)]; exact hwd
end FS
theorem q_1_24 : Cond.classLink RL 8 RX10 ∈ gw := gw_1 24 (by decide +kernel) rfl
theorem q_1_26 : Cond.methodLink RL 23 yX10_init ∈ gw := gw_1 26 (by decide +kernel) rfl
theorem q_1_27 : Cond.instanceMethod yX10_init ∈ gw := gw_1 27 (by decide +kernel) rfl
theorem q_1_28 : Cond.code yX10_init cX10_init 1 none ∈ gw := gw_1 28 (by decide +kernel) rfl
theorem q_6_97 : Cond.classLink RL 24 RX11 ∈ gw := gw_6 97 (by decide +kernel) rfl
theorem q_6_98 : Cond.methodLink RL 26 yX11_init ∈ gw := gw_6 98 (by decide +kernel) rfl
theorem q_6_99 : Cond.instanceMethod yX11_init ∈ gw := gw_6 99 (by decide +kernel) rfl
theorem q_6_100 : Cond.code yX11_init cX11_init 1 none ∈ gw := gw_6 100 (by decide +kernel) rfl
theorem dL_law_0 : decode cL_law 0 = .ok (.new 8, 3) := by decide +kernel
theorem dL_law_3 : decode cL_law 3 = .ok (.dup, 1) := by decide +kernel
theorem dL_law_4 : decode cL_law 4 = .ok (.invokespecial 23, 3) := by decide +kernel
theorem dL_law_7 : decode cL_law 7 = .ok (.astore_n 1, 1) := by decide +kernel
theorem dL_law_8 : decode cL_law 8 = .ok (.new 24, 3) := by decide +kernel
theorem dL_law_11 : decode cL_law 11 = .ok (.dup, 1) := by decide +kernel
theorem dL_law_12 : decode cL_law 12 = .ok (.invokespecial 26, 3) := by decide +kernel
theorem dL_law_15 : decode cL_law 15 = .ok (.astore_n 2, 1) := by decide +kernel
theorem dL_law_16 : decode cL_law 16 = .ok (.iconst 1, 1) := by decide +kernel
theorem dL_law_17 : decode cL_law 17 = .ok (.newarray .long, 2) := by decide +kernel
theorem dL_law_19 : decode cL_law 19 = .ok (.astore_n 3, 1) := by decide +kernel
/-- the words that the class's constructor tells are the words -/
theorem WDX.ds {f : Nat → Int} (h : WDX (fun j => px_bytes.getD j 0) f) : WDS f := by
  obtain ⟨i, h1, h2, h3⟩ := h
  have h9 : ∀ k : Fin 101, ¬ (itW (fun j => px_bytes.getD j 0) k.val).2.1 = 19 := by decide +kernel
  have hi : i = 101 := by
    rcases h2 with h2 | h2
    · by_cases e : i = 101
      · exact e
      · exact absurd h2 (h9 ⟨i, by omega⟩)
    · exact h2
  subst hi
  have h8 : ∀ k : Fin 19, ((itW (fun j => px_bytes.getD j 0) 101).1 k.val).toInt = R5.getD k.val 0 := by decide +kernel
  intro j hj
  rw [h3 j]
  exact h8 ⟨j, hj⟩
def GS1 (σ : xS) : Prop := (∀ j : Nat, j < 8 → σ 43 j = -1) ∧ ∃ b c, σ = sgV b c ∧ (∀ j : Nat, j < 13 → b 0 j = -1) ∧ ∀ j : Nat, j < 6 → b 1 j = -1
set_option maxRecDepth 100000 in
theorem gm0 {b : Nat → Nat → Int32} {c c2 : Nat → Nat → Int64} (h0 : ∀ j : Nat, j < 13 → b 0 j = -1) (h1 : ∀ j : Nat, j < 6 → b 1 j = -1) : gmC 2 (sgV b c) (sgM c2 2) := by
  have z : ∀ i, i ≠ 4 → sgM c2 2 i = 0 := fun i h => sgM_z c2 h
  refine ⟨⟨fun i t j d h => ?_, fun p hp => ?_, ⟨⟨⟨(show (0 : Int) ≤ 0 from Int.le_refl 0), ?_⟩, fun i hi => ?_⟩, ?_⟩, ⟨⟨(show (0 : Int) ≤ 0 from Int.le_refl 0), fun p hp => ?_, fun i hi => ?_⟩, (show (0 : Int) ≤ 52 from by decide)⟩, ⟨(show (0 : Int) ≤ 52 from by decide), fun i hi => ?_⟩⟩, rfl⟩
  · have e9 := mp_e h
    clear h
    rcases e9 with ⟨a1, a2, rfl, rfl, rfl⟩ | ⟨a1, a2, rfl, rfl, rfl⟩ | ⟨a1, a2, rfl, rfl, rfl⟩ | ⟨a1, a2, rfl, rfl, rfl⟩ | ⟨a1, a2, rfl, rfl, rfl⟩ | ⟨a1, a2, rfl, rfl, rfl⟩ | ⟨a1, a2, rfl, rfl, rfl⟩ | ⟨a1, a2, rfl, rfl, rfl⟩ | ⟨a1, a2, rfl, rfl, rfl⟩
    · rw [z _ (by omega)]
      have e : j = 0 ∨ j = 1 ∨ j = 2 ∨ j = 3 := by omega
      rcases e with rfl | rfl | rfl | rfl <;> rfl
    · rw [z _ (by omega)]
      have e : i = 5 ∨ i = 6 := by omega
      rcases e with rfl | rfl <;> rfl
    · rw [z _ (by omega)]; rfl
    · rw [z _ (by omega)]
      show (b 0 (i - 138)).toInt = 0 + -1
      rw [h0 _ (by omega)]; rfl
    · rw [z _ (by omega)]; rfl
    · rw [z _ (by omega)]; rfl
    · rw [z _ (by omega)]; rfl
    · rw [z _ (by omega)]; rfl
    · rw [z _ (by omega)]
      show (b 1 (i - 565)).toInt = 0 + -1
      rw [h1 _ (by omega)]; rfl
  · have e : sm 13 (hd (sgM c2 2) p) = sm 13 (fun _ => 0) := sm_congr (fun k hk => z _ (by omega))
    rw [e, sm_const]; rfl
  · rw [z 7 (by omega)]; rfl
  · rw [z 7 (by omega)] at hi; omega
  · rw [z 7 (by omega)]; decide
  · rw [z _ (by omega)]; rfl
  · have hi : (i : Int) < 0 := hi
    omega
  · have hi : (i : Int) < 0 := hi
    omega
set_option maxRecDepth 100000 in
theorem fs_GL {σ1 σ2 : xS} (hR : RI σ2) (g1 : GS1 σ1) (g2 : ∃ c, σ2 = sgM c) : GL w00 (fsS σ1 σ2) (xsel tM (fsS σ1 σ2)) := by
  obtain ⟨hl, b, c, rfl, h0, h1⟩ := g1
  obtain ⟨c2, rfl⟩ := g2
  have z : ∀ i, i ≠ 4 → sgM c2 2 i = 0 := fun i h => sgM_z c2 h
  have hV : VST (sgM c2 2) := ⟨⟨⟨(VG_iff.mp hR.1).1, fun p i hp hi => by rw [z _ (by omega)] at hi; omega⟩, Or.inl (z 2 (by omega)), by rw [z 6 (by omega), z 1 (by omega)]; decide, Or.inl rfl⟩, fun q hq _ => z _ (by omega)⟩
  have h : GL w00 (sgV b c) (sgM c2) := ⟨⟨gm0 h0 h1, hV, fun q hq => by rw [z 1 (by omega)] at hq; omega⟩, (show PASTL w00 (sgV b c) (sgM c2 8) 0 (sgM c2 2) from PASTL.z rfl ⟨(show (0 : Int) ≤ 0 from Int.le_refl 0), (show (0 : Int) ≤ 7 from by decide)⟩), fun k _ hn => absurd rfl hn, Or.inl ⟨rfl, hl⟩⟩
  exact (h.cls (w' := w00) (σ' := fsS (sgV b c) (sgM c2)) ⟨fun u hu => fsS_1 (by omega), fun _ _ _ => rfl⟩).rr (fun i _ => congrFun (fsS_2 (i := 2)) i) (fun q _ => congrFun (fsS_2 (i := 5)) q) (fsS_2 (i := 7)) (fsS_2 (i := 8)) (fsS_2 (i := 25)) (fsS_2 (i := 26)) (fsS_2 (i := 27)) (congrFun (fsS_2 (i := 0)) 24) (congrFun (fsS_2 (i := 0)) 27)
/-- both constructors, as va_callv wants them -/
theorem ct10v (l : Launch) (D : va_G) (y : Nat → ClassId) (sz x : Nat) (ad : Nat → Nat) (bb : Nat → Int32) : Met l yX10_init (px_w yX10_init cX10_init 1 none) ({ frames := 5, cells := 47, slots := 1972, locals := 110 }) (va_Pc [.ref x] (fun U => px_P D y sz [px_o x 10 fsX10] U ∧ px_Y ad bb (va_A [px_o x 10 fsX10] sz) U U.heap)) (va_Qv (S := (Nat → Nat) × (Nat → Nat → Option Nat) × xS) (fun u => u.1 0 = x ∧ LK u.1 u.2.1 w00 ∧ xgs (vsh w00) u.2.2 ∧ JW w00 u.2.2 ∧ u.2.2 0 1 = 0 ∧ WDX bb (u.2.2 31) ∧ GS1 u.2.2) (fun u t => va_P D vwCl (xws u.1 y u.2.1 194 (vsh w00) u.2.2) t.heap ∧ va_D (va_A [px_o x 10 fsX10] sz) (xws u.1 y u.2.1 194 (vsh w00) u.2.2)) (va_A [px_o x 10 fsX10] sz)) 47 1972 (va_A [px_o x 10 fsX10] sz) := by
  refine v_cons (ct10 l D y sz x ad bb) (fun a st h => h) (fun a st o t _ h => ?_)
  obtain ⟨⟨a1, ρ1, σ1, ho, h1, h2, h3, h4, h5, h6, h7, hP, hD⟩, hF⟩ := h
  exact ⟨⟨(a1, ρ1, σ1), ho, ⟨h1, h2, h3, h4, h5, h6, h7.1, h7.2.2⟩, hP, hD⟩, hF⟩
theorem ct11v (l : Launch) (D : va_G) (y : Nat → ClassId) (sz x : Nat) : Met l yX11_init (px_w yX11_init cX11_init 1 none) ({ frames := 1, cells := 27, slots := 197375, locals := 12 }) (va_Pc [.ref x] (px_P D y sz [px_o x 11 fsX11])) (va_Qv (S := (Nat → Nat) × xS) (fun u => u.1 0 = x ∧ xgs shM u.2 ∧ RI u.2 ∧ u.2 0 2 = 0 ∧ (∀ k : Nat, u.2 27 k = 0) ∧ (∀ j : Nat, j < 19 → u.2 6 j = R8.getD j 0) ∧ ∃ c, u.2 = sgM c) (fun u t => va_P D vwCl (xws u.1 y (fun _ _ => none) 28 shM u.2) t.heap ∧ va_D (va_A [px_o x 11 fsX11] sz) (xws u.1 y (fun _ _ => none) 28 shM u.2)) (va_A [px_o x 11 fsX11] sz)) 27 197375 (va_A [px_o x 11 fsX11] sz) := by
  refine v_cons (ct11 l D y sz x) (fun a st h => h) (fun a st o t _ h => ?_)
  obtain ⟨⟨a1, σ1, ho, h1, h2, h3, h4, h5, h6, hP, hD⟩, hF⟩ := h
  exact ⟨⟨(a1, σ1), ho, ⟨h1, h2, h3, h4, h5, h6⟩, hP, hD⟩, hF⟩
theorem fs_lv (a : Nat → Nat) (i : Int) : xlv a (lL i) = [(0, .ref (a 195)), (1, .ref (a 0)), (2, .ref (a 196)), (3, .ref (a 194)), (4, .int (Int32.ofInt i))] := rfl
set_option maxHeartbeats 8000000 in
set_option maxRecDepth 100000 in
/-- the law, from its entry -/
theorem whole_start {p : Program} {e : Env} {s : State} {m : MethodId} {below : List Frame} {meth : Method} {c : Code} (l : Launch) (hst : l.stackTraces = false) {b L : Nat} {xs : Nat → Int32} (hL : L ≤ 3072) (C0 : lw_At p s m meth c b L xs) : W p l e room_1 s m #[Value.ref b] below meth c s.heap [] 0 0 (lw_Z below #[Value.ref b] s) (entryFrame m ([Value.ref b] : List Value).toArray 8) := by
  obtain ⟨hx, hb, hr, hml, hown, hts, hX, hbl, hlocks, hgv⟩ := id C0
  have hg := gw_hts hts
  have hown : s.vm.findClass RL = some m.cls := hown
  obtain ⟨D, hKc⟩ := px_kn hg
  obtain ⟨y, hKy⟩ := px_ty hts
  have hK : va_K D vwCl (px_tys y) s := ⟨hKc, hKy⟩
  obtain ⟨ad, bb, hY0, hvY, hbb⟩ := px_st hts hgv
  have hP : va_P D vwCl [] s.heap := fun k q h => by simp at h
  have hD : va_D (fun q : Nat => s.heap.size ≤ q) [] := ⟨fun i j p q h => by simp at h, fun k q h => by simp at h⟩
  have hS : va_S (fun q : Nat => s.heap.size ≤ q) s.heap s.heap [] := va_S.rf
  have hA : ∀ q : Nat, s.heap.size ≤ q → (fun q : Nat => s.heap.size ≤ q) q := fun q h => h
  have hbA : ¬ (fun q : Nat => s.heap.size ≤ q) b := Nat.not_le.mpr hbl
  have hLC : LC p l s m meth c D y (fun q : Nat => s.heap.size ≤ q) b L xs ad := ⟨⟨hx, hb, hml, hown, hg, hK, hA, Nat.le_of_ble_eq_true rfl, Nat.le_of_ble_eq_true rfl, hr, hlocks⟩, hvY, hX, hbl, hbA, hst, hL⟩
  have hl := lv_entry ([.ref b]) (n := 8) (Nat.le_of_ble_eq_true rfl)
  rw [lg_entry_eq]
  generalize (lg_sl ([.ref b]) ++ List.replicate (8 - (lg_sl ([.ref b])).length) Slot.unset).toArray = ls at hl ⊢
  have hl : lv_has ls 8 [(0, .ref b)] := hl
  refine va_new (ci := 10) (fs := fsX10) (C := RX10) (T := TX10) (N := 20) hx hb hg inGX10 tyX10 tyX10_ok hown (hg _ q_1_24) (hg _ q_1_25) (hg _ q_1_1) hK hP hD hS hA rfl (px_fsX10v) (Nat.le_of_ble_eq_true rfl) (Nat.le_of_ble_eq_true rfl) dL_law_0 (fun q1 H_2 hP_2 hD_2 hS_2 => ?_)
  clear hP hD hS
  have hP : va_P D vwCl [px_o q1 10 fsX10] H_2 := hP_2
  have hD : va_D (fun q : Nat => s.heap.size ≤ q) [px_o q1 10 fsX10] := hD_2
  have hS := hS_2
  clear hP_2 hD_2 hS_2
  refine W.cs (cells' := 1) (slots' := 20) rfl rfl ?_
  refine lv_dup hx hb dL_law_3 rfl ?_
  have hFc_4 := va_free (wc := [px_o q1 10 fsX10]) hD hS hA [0] rfl
  refine va_callv (va_runI (As := []) (rest := [.ref q1]) ⟨hx, hb, hml, hown, hg⟩ (ct10v l D y H_2.size q1 ad bb) (cwI 0 hg (px_gI q_1_28) rfl rfl rfl (hg _ q_1_1) (hg _ q_1_26) (hg _ q_1_27) rfl (by decide +kernel) ⟨Nat.le_of_ble_eq_true rfl, Nat.le_of_ble_eq_true rfl⟩) (px_preSY hK hP hD hY0 hS hFc_4) rfl rfl hl.1 rfl (lv_room (Nat.le_of_ble_eq_true rfl)) dL_law_4 ⟨Nat.le_of_ble_eq_true rfl, Nat.le_of_ble_eq_true rfl⟩) hS (fun q _ h => hFc_4 q h) hFc_4 (fun u_4 t_4 H_4 locs_4 ht_4 hvm_4 hw_4 hB_4 hz_4 hk_4 hS_4 => ?_)
  refine W.cs (cells' := 48) (slots' := 1992) rfl rfl ?_
  obtain ⟨a1, ρ1, σ1⟩ := u_4
  obtain ⟨ha1, hLK, hg1, hJ1, hz1, hwd1, hgs1⟩ := hw_4
  obtain ⟨hP1_4, hD1_4⟩ := hB_4
  rw [ht_4] at hP1_4
  dsimp only at ha1 hLK hg1 hJ1 hz1 hwd1 hgs1 hP1_4 hD1_4
  obtain ⟨hP_4, hD_4⟩ := va_join (wr := []) (wc := [px_o q1 10 fsX10]) hP hD [0] [] rfl rfl rfl (fun i h => by cases h) hk_4 hFc_4 hP1_4 hD1_4
  rw [List.nil_append] at hP_4 hD_4
  clear hP hD hS hFc_4 hz_4 hk_4 hvm_4 ht_4 hP1_4 hD1_4
  have hS := hS_4
  clear hS_4
  generalize hW1 : xws a1 y ρ1 194 (vsh w00) σ1 = W1 at hP_4 hD_4
  refine lv_astore_n (lv' := [(1, .ref q1), (0, .ref b)]) hx hb dL_law_7 rfl hl (by decide) rfl (fun ls hl => ?_)
  refine va_new (ci := 11) (fs := fsX11) (C := RX11) (T := TX11) (N := 65) hx hb hg inGX11 tyX11 tyX11_ok hown (hg _ q_6_97) (hg _ q_6_91) (hg _ q_1_15) hK hP_4 hD_4 hS hA rfl (px_fsX11v) (Nat.le_of_ble_eq_true rfl) (Nat.le_of_ble_eq_true rfl) dL_law_8 (fun q5 H_6 hP_6 hD_6 hS_6 => ?_)
  clear hP_4 hD_4 hS
  have hP : va_P D vwCl (W1 ++ [px_o q5 11 fsX11]) H_6 := hP_6
  have hD : va_D (fun q : Nat => s.heap.size ≤ q) (W1 ++ [px_o q5 11 fsX11]) := hD_6
  have hS := hS_6
  clear hP_6 hD_6 hS_6
  refine W.cs (cells' := 49) (slots' := 2057) rfl rfl ?_
  refine lv_dup hx hb dL_law_11 rfl ?_
  have hPc_8 := (fs_P hP).2
  have hDc_8 := (fs_D hD).2.1
  have hFc_8 := va_free (wc := [px_o q5 11 fsX11]) hD hS hA [W1.length] (fs_last _ _)
  refine va_callv (va_runI (As := []) (rest := [.ref q5]) ⟨hx, hb, hml, hown, hg⟩ (ct11v l D y H_6.size q5) (cwI 0 hg (px_gI q_6_100) rfl rfl rfl (hg _ q_1_15) (hg _ q_6_98) (hg _ q_6_99) rfl (by decide +kernel) ⟨Nat.le_of_ble_eq_true rfl, Nat.le_of_ble_eq_true rfl⟩) (px_preS hK hPc_8 hDc_8) rfl rfl hl.1 rfl (lv_room (Nat.le_of_ble_eq_true rfl)) dL_law_12 ⟨Nat.le_of_ble_eq_true rfl, Nat.le_of_ble_eq_true rfl⟩) hS (fun q _ h => hFc_8 q h) hFc_8 (fun u_8 t_8 H_8 locs_8 ht_8 hvm_8 hw_8 hB_8 hz_8 hk_8 hS_8 => ?_)
  refine W.cs (cells' := 76) (slots' := 199432) rfl rfl ?_
  obtain ⟨a2, σ2⟩ := u_8
  obtain ⟨ha2, hg2, hR2, hz2, hk2, hr2, hgs2⟩ := hw_8
  obtain ⟨hP1_8, hD1_8⟩ := hB_8
  rw [ht_8] at hP1_8
  dsimp only at ha2 hg2 hR2 hz2 hk2 hr2 hgs2 hP1_8 hD1_8
  obtain ⟨hP_8, hD_8⟩ := va_join (wr := W1) (wc := [px_o q5 11 fsX11]) hP hD [W1.length] (List.range W1.length) (fs_last _ _) (fs_range _ _) (fs_nd _) (fun i h1 h2 => by
    have h1 := List.mem_range.mp h1
    have h2 := List.mem_singleton.mp h2
    omega) hk_8 hFc_8 hP1_8 hD1_8
  clear hP hD hS hPc_8 hDc_8 hFc_8 hz_8 hk_8 hvm_8 ht_8 hP1_8 hD1_8
  have hS := hS_8
  clear hS_8
  refine lv_astore_n (lv' := [(2, .ref q5), (1, .ref q1), (0, .ref b)]) hx hb dL_law_15 rfl hl (by decide) rfl (fun ls hl => ?_)
  refine lv_iconst (v := 1) hx hb dL_law_16 (by decide) ?_
  refine px_newa (atype := .long) (ty := .long) hx hb (hg _ q_1_59) rfl hK hP_8 hD_8 hS hA 2 rfl (N' := 1) (a0 := (1, .inr (.inl (fun _ => 0)))) (px_along _) (by decide) (by decide) (by decide) (Nat.le_of_ble_eq_true rfl) (Nat.le_of_ble_eq_true rfl) dL_law_17 (fun q9 H_10 hP_10 hD_10 hS_10 => ?_)
  clear hP_8 hD_8 hS
  refine W.cs (cells' := 77) (slots' := 199433) rfl rfl ?_
  refine lv_astore_n (lv' := [(3, .ref q9), (2, .ref q5), (1, .ref q1), (0, .ref b)]) hx hb dL_law_19 rfl hl (by decide) rfl (fun ls hl => ?_)
  refine lv_iconst (v := 0) hx hb dL_law_20 (by decide) ?_
  refine lv_istore (lv' := [(4, .int 0), (3, .ref q9), (2, .ref q5), (1, .ref q1), (0, .ref b)]) hx hb dL_law_21 hl (by decide) rfl (fun ls hl => ?_)
  subst hW1
  have hP9 := fs_world (b := b) (w := w00) (q9 := q9) hP_10
  have hD9 := fs_worldD (b := b) (w := w00) (q9 := q9) hD_10
  have hgo := law_loop (e := e) (below := below) hLC 513 0 (77, 199433) w00 (fsA q9 b a1 a2) (fsR ρ1) (fsS σ1 σ2) ⟨fs_LI hLK hJ1 hz1 (WDX.ds (hbb ▸ hwd1)) hR2 hz2 hk2 hr2, fs_GL hR2 hgs1 hgs2⟩ ⟨by decide, by decide⟩ (Nat.zero_le _) (by omega)
  have h9 : lv_has ls 8 (xlv (fsA q9 b a1 a2) (lL ((6 * 0 : Nat) : Int))) := by
    rw [fs_lv]
    refine lv_sub hl [4, 3, 2, 1, 0] ?_
    show [((0 : Nat), Value.ref b), (1, .ref q1), (2, .ref q5), (3, .ref q9), (4, .int 0)] = [(0, .ref b), (1, .ref (a1 0)), (2, .ref (a2 0)), (3, .ref q9), (4, .int 0)]
    rw [ha1, ha2]
  refine hgo (fun v hv => ?_) (fun v hv => by cases hv) (fs_g hg1 hg2) rfl H_10 _ ls hP9 hD9 hS_10 h9
  rcases List.mem_cons.mp hv with rfl | hv
  · exact trivial
  rcases List.mem_cons.mp hv with rfl | hv
  · exact trivial
  rcases List.mem_cons.mp hv with rfl | hv
  · exact trivial
  rcases List.mem_cons.mp hv with rfl | hv
  · exact trivial
  rcases List.mem_cons.mp hv with rfl | hv
  · exact ⟨by decide, by decide⟩
  rcases List.mem_cons.mp hv with rfl | hv
  · exact trivial
  rcases List.mem_cons.mp hv with rfl | hv
  · exact trivial
  rcases List.mem_cons.mp hv with rfl | hv
  · exact trivial
  cases hv
