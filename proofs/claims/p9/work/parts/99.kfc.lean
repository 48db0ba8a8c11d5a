def sgV (b : Nat → Nat → Int32) (c : Nat → Nat → Int64) : xS := fun t i => match t with
  | 2 => (match i with
    | 14 => -1
    | _ => 0)
  | 7 => (b 0 i).toInt
  | 10 => (b 1 i).toInt
  | 15 => (match i with
    | 14 => -1
    | _ => 0)
  | 20 => (b 2 i).toInt
  | 23 => (b 3 i).toInt
  | 30 => (match i with
    | 5 => 302
    | _ => 0)
  | 31 => (c 0 i).toInt
  | 43 => (b 4 i).toInt
  | 45 => (b 5 i).toInt
  | _ => 0
theorem sgV_g (b : Nat → Nat → Int32) (c : Nat → Nat → Int64) : xgs shB0 (sgV b c) := by
  have h32 : ∀ t i, t ≠ 31 → xR32 (sgV b c t i) := by
    intro t i ht
    unfold sgV
    split <;> first | exact x32r _ | exact absurd rfl ht | (split <;> exact ⟨by decide, by decide⟩) | exact ⟨by decide, by decide⟩
  refine ⟨fun t ci codes hs j cd hc => ?_, fun t k n l hs i hi => ?_⟩
  · have ht : t ≠ 31 := fun e => by subst e; cases hs
    exact ⟨fun _ => h32 t j ht, fun _ => xR32L (h32 t j ht)⟩
  · by_cases ht : t = 31
    · subst ht
      cases hs
      exact ⟨fun _ => x64r _, fun h _ => absurd rfl h⟩
    · exact ⟨fun _ => xR32L (h32 t i ht), fun _ _ => h32 t i ht⟩
def w00 : Nat → Bool := fun _ => false
theorem b0_v0 {t : Nat} {e : Nat × Nat × List Nat} (h : vsh w00 t = some e) : t < 47 ∧ shB0 t = some e := by
  obtain ⟨h1, h2⟩ := shW_e h
  have ht : t < 47 := by
    rcases h2 with h2 | h2
    · unfold blkV at h2
      split at h2
      · assumption
      · split at h2
        · omega
        · split at h2
          · omega
          · split at h2
            · omega
            · split at h2 <;> omega
    · cases h2
  have e1 : ∀ t, t < 47 → wlB0[t]? = wlVF0[t]? := by decide +kernel
  exact ⟨ht, by show wlB0[t]? = some e; rw [e1 t ht]; exact h1⟩
theorem v0_P {D : va_G} {y : Nat → ClassId} {a : Nat → Nat} {ρ : Nat → Nat → Option Nat} {σ : xS} {H : Heap} (h : va_P D vwCl (xws a y ρ 47 shB0 σ) H) : va_P D vwCl (xws a y ρ 194 (vsh w00) σ) H := xws_P.mpr (fun t e _ hs => xws_P.mp h t e (b0_v0 hs).1 (b0_v0 hs).2)
theorem v0_D {A : Nat → Prop} {y : Nat → ClassId} {a : Nat → Nat} {ρ : Nat → Nat → Option Nat} {σ : xS} (h : va_D A (xws a y ρ 47 shB0 σ)) : va_D A (xws a y ρ 194 (vsh w00) σ) := by
  have h1 := xws_D.mp h
  have k : ∀ t, (vsh w00 t).isSome = true → t < 47 ∧ (shB0 t).isSome = true := fun t ht => by
    obtain ⟨e, he⟩ := Option.isSome_iff_exists.mp ht
    exact ⟨(b0_v0 he).1, by rw [(b0_v0 he).2]; rfl⟩
  exact xws_D.mpr ⟨fun t u _ _ hst hsu => h1.1 t u (k t hst).1 (k u hsu).1 (k t hst).2 (k u hsu).2, fun t _ hst => h1.2 t (k t hst).1 (k t hst).2⟩
theorem v0_g {σ : xS} (h : xgs shB0 σ) : xgs (vsh w00) σ := ⟨fun t ci codes hs => h.1 t ci codes (b0_v0 hs).2, fun t k n l hs => h.2 t k n l (b0_v0 hs).2⟩
theorem jg_sgV (b : Nat → Nat → Int32) (c : Nat → Nat → Int64) : JG (xsel (g13 2) (sgV b c)) := by
  have z : ∀ n : Nat, (0 : Int) ≤ (n : Int) := fun n => Int.natCast_nonneg n
  refine ⟨⟨⟨⟨z 0, z 13⟩, ⟨z 0, z 6⟩, ⟨z 0, z 0, z 52⟩, fun i hi => ?_⟩, ⟨fun p k _ _ => z 0, fun k hk => ?_⟩, fun p k _ _ => ⟨z 0, (show (0 : Int) ≤ 0 + 1 from by decide)⟩, ⟨z 0, z 52⟩⟩, Or.inl rfl, fun i hi => ?_⟩
  · have hi : (i : Int) < 0 := hi
    omega
  · rw [gsf_z (hs := xsel (g13 2) (sgV b c) 2) (fun i _ => rfl) hk, gcf_z (show xsel (g13 2) (sgV b c) 0 9 ≤ xsel (g13 2) (sgV b c) 0 8 from z 0)]
    exact z 4
  · have hi : (i : Int) < 0 := hi
    omega
theorem jw_sgV (b : Nat → Nat → Int32) (c : Nat → Nat → Int64) : JW w00 (sgV b c) := JW.of ⟨Int.natCast_nonneg 0, Int.natCast_nonneg 940⟩ (jg_sgV b c) ⟨Int.natCast_nonneg 0, Int.natCast_nonneg 40⟩ ⟨Int.natCast_nonneg 0, Int.natCast_nonneg 78⟩ ⟨⟨Int.natCast_nonneg 0, Int.natCast_nonneg 7⟩, ⟨Int.natCast_nonneg 0, Int.natCast_nonneg 8⟩, fun i hi h => by cases h⟩ (fun k hk h => by cases h) (fun k hk h => by cases h) (fun k hk => rfl)
def fsX10 : List Value := [.null, .int 0, .int 0, .null, .null, .null, .null, .null, .null, .null, .null, .null, .null, .null, .null, .null, .null, .int 0, .null, .null]
theorem px_fsX10v : ∀ j, j < 20 → defaultValue (tyX10 j) = vp_V fsX10 j := px_fsX10
set_option maxHeartbeats 4000000 in
set_option maxRecDepth 100000 in
theorem xwsV (y : Nat → ClassId) (b : Nat → Nat → Int32) (c : Nat → Nat → Int64) (q0 q1 q2 q3 q4 q5 q6 q7 q8 q9 q10 q11 q12 q13 q14 q15 q16 q17 q18 q19 q20 q21 q22 q23 q24 q25 q26 q27 q28 q29 q30 q31 q32 q33 q34 q35 q36 q37 q38 q39 q40 q41 q42 q43 q44 q45 q46 qx : Nat) : xws (px_v [q0, q1, q2, q3, q4, q5, q6, q7, q8, q9, q10, q11, q12, q13, q14, q15, q16, q17, q18, q19, q20, q21, q22, q23, q24, q25, q26, q27, q28, q29, q30, q31, q32, q33, q34, q35, q36, q37, q38, q39, q40, q41, q42, q43, q44, q45, q46]) y (fun t j => if t = 30 ∧ j = 1 then some qx else none) 47 shB0 (sgV b c) = [px_o q0 10 [.ref q1, .int 0, .int 0, .ref q2, .ref q15, .ref q28, .ref q30, .ref q32, .ref q34, .ref q36, .ref q39, .ref q41, .ref q42, .ref q43, .ref q44, .ref q45, .ref q46, .int 0, va_rf (none), va_rf (none)], px_i q1 (y 0) 940 (fun _ => 0), px_o q2 2 [.int 0, .int 0, .int 0, .int 0, .ref q3, .ref q4, .ref q5, .ref q6, .int 0, .int 0, .ref q7, .ref q8, .ref q9, .ref q10, .int (-1), .int 0, .int 0, .ref q11], px_l q3 (y 2) 6 (fun _ => 0), px_i q4 (y 1) 78 (fun _ => 0), px_i q5 (y 1) 6 (fun _ => 0), px_i q6 (y 1) 52 (fun _ => 0), px_i q7 (y 1) 13 (fun i => Int32.ofInt ((b 0 i).toInt)), px_i q8 (y 1) 6 (fun _ => 0), px_i q9 (y 1) 6 (fun _ => 0), px_i q10 (y 1) 6 (fun i => Int32.ofInt ((b 1 i).toInt)), px_o q11 3 [.ref q12, .ref q13, .int 0, .ref q14], px_i q12 (y 1) 78 (fun _ => 0), px_i q13 (y 1) 52 (fun _ => 0), px_i q14 (y 1) 6 (fun _ => 0), px_o q15 2 [.int 0, .int 0, .int 0, .int 0, .ref q16, .ref q17, .ref q18, .ref q19, .int 0, .int 0, .ref q20, .ref q21, .ref q22, .ref q23, .int (-1), .int 0, .int 0, .ref q24], px_l q16 (y 2) 6 (fun _ => 0), px_i q17 (y 1) 78 (fun _ => 0), px_i q18 (y 1) 6 (fun _ => 0), px_i q19 (y 1) 52 (fun _ => 0), px_i q20 (y 1) 13 (fun i => Int32.ofInt ((b 2 i).toInt)), px_i q21 (y 1) 6 (fun _ => 0), px_i q22 (y 1) 6 (fun _ => 0), px_i q23 (y 1) 6 (fun i => Int32.ofInt ((b 3 i).toInt)), px_o q24 3 [.ref q25, .ref q26, .int 0, .ref q27], px_i q25 (y 1) 78 (fun _ => 0), px_i q26 (y 1) 52 (fun _ => 0), px_i q27 (y 1) 6 (fun _ => 0), px_o q28 7 [.ref q29, .int 0], px_i q29 (y 1) 40 (fun _ => 0), px_o q30 6 [.ref q31, va_rf (some qx), .int 0, .int 0, .int 0, .int 302, .int 0, .int 0, .long 0, .int 0, .int 0], px_l q31 (y 2) 19 (fun i => Int64.ofInt ((c 0 i).toInt)), px_o q32 9 [.ref q30, .ref q33, .int 0, .int 0], px_i q33 (y 1) 13 (fun _ => 0), px_o q34 1 [.ref q30, .ref q35, .int 0], px_i q35 (y 1) 120 (fun _ => 0), px_o q36 8 [.ref q30, .ref q37, .int 0], px_o q37 7 [.ref q38, .int 0], px_i q38 (y 1) 40 (fun _ => 0), px_o q39 5 [.ref q40, .int 0, .int 0], px_q q40 (y 4) 8 (fun _ => none), px_q q41 (y 4) 2 (fun _ => none), px_q q42 (y 5) 2 (fun _ => none), px_i q43 (y 1) 8 (fun i => Int32.ofInt ((b 4 i).toInt)), px_i q44 (y 1) 8 (fun _ => 0), px_i q45 (y 1) 4 (fun i => Int32.ofInt ((b 5 i).toInt)), px_i q46 (y 1) 78 (fun _ => 0)] := rfl
set_option maxHeartbeats 4000000 in
set_option maxRecDepth 100000 in
theorem ct10 (l : Launch) (D : va_G) (y : Nat → ClassId) (sz x : Nat) (ad : Nat → Nat) (bb : Nat → Int32) : Met l yX10_init (px_w yX10_init cX10_init 1 none) ({ frames := 5, cells := 47, slots := 1972, locals := 110 }) (va_Pc [.ref x] (fun U => px_P D y sz [px_o x 10 fsX10] U ∧ px_Y ad bb (va_A [px_o x 10 fsX10] sz) U U.heap)) (fun _ st oc t => (∃ (a : Nat → Nat) (ρ : Nat → Nat → Option Nat) (σ : xS), oc = .returned none ∧ a 0 = x ∧ LK a ρ w00 ∧ xgs (vsh w00) σ ∧ JW w00 σ ∧ σ 0 1 = 0 ∧ WDX bb (σ 31) ∧ ((∀ j : Nat, j < 8 → σ 43 j = -1) ∧ (∀ j : Nat, j < 4 → σ 45 j = -1) ∧ ∃ b c, σ = sgV b c ∧ (∀ j : Nat, j < 13 → b 0 j = -1) ∧ ∀ j : Nat, j < 6 → b 1 j = -1) ∧ va_P D vwCl (xws a y ρ 194 (vsh w00) σ) t.heap ∧ va_D (va_A [px_o x 10 fsX10] sz) (xws a y ρ 194 (vsh w00) σ)) ∧ va_F (va_A [px_o x 10 fsX10] sz) st t) 47 1972 (va_A [px_o x 10 fsX10] sz) := by
  refine v_cons (c_X10_init l D y sz ad bb x fsX10 rfl rfl rfl rfl rfl rfl rfl rfl rfl rfl rfl rfl rfl rfl rfl rfl rfl rfl rfl rfl) (fun a st h => h) (fun a st o t _ h => ?_)
  obtain ⟨⟨⟨u1, u2, u3⟩, ho, ⟨hwd, hrw, hla, hve⟩, hP, hD⟩, hF⟩ := h
  dsimp only at hP hD hwd hrw hla hve
  have e : ∀ k, u2 k = fun i => Int32.ofInt ((u2 k i).toInt) := fun k => funext fun i => x32o _
  have e9 : ∀ k, u3 k = fun i => Int64.ofInt ((u3 k i).toInt) := fun k => funext fun i => x64o _
  rw [e 0, e 1, e 2, e 3, e 4, e 5, e9 0] at hP hD
  simp only [fsX10, List.set_cons_succ, List.set_cons_zero] at hP hD
  have hw := xwsV y u2 u3 (x) ((u1 0)) ((u1 1)) ((u1 2)) ((u1 3)) ((u1 4)) ((u1 5)) ((u1 12)) ((u1 6)) ((u1 7)) ((u1 13)) ((u1 8)) ((u1 9)) ((u1 10)) ((u1 11)) ((u1 14)) ((u1 15)) ((u1 16)) ((u1 17)) ((u1 18)) ((u1 25)) ((u1 19)) ((u1 20)) ((u1 26)) ((u1 21)) ((u1 22)) ((u1 23)) ((u1 24)) ((u1 27)) ((u1 28)) ((u1 29)) ((u1 30)) ((u1 32)) ((u1 33)) ((u1 34)) ((u1 35)) ((u1 36)) ((u1 37)) ((u1 38)) ((u1 39)) ((u1 40)) ((u1 41)) ((u1 42)) ((u1 45)) ((u1 43)) ((u1 46)) ((u1 44)) (u1 31)
  have hP9 : va_P D vwCl (xws (px_v [x, (u1 0), (u1 1), (u1 2), (u1 3), (u1 4), (u1 5), (u1 12), (u1 6), (u1 7), (u1 13), (u1 8), (u1 9), (u1 10), (u1 11), (u1 14), (u1 15), (u1 16), (u1 17), (u1 18), (u1 25), (u1 19), (u1 20), (u1 26), (u1 21), (u1 22), (u1 23), (u1 24), (u1 27), (u1 28), (u1 29), (u1 30), (u1 32), (u1 33), (u1 34), (u1 35), (u1 36), (u1 37), (u1 38), (u1 39), (u1 40), (u1 41), (u1 42), (u1 45), (u1 43), (u1 46), (u1 44)]) y (fun t j => if t = 30 ∧ j = 1 then some (u1 31) else none) 47 shB0 (sgV u2 u3)) t.heap := by rw [hw]; exact hP.sub [0, 1, 2, 3, 4, 5, 6, 13, 7, 8, 14, 9, 10, 11, 12, 15, 16, 17, 18, 19, 26, 20, 21, 27, 22, 23, 24, 25, 28, 29, 30, 31, 33, 34, 35, 36, 37, 38, 39, 40, 41, 42, 43, 46, 44, 47, 45] rfl
  have hD9 : va_D (va_A [px_o x 10 fsX10] sz) (xws (px_v [x, (u1 0), (u1 1), (u1 2), (u1 3), (u1 4), (u1 5), (u1 12), (u1 6), (u1 7), (u1 13), (u1 8), (u1 9), (u1 10), (u1 11), (u1 14), (u1 15), (u1 16), (u1 17), (u1 18), (u1 25), (u1 19), (u1 20), (u1 26), (u1 21), (u1 22), (u1 23), (u1 24), (u1 27), (u1 28), (u1 29), (u1 30), (u1 32), (u1 33), (u1 34), (u1 35), (u1 36), (u1 37), (u1 38), (u1 39), (u1 40), (u1 41), (u1 42), (u1 45), (u1 43), (u1 46), (u1 44)]) y (fun t j => if t = 30 ∧ j = 1 then some (u1 31) else none) 47 shB0 (sgV u2 u3)) := by rw [hw]; exact hD.sub [0, 1, 2, 3, 4, 5, 6, 13, 7, 8, 14, 9, 10, 11, 12, 15, 16, 17, 18, 19, 26, 20, 21, 27, 22, 23, 24, 25, 28, 29, 30, 31, 33, 34, 35, 36, 37, 38, 39, 40, 41, 42, 43, 46, 44, 47, 45] (by decide +kernel) rfl
  exact ⟨⟨_, _, _, ho, rfl, ⟨fun i _ => rfl, fun k _ => rfl, fun k _ => rfl, rfl, rfl⟩, v0_g (sgV_g u2 u3), jw_sgV u2 u3, rfl, hwd, ⟨fun j hj => by show (u2 4 j).toInt = -1; rw [hla j hj]; rfl, fun j hj => by show (u2 5 j).toInt = -1; rw [hve j hj]; rfl, u2, u3, rfl, hrw.1, hrw.2⟩, v0_P hP9, v0_D hD9⟩, hF⟩
