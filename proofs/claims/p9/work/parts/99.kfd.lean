def sgM (c : Nat → Nat → Int64) : xS := fun t i => match t with
  | 2 => if i = 4 then -1 else 0
  | 6 => (c 0 i).toInt
  | _ => 0
theorem sgM_g (c : Nat → Nat → Int64) : xgs shM (sgM c) := by
  have h32 : ∀ t i, t ≠ 6 → xR32 (sgM c t i) := by
    intro t i ht
    unfold sgM
    split <;> first | exact absurd rfl ht | (split <;> exact ⟨by decide, by decide⟩) | exact ⟨by decide, by decide⟩
  refine ⟨fun t ci codes hs j cd hc => ?_, fun t k n l hs i hi => ?_⟩
  · have ht : t ≠ 6 := fun e => by subst e; cases hs
    exact ⟨fun _ => h32 t j ht, fun _ => xR32L (h32 t j ht)⟩
  · by_cases ht : t = 6
    · subst ht
      cases hs
      exact ⟨fun _ => x64r _, fun h _ => absurd rfl h⟩
    · exact ⟨fun _ => xR32L (h32 t i ht), fun _ _ => h32 t i ht⟩
theorem sgM_z (c : Nat → Nat → Int64) {i : Nat} (h : i ≠ 4) : sgM c 2 i = 0 := if_neg h
theorem ri_sgM (c : Nat → Nat → Int64) : RI (sgM c) := by
  have z : ∀ i, i ≠ 4 → sgM c 2 i = 0 := fun i h => sgM_z c h
  have zh : ∀ p k, hd (sgM c 2) p k = 0 := fun p k => z _ (by omega)
  have zk : ∀ p k, kn (sgM c 2) p k = 0 := fun p k => z _ (by omega)
  have sz : ∀ (n : Nat) (g : Nat → Int), (∀ i, g i = 0) → sm n g = 0 := fun n g h => sm_z (fun i _ => h i)
  have z7 : sgM c 2 7 = 0 := z 7 (by omega)
  have q0 : ∀ n : Nat, (0 : Int) ≤ (n : Int) := fun n => Int.natCast_nonneg n
  refine ⟨⟨⟨⟨q0 0, q0 13⟩, ⟨q0 0, q0 6⟩, ⟨q0 0, q0 9⟩, ⟨(show (-1 : Int) ≤ -1 from by decide), (show (-1 : Int) < 0 from by decide)⟩, ⟨q0 0, q0 0, fun h => absurd rfl h⟩, ⟨q0 0, q0 52⟩⟩, fun i hi => ?_, fun p k _ _ => ?_, fun p _ => ?_, fun k _ => ?_, fun p _ => ?_, fun h => absurd rfl h⟩, ⟨⟨q0 0, q0 40⟩, fun _ => 0, rfl, fun i hi => ?_⟩, ⟨q0 0, q0 940⟩, ⟨q0 0, q0 8⟩, fun j hj => ?_, ⟨q0 0, q0 65⟩, fun k _ h => absurd rfl h⟩
  · rw [z7] at hi; omega
  · rw [zk, zh]; exact ⟨Int.le_refl 0, Int.le_refl 0, fun _ => rfl⟩
  · rw [z _ (by omega), sz 13 _ (zk p), sz 13 _ (zh p)]; rfl
  · rw [z (138 + k) (by omega), z (571 + k) (by omega), sz 6 _ (fun p => zh p k), z7]
    exact ⟨⟨by decide, by decide, by decide⟩, rfl⟩
  · rw [z _ (by omega)]; exact ⟨by decide, by decide⟩
  · have hi : (i : Int) < sgM c 2 584 := hi
    rw [z 584 (by omega)] at hi; omega
  · have hj : (j : Int) < 0 := hj
    omega
def fsX11 : List Value := [.int 0, .null, .int 0, .int 0, .int 0, .int 0, .null, .null, .null, .null, .null, .int 0, .int 0, .int 0, .int 0, .int 0, .int 0, .long 0, .int 0, .int 0, .int 0, .int 0, .int 0, .null, .int 0, .null, .null, .int 0, .null, .null, .null, .null, .null, .int 0, .int 0, .int 0, .null, .int 0, .null, .null, .null, .null, .int 0, .int 0, .int 0, .int 0, .int 0, .int 0, .null, .int 0, .null, .int 0, .int 0, .null, .int 0, .null, .int 0, .int 0, .int 0, .int 0, .int 0, .null, .null, .null, .null]
theorem px_fsX11v : ∀ j, j < 65 → defaultValue (tyX11 j) = vp_V fsX11 j := px_fsX11
set_option maxHeartbeats 4000000 in
set_option maxRecDepth 100000 in
theorem xwsM (y : Nat → ClassId) (c : Nat → Nat → Int64) (q0 q1 q2 q3 q4 q5 q6 q7 q8 q9 q10 q11 q12 q13 q14 q15 q16 q17 q18 q19 q20 q21 q22 q23 q24 q25 q26 q27 : Nat) : xws (px_v [q0, q1, q2, q3, q4, q5, q6, q7, q8, q9, q10, q11, q12, q13, q14, q15, q16, q17, q18, q19, q20, q21, q22, q23, q24, q25, q26, q27]) y (fun _ _ => none) 28 shM (sgM c) = [px_o q0 11 [.int 0, .ref q1, .int 0, .int 0, .int 0, .int 0, .ref q2, .ref q3, .ref q4, .ref q5, .ref q6, .int 0, .int 0, .int 0, .int 0, .int 0, .int 0, .long 0, .int 0, .int 0, .int 0, .int 0, .int 0, .ref q7, .int 0, .ref q8, .ref q9, .int 0, .ref q10, .ref q11, .ref q12, .ref q13, .ref q14, .int 0, .int 0, .int 0, .ref q15, .int 0, .ref q16, .ref q17, .ref q18, .ref q19, .int 0, .int 0, .int 0, .int 0, .int 0, .int 0, .ref q20, .int 0, .ref q21, .int 0, .int 0, .ref q22, .int 0, .ref q23, .int 0, .int 0, .int 0, .int 0, .int 0, .ref q24, .ref q25, .ref q26, .ref q27], px_i q1 (y 0) 940 (fun _ => 0), px_i q2 (y 1) 765 (fun i => Int32.ofInt (sgM c 2 i)), px_i q3 (y 1) 584 (fun _ => 0), px_i q4 (y 1) 135 (fun _ => 0), px_l q5 (y 2) 12 (fun _ => 0), px_l q6 (y 2) 19 (fun i => Int64.ofInt ((c 0 i).toInt)), px_i q7 (y 1) 8 (fun _ => 0), px_i q8 (y 1) 4640 (fun _ => 0), px_i q9 (y 1) 580 (fun _ => 0), px_i q10 (y 1) 13 (fun _ => 0), px_i q11 (y 1) 6 (fun _ => 0), px_i q12 (y 1) 6 (fun _ => 0), px_l q13 (y 2) 15625 (fun _ => 0), px_l q14 (y 2) 15625 (fun _ => 0), px_i q15 (y 1) 65 (fun _ => 0), px_i q16 (y 1) 156250 (fun _ => 0), px_i q17 (y 1) 400 (fun _ => 0), px_i q18 (y 1) 3 (fun _ => 0), px_i q19 (y 1) 3 (fun _ => 0), px_i q20 (y 1) 6 (fun _ => 0), px_i q21 (y 1) 52 (fun _ => 0), px_i q22 (y 1) 4 (fun _ => 0), px_i q23 (y 1) 45 (fun _ => 0), px_i q24 (y 3) 45 (fun _ => 0), px_i q25 (y 1) 1530 (fun _ => 0), px_l q26 (y 2) 12 (fun _ => 0), px_i q27 (y 3) 2 (fun _ => 0)] := rfl
set_option maxHeartbeats 4000000 in
set_option maxRecDepth 100000 in
theorem ct11 (l : Launch) (D : va_G) (y : Nat → ClassId) (sz x : Nat) : Met l yX11_init (px_w yX11_init cX11_init 1 none) ({ frames := 1, cells := 27, slots := 197375, locals := 12 }) (va_Pc [.ref x] (px_P D y sz [px_o x 11 fsX11])) (fun _ st oc t => (∃ (a : Nat → Nat) (σ : xS), oc = .returned none ∧ a 0 = x ∧ xgs shM σ ∧ RI σ ∧ σ 0 2 = 0 ∧ (∀ k : Nat, σ 27 k = 0) ∧ ((∀ j : Nat, j < 19 → σ 6 j = R8.getD j 0) ∧ ∃ c, σ = sgM c) ∧ va_P D vwCl (xws a y (fun _ _ => none) 28 shM σ) t.heap ∧ va_D (va_A [px_o x 11 fsX11] sz) (xws a y (fun _ _ => none) 28 shM σ)) ∧ va_F (va_A [px_o x 11 fsX11] sz) st t) 27 197375 (va_A [px_o x 11 fsX11] sz) := by
  refine v_cons (c_X11_init l D y sz x fsX11 rfl rfl rfl rfl rfl rfl rfl rfl rfl rfl rfl rfl rfl rfl rfl rfl rfl rfl rfl rfl rfl rfl rfl rfl rfl rfl rfl) (fun a st h => h) (fun a st o t _ h => ?_)
  obtain ⟨⟨⟨u1, u2, u3⟩, ho, hrw, hP, hD⟩, hF⟩ := h
  dsimp only at hP hD hrw
  have e9 : u3 0 = fun i => Int64.ofInt ((u3 0 i).toInt) := funext fun i => x64o _
  have e4 : (upd (fun _ => (0 : Int32)) 4 (-1)) = fun i => Int32.ofInt (sgM u3 2 i) := by
    funext i
    by_cases h : i = 4
    · subst h; rfl
    · rw [sgM_z u3 h]; unfold upd; rw [if_neg h]; rfl
  rw [e9, e4] at hP hD
  simp only [fsX11, List.set_cons_succ, List.set_cons_zero] at hP hD
  have hw := xwsM y u3 (x) ((u1 0)) ((u1 1)) ((u1 2)) ((u1 3)) ((u1 4)) ((u1 5)) ((u1 6)) ((u1 7)) ((u1 8)) ((u1 9)) ((u1 10)) ((u1 11)) ((u1 12)) ((u1 13)) ((u1 14)) ((u1 15)) ((u1 16)) ((u1 17)) ((u1 18)) ((u1 19)) ((u1 20)) ((u1 21)) ((u1 22)) ((u1 23)) ((u1 24)) ((u1 25)) ((u1 26))
  have hP9 : va_P D vwCl (xws (px_v [x, (u1 0), (u1 1), (u1 2), (u1 3), (u1 4), (u1 5), (u1 6), (u1 7), (u1 8), (u1 9), (u1 10), (u1 11), (u1 12), (u1 13), (u1 14), (u1 15), (u1 16), (u1 17), (u1 18), (u1 19), (u1 20), (u1 21), (u1 22), (u1 23), (u1 24), (u1 25), (u1 26)]) y (fun _ _ => none) 28 shM (sgM u3)) t.heap := by rw [hw]; exact hP.sub [0, 1, 2, 3, 4, 5, 6, 7, 8, 9, 10, 11, 12, 13, 14, 15, 16, 17, 18, 19, 20, 21, 22, 23, 24, 25, 26, 27] rfl
  have hD9 : va_D (va_A [px_o x 11 fsX11] sz) (xws (px_v [x, (u1 0), (u1 1), (u1 2), (u1 3), (u1 4), (u1 5), (u1 6), (u1 7), (u1 8), (u1 9), (u1 10), (u1 11), (u1 12), (u1 13), (u1 14), (u1 15), (u1 16), (u1 17), (u1 18), (u1 19), (u1 20), (u1 21), (u1 22), (u1 23), (u1 24), (u1 25), (u1 26)]) y (fun _ _ => none) 28 shM (sgM u3)) := by rw [hw]; exact hD.sub [0, 1, 2, 3, 4, 5, 6, 7, 8, 9, 10, 11, 12, 13, 14, 15, 16, 17, 18, 19, 20, 21, 22, 23, 24, 25, 26, 27] (by decide +kernel) rfl
  exact ⟨⟨_, _, ho, rfl, sgM_g u3, ri_sgM u3, rfl, fun _ => rfl, ⟨hrw, u3, rfl⟩, hP9, hD9⟩, hF⟩
