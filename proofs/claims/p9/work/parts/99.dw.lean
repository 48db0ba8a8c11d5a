section XP
variable {p : Program} {l : Launch} {e : Env} {R : Room} {s : State} {m : MethodId} {args : Array Value} {below : List Frame} {meth : Method} {c : Code}
variable {cc : ByteArray} {nL d : Nat} {own : String} {D : va_G} {yv : Nat → ClassId} {a : Nat → Nat} {ρ : Nat → Nat → Option Nat} {N : Nat} {sh : xH} {A : Nat → Prop} {kz : Nat × Nat} {Qm : State → Prop} {ret : Option FieldType} {pc : Nat} {L st : List xV} {σ : xS}
theorem xfs_set {codes : List Nat} {t j u : Nat} (hj : j < codes.length) : xfs a ρ σ t (codes.set j (u + 4)) = (xfs a ρ σ t codes).set j (.ref (a u)) := by
  refine List.ext_getElem? (fun k => ?_)
  have hl : (xfs a ρ σ t codes).length = codes.length := by unfold xfs; rw [List.length_map, List.length_zipIdx]
  rw [xfs_at, List.getElem?_set, List.getElem?_set, hl]
  by_cases hk : j = k
  · subst hk
    rw [if_pos rfl, if_pos hj, if_pos rfl, if_pos hj]
    rfl
  · rw [if_neg hk, if_neg hk, xfs_at]
/-- a reference comes into a field -/
theorem xs_putr {i ci j t u NN : Nat} {codes : List Nat} {C : String} {T : u_T} {ty0 : Nat → FieldType} {ty : FieldType} {sh2 : xH} (hC : XC p R s m args meth c D yv A own cc nL d ret) (hN : xfin N sh) (f1 : vwCl[ci]? = some (C, T, NN)) (f2 : ∀ w ∈ u_ws C T NN, w ∈ gw) (f3 : ∀ k, k < NN → parseFieldDescriptor (T k).2.2.1 = some (ty0 k)) (f4 : ∀ a, a < NN → ∀ b, b < NN → a ≠ b → (T a).2.1 ≠ (T b).2.1) (f5 : j < NN) (f6 : Cond.fieldLink own i (T j).1 (T j).2.1 (T j).2.2.1 ∈ gw) (hfin : (T j).2.2.2 = false) (hty : parseFieldDescriptor (T j).2.2.1 = some ty) (hn : ∀ q : Nat, narrow ty (.ref q) = .ref q) (hfit : ∀ q : Nat, fits ty (.ref q) = true)
    (hs : sh t = some (0, ci, codes)) (hj : j < codes.length) (hs2 : sh2 t = some (0, ci, codes.set j (u + 4))) (hout : ∀ w, w ≠ t → sh2 w = sh w) (hd : decode cc pc = .ok (.putfield i, 3)) (k : XA kz p l e R s m args below meth c D yv a ρ N sh2 A nL Qm (pc + 3) L st σ) : XA kz p l e R s m args below meth c D yv a ρ N sh A nL Qm pc L (xvr u :: xvr t :: st) σ := by
  obtain ⟨hx, hb, hml, hown, hg, hK, hA, hR1, hR2, hr, hlocks⟩ := hC
  obtain ⟨q, hq⟩ := xtags_in hN hs
  intro hL hst hσ hln H locs ls hP hD hS hl
  have hl2 : j < (xfs a ρ σ t codes).length := by unfold xfs; rw [List.length_map, List.length_zipIdx]; exact hj
  refine va_put hx hb hg f2 ty0 f3 f4 hown hK hP hD hS q (xws_at hq hs) f1 j f5 (hg _ f6) (fun _ h9 => h9) hfin (ty := ty) (v := .ref (a u)) hty (hn _) (hfit _) hl2 hd (fun H1 locs1 hP1 hD1 hS1 => ?_)
  have he := xws_upd (a := a) (y := yv) (ρ := ρ) (ρ2 := ρ) (σ := σ) (σ2 := σ) (sh2 := sh2) (x := .inr (ci, (xfs a ρ σ t codes).set j (.ref (a u)))) hq (fun w => by
    by_cases hw : w = t
    · rw [hw, hs, hs2]; rfl
    · rw [hout w hw]) (fun w hw e9 h9 => ⟨e9, by rw [hout w hw]; exact h9, rfl⟩) ⟨_, hs2, by
    show (Sum.inr (ci, xfs a ρ σ t (codes.set j (u + 4))) : va_E) = _
    rw [xfs_set hj]⟩
  refine k hL (xtl (xtl hst)) ?_ hln H1 locs1 ls (he ▸ hP1) (he ▸ hD1) hS1 hl
  refine ⟨fun w ci2 codes2 hs9 k9 c9 hc9 => ?_, fun w k9 n9 l9 hs9 => ?_⟩
  · by_cases hw : w = t
    · subst hw
      rw [hs2] at hs9
      cases hs9
      rw [List.getElem?_set] at hc9
      by_cases hk : j = k9
      · rw [if_pos hk, if_pos hj] at hc9
        have hc8 : u + 4 = c9 := Option.some.inj hc9
        exact ⟨fun h => by omega, fun h => by omega⟩
      · rw [if_neg hk] at hc9
        exact hσ.1 w _ codes hs k9 c9 hc9
    · rw [hout w hw] at hs9
      exact hσ.1 w ci2 codes2 hs9 k9 c9 hc9
  · have hw : w ≠ t := fun e => by rw [e, hs2] at hs9; cases hs9
    rw [hout w hw] at hs9
    exact hσ.2 w k9 n9 l9 hs9
end XP
set_option maxHeartbeats 4000000 in
set_option maxRecDepth 100000 in
theorem pX6_begin {σ : xS} {len most : Int} {Q : Option xV → xS → Prop} {Z : Nat → List xV → xS → Prop} (hp0 : 0 ≤ len ∧ len ≤ 940) (hQ : ∀ σ' : xS, Fr [] [2, 3, 4, 5, 6, 7, 8, 9, 10] σ σ' → (0 ≤ σ' 0 4 ∧ σ' 0 4 ≤ σ' 0 2 ∧ σ' 0 2 ≤ 940) → Q none σ') : xTE kX6_begin_b Q Z 5 [xvr 0, xvr 2, xvi len, xvi most] σ := by
  intro X hX hZZ
  have hF : Fr [] [2, 3, 4, 5, 6, 7, 8, 9, 10] σ σ := Fr.rf
  refine hX 400 5 _ _ ?_
  refine And.intro (Nat.le_of_ble_eq_true rfl) ?_
  intro r1 o1 a1 b1
  have hF := hF.p (j := 2) (v := r1) (by decide)
  have hF := hF.p (j := 3) (v := most) (by decide)
  have hF := hF.p (j := 4) (v := 0) (by decide)
  have hF := hF.p (j := 9) (v := 0) (by decide)
  have hF := hF.p (j := 10) (v := 0) (by decide)
  refine sX6_advance (σ := (xput (xput (xput (xput (xput σ 0 2 r1) 0 3 most) 0 4 0) 0 9 0) 0 10 0))  (show 0 ≤ (0) ∧ (0) ≤ (r1) ∧ (r1) ≤ 940 from by omega) (fun σ7 f7 p7 => ?_)
  have hF := hF.tr f7 (by decide) (by decide)
  have kf2_7 : σ7 0 2 = r1 := f7.2 2 (by decide)
  have p7 : 0 ≤ σ7 0 4 ∧ σ7 0 4 ≤ (r1) := p7
  refine And.intro rfl (And.intro rfl ?_)
  exact hQ _ hF (show 0 ≤ (σ7 0 4) ∧ (σ7 0 4) ≤ (σ7 0 2) ∧ (σ7 0 2) ≤ 940 from by first | trivial | omega)
def BQ (σ : xS) (Q : Option xV → xS → Prop) : Prop := ∀ σ' : xS, Fr [] [2, 3, 4, 5, 6, 7, 8, 9, 10] σ σ' → (0 ≤ σ' 0 4 ∧ σ' 0 4 ≤ σ' 0 2 ∧ σ' 0 2 ≤ 940) → Q none σ'
def EB : xE := fun as σ Q => ∃ len most : Int, as = [xvr 0, xvr 2, xvi len, xvi most] ∧ (0 ≤ len ∧ len ≤ 940) ∧ BQ σ Q
theorem EB_i {len most : Int} {σ : xS} {Q : Option xV → xS → Prop} (h0 : 0 ≤ len ∧ len ≤ 940) (hQ : ∀ σ' : xS, Fr [] [2, 3, 4, 5, 6, 7, 8, 9, 10] σ σ' → (0 ≤ σ' 0 4 ∧ σ' 0 4 ≤ σ' 0 2 ∧ σ' 0 2 ≤ 940) → Q none σ') : EB [xvr 0, xvr 2, xvi len, xvi most] σ Q := ⟨len, most, rfl, h0, hQ⟩
set_option maxRecDepth 100000 in
theorem mX6_begin (l : Launch) (D : va_G) (yv : Nat → ClassId) : xMt2 l D yv yX6_begin cX6_begin 4 none 2 3 shR0 shR EB := by
  intro a ρ sz as σ Q hE hσ has
  obtain ⟨len, most, rfl, h0, hQ⟩ := hE
  refine xEnter (d := 2) (mc := 0) (ms := 0) (by decide +kernel) (by simp [xargs]) hσ has ?_
  intro p e s m below meth c hsz hC
  show XA _ _ _ _ _ _ _ _ _ _ _ _ _ _ _ _ _ _ _ _ 0 [xvr 0, xvr 2, xvi len, xvi most] [] σ
  refine xs_aload hC (i := 0) (x := 0) (by decide +kernel) rfl ?_
  refine xs_aload hC (i := 1) (x := 2) (by decide +kernel) rfl ?_
  refine xs_putr (sh2 := shR) (ty0 := tyX6) (C := RX6) (T := TX6) (NN := 11) (ci := 6) (j := 1) (ty := .array .byte) hC fiR0 rfl inGX6 tyX6_ok nmX6 (by decide) q_1_222 rfl (by decide +kernel) (fun _ => rfl) (fun _ => rfl) rfl (by decide) rfl ?_ (by decide +kernel) ?_
  · intro w hw
    match w with
    | 0 => exact absurd rfl hw
    | 1 => rfl
    | 2 => rfl
    | w + 3 => rfl
  exact xTE_s (C := kX6_begin_b) (Z := fun _ _ _ => False) hC zX6_begin_b (hX6_begin_b l D yv) (Nat.zero_le _) (Nat.zero_le _) (fun r σ t h1 h2 h3 h4 h5 h6 => ⟨⟨r, σ, rfl, h1, h2, h3, h4, h5⟩, h6⟩) (pX6_begin h0 hQ) (fun _ _ _ h => h.elim)
