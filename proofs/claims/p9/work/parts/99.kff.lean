theorem q_5_228 : Cond.classLink RL 13 "java/util/NoSuchElementException" ∈ gw := gw_5 228 (by decide +kernel) rfl
theorem q_5_229 : Cond.methodLink RL 7 yX10_hand ∈ gw := gw_5 229 (by decide +kernel) rfl
theorem q_5_230 : Cond.instanceMethod yX10_hand ∈ gw := gw_5 230 (by decide +kernel) rfl
theorem q_5_231 : Cond.selects RX10 yX10_hand yX10_hand ∈ gw := gw_5 231 (by decide +kernel) rfl
theorem q_5_232 : Cond.code yX10_hand cX10_hand 3 (some .int) ∈ gw := gw_5 232 (by decide +kernel) rfl
theorem q_6_61 : Cond.methodLink RL 15 yX10_odds ∈ gw := gw_6 61 (by decide +kernel) rfl
theorem q_6_62 : Cond.instanceMethod yX10_odds ∈ gw := gw_6 62 (by decide +kernel) rfl
theorem q_6_63 : Cond.selects RX10 yX10_odds yX10_odds ∈ gw := gw_6 63 (by decide +kernel) rfl
theorem q_6_64 : Cond.code yX10_odds cX10_odds 6 (some .long) ∈ gw := gw_6 64 (by decide +kernel) rfl
theorem q_6_74 : Cond.methodLink RL 19 yX10_next ∈ gw := gw_6 74 (by decide +kernel) rfl
theorem q_6_75 : Cond.instanceMethod yX10_next ∈ gw := gw_6 75 (by decide +kernel) rfl
theorem q_6_76 : Cond.selects RX10 yX10_next yX10_next ∈ gw := gw_6 76 (by decide +kernel) rfl
theorem q_6_77 : Cond.code yX10_next cX10_next 6 (some .long) ∈ gw := gw_6 77 (by decide +kernel) rfl
theorem dL_hand_0 : decode cL_hand 0 = .ok (.aload_n 3, 1) := by decide +kernel
theorem dL_hand_1 : decode cL_hand 1 = .ok (.iconst 0, 1) := by decide +kernel
theorem dL_hand_2 : decode cL_hand 2 = .ok (.aload_n 0, 1) := by decide +kernel
theorem dL_hand_3 : decode cL_hand 3 = .ok (.iload_n 1, 1) := by decide +kernel
theorem dL_hand_4 : decode cL_hand 4 = .ok (.iload_n 2, 1) := by decide +kernel
theorem dL_hand_5 : decode cL_hand 5 = .ok (.invokevirtual 7, 3) := by decide +kernel
theorem dL_hand_8 : decode cL_hand 8 = .ok (.i2l, 1) := by decide +kernel
theorem dL_hand_9 : decode cL_hand 9 = .ok (.lastore, 1) := by decide +kernel
theorem dL_hand_10 : decode cL_hand 10 = .ok (.goto 7, 3) := by decide +kernel
theorem dL_hand_13 : decode cL_hand 13 = .ok (.astore 4, 2) := by decide +kernel
theorem dL_hand_15 : decode cL_hand 15 = .ok (.iconst 1, 1) := by decide +kernel
theorem dL_hand_16 : decode cL_hand 16 = .ok (.ireturn, 1) := by decide +kernel
theorem dL_hand_17 : decode cL_hand 17 = .ok (.iconst 0, 1) := by decide +kernel
theorem dL_hand_18 : decode cL_hand 18 = .ok (.ireturn, 1) := by decide +kernel
theorem dL_odds_0 : decode cL_odds 0 = .ok (.aload 5, 2) := by decide +kernel
theorem dL_odds_2 : decode cL_odds 2 = .ok (.iconst 0, 1) := by decide +kernel
theorem dL_odds_3 : decode cL_odds 3 = .ok (.aload_n 0, 1) := by decide +kernel
theorem dL_odds_4 : decode cL_odds 4 = .ok (.iload_n 1, 1) := by decide +kernel
theorem dL_odds_5 : decode cL_odds 5 = .ok (.iload_n 2, 1) := by decide +kernel
theorem dL_odds_6 : decode cL_odds 6 = .ok (.iload_n 3, 1) := by decide +kernel
theorem dL_odds_7 : decode cL_odds 7 = .ok (.iload 4, 2) := by decide +kernel
theorem dL_odds_9 : decode cL_odds 9 = .ok (.invokevirtual 15, 3) := by decide +kernel
theorem dL_odds_12 : decode cL_odds 12 = .ok (.lastore, 1) := by decide +kernel
theorem dL_odds_13 : decode cL_odds 13 = .ok (.goto 7, 3) := by decide +kernel
theorem dL_odds_16 : decode cL_odds 16 = .ok (.astore 6, 2) := by decide +kernel
theorem dL_odds_18 : decode cL_odds 18 = .ok (.iconst 1, 1) := by decide +kernel
theorem dL_odds_19 : decode cL_odds 19 = .ok (.ireturn, 1) := by decide +kernel
theorem dL_odds_20 : decode cL_odds 20 = .ok (.iconst 0, 1) := by decide +kernel
theorem dL_odds_21 : decode cL_odds 21 = .ok (.ireturn, 1) := by decide +kernel
theorem dL_next_0 : decode cL_next 0 = .ok (.aload 4, 2) := by decide +kernel
theorem dL_next_2 : decode cL_next 2 = .ok (.iconst 0, 1) := by decide +kernel
theorem dL_next_3 : decode cL_next 3 = .ok (.aload_n 0, 1) := by decide +kernel
theorem dL_next_4 : decode cL_next 4 = .ok (.iload_n 1, 1) := by decide +kernel
theorem dL_next_5 : decode cL_next 5 = .ok (.iload_n 2, 1) := by decide +kernel
theorem dL_next_6 : decode cL_next 6 = .ok (.iload_n 3, 1) := by decide +kernel
theorem dL_next_7 : decode cL_next 7 = .ok (.invokevirtual 19, 3) := by decide +kernel
theorem dL_next_10 : decode cL_next 10 = .ok (.lastore, 1) := by decide +kernel
theorem dL_next_11 : decode cL_next 11 = .ok (.goto 7, 3) := by decide +kernel
theorem dL_next_14 : decode cL_next 14 = .ok (.astore 5, 2) := by decide +kernel
theorem dL_next_16 : decode cL_next 16 = .ok (.iconst 1, 1) := by decide +kernel
theorem dL_next_17 : decode cL_next 17 = .ok (.ireturn, 1) := by decide +kernel
theorem dL_next_18 : decode cL_next 18 = .ok (.iconst 0, 1) := by decide +kernel
theorem dL_next_19 : decode cL_next 19 = .ok (.ireturn, 1) := by decide +kernel
def shOu (w : Nat → Bool) : xH := fun t => if t < 194 then vsh w t else if t = 194 then some (3, 1, []) else none
theorem shOu_fin (w : Nat → Bool) : xfin 195 (shOu w) := fun t h => by
  unfold shOu
  rw [if_neg (by omega), if_neg (by omega)]
theorem shOu_194 (w : Nat → Bool) : shOu w 194 = some (3, 1, []) := rfl
theorem shOu_lt {w : Nat → Bool} {t : Nat} (h : t < 194) : shOu w t = vsh w t := if_pos h
theorem famO : gFam 194 195 vsh shOu := ⟨by decide, vfi, shOu_fin, fun w t h => shOu_lt h, fun w w' t h => by unfold shOu; rw [if_neg (show ¬ t < 194 by omega), if_neg (show ¬ t < 194 by omega)], fun w t e h c hc => (vSome h hc).1, fun w t e h1 h2 c hc => by
  unfold shOu at h2
  rw [if_neg (by omega)] at h2
  split at h2
  · cases h2; cases hc
  · cases h2⟩
theorem shOu_shp (w : Nat → Bool) : xShp (shOu w) ∧ xLn (shOu w) := by
  have h := okW (w := w) okVF0
  refine ⟨fun t ci codes hs => ?_, fun t k n r hs => ?_⟩
  · unfold shOu at hs
    split at hs
    · exact h.1 t ci codes hs
    · split at hs <;> cases hs
  · unfold shOu at hs
    split at hs
    · exact h.2 t k n r hs
    · split at hs
      · cases hs; decide
      · cases hs
/-- the new and the old together -/
def mgS (N : Nat) (σ : xS) : xS → xS := fun f t => if t < N then f t else σ t
def mgA (N : Nat) (a : Nat → Nat) : (Nat → Nat) → Nat → Nat := fun f t => if t < N then f t else a t
def mgR (N : Nat) (ρ : Nat → Nat → Option Nat) : (Nat → Nat → Option Nat) → Nat → Nat → Option Nat := fun f t => if t < N then f t else ρ t
theorem mg_ok (N1 N2 : Nat) (σ : xS) (a : Nat → Nat) (ρ : Nat → Nat → Option Nat) : gMg N1 N2 σ a ρ (mgS N1 σ) (mgA N1 a) (mgR N1 ρ) := ⟨fun f t => ⟨fun h => if_pos h, fun h _ => if_neg (by omega)⟩, fun f t => ⟨fun h => if_pos h, fun h _ => if_neg (by omega)⟩, fun f t => ⟨fun h => if_pos h, fun h _ => if_neg (by omega)⟩⟩
theorem mg_LK {N : Nat} {a a' : Nat → Nat} {ρ ρ' : Nat → Nat → Option Nat} {w : Nat → Bool} (hN : 194 ≤ N) (h : LK a' ρ' w) : LK (mgA N a a') (mgR N ρ ρ') w := by
  have hr : ∀ t, t < 194 → mgR N ρ ρ' t = ρ' t := fun t ht => if_pos (by omega)
  have ha : ∀ t, t < 194 → mgA N a a' t = a' t := fun t ht => if_pos (by omega)
  refine ⟨fun i hi => ?_, fun k hk => ?_, fun k hk => ?_, ?_, ?_⟩
  · rw [hr 40 (by omega), ha _ (by omega)]; exact h.1 i hi
  · rw [hr 41 (by omega), ha _ (by omega)]; exact h.2.1 k hk
  · rw [hr 42 (by omega), ha _ (by omega)]; exact h.2.2.1 k hk
  · rw [hr 0 (by omega), ha 181 (by omega)]; exact h.2.2.2.1
  · rw [hr 0 (by omega), ha 189 (by omega)]; exact h.2.2.2.2
theorem jw_mg {N : Nat} {σ σ' : xS} {w : Nat → Bool} (hN : 194 ≤ N) (h : JW w σ') : JW w (mgS N σ σ') := by
  have e : ∀ t, t < 194 → mgS N σ σ' t = σ' t := fun t ht => if_pos (by omega)
  exact JW.hi h (fun t ht => e t (by omega))
def oQ (D : va_G) (yv : Nat → ClassId) (a : Nat → Nat) (w : Nat → Bool) (A : Nat → Prop) (Q : Option xV → (Nat → Bool) → xS → Prop) : Array Value → State → Outcome → State → Prop := fun _ st oc t =>
  (∃ (r : Option xV) (w' : Nat → Bool) (a' : Nat → Nat) (ρ' : Nat → Nat → Option Nat) (σ' : xS), oc = .returned (r.map (xv a')) ∧ Q r w' σ' ∧ (∀ v, r = some v → xg v) ∧ (∀ u, r ≠ some (xvr u)) ∧ LK a' ρ' w' ∧ xgs (shOu w') σ' ∧ (∀ t, (shOu w t).isSome = true → a' t = a t) ∧ va_P D vwCl (xws a' yv ρ' 195 (shOu w') σ') t.heap ∧ va_D A (xws a' yv ρ' 195 (shOu w') σ')) ∧ va_F A st t
def lMt (l : Launch) (D : va_G) (yv : Nat → ClassId) (ad : Nat → Nat) (y : MethodName) (cy : ByteArray) (nLy : Nat) (ret : Option FieldType) (hh : List (Nat × Nat × Nat × Nat)) (d : Nat) (mc ms : (Nat → Bool) → Nat) (E : vE) : Prop :=
  ∀ (a : Nat → Nat) (ρ : Nat → Nat → Option Nat) (w : Nat → Bool) (sz : Nat) (as : List xV) (σ : xS) (Q : Option xV → (Nat → Bool) → xS → Prop), E w as σ Q → LK a ρ w → xgs (shOu w) σ → (∀ v ∈ as, xg v) →
    Met l y (px_wW y cy nLy ret hh) (vroom d (mc w) (ms w)) (va_Pc (as.map (xv a)) (fun U => px_P D yv sz (xws a yv ρ 195 (shOu w) σ) U ∧ vY ad (va_A (xws a yv ρ 195 (shOu w) σ) sz) U U.heap)) (oQ D yv a w (va_A (xws a yv ρ 195 (shOu w) σ) sz) Q) (mc w) (ms w) (va_A (xws a yv ρ 195 (shOu w) σ) sz)
theorem lEnter {l : Launch} {D : va_G} {yv : Nat → ClassId} {ad : Nat → Nat} {y : MethodName} {cc : ByteArray} {nL : Nat} {ret : Option FieldType} {hh : List (Nat × Nat × Nat × Nat)} {N : Nat} {sh : xH} {d mc ms sz : Nat} {a : Nat → Nat} {ρ : Nat → Nat → Option Nat} {as : List xV} {σ : xS} {Qc : Array Value → State → Outcome → State → Prop} (hpl : plainName y.cls = true) (hlen : (xargs as).length ≤ nL) (hσ : xgs sh σ) (has : ∀ v ∈ as, xg v)
    (body : ∀ (p : Program) (e : Env) (s : State) (m : MethodId) (below : List Frame) (meth : Method) (c : Code), s.heap.size = sz → vY ad (va_A (xws a yv ρ N sh σ) sz) s s.heap → c.exceptionTable.toList = tableOf hh → XC p (vroom d mc ms) s m (as.map (xv a)).toArray meth c D yv (va_A (xws a yv ρ N sh σ) sz) y.cls cc nL d ret → XA (0, 0) p l e (vroom d mc ms) s m (as.map (xv a)).toArray below meth c D yv a ρ N sh (va_A (xws a yv ρ N sh σ) sz) nL (MQ below Qc (as.map (xv a)).toArray s mc ms (va_A (xws a yv ρ N sh σ) sz)) 0 (xargs as ++ List.replicate (nL - (xargs as).length) xvu) [] σ) :
    Met l y (px_wW y cc nL ret hh) (vroom d mc ms) (va_Pc (as.map (xv a)) (fun U => px_P D yv sz (xws a yv ρ N sh σ) U ∧ vY ad (va_A (xws a yv ρ N sh σ) sz) U U.heap)) Qc mc ms (va_A (xws a yv ρ N sh σ) sz) := by
  refine va_MetW (cc := cc) (maxL := nL) (ret := ret) (hh := hh) hpl rfl ?_
  intro p e s m args below meth c s₁ B hml hv
  obtain ⟨rfl, ⟨hsz, hP, hK, hD0⟩, hYY⟩ := hv
  have hts := atoms_spec (ws := px_wW y cc nL ret hh) B.pre
  have htab := vx_table (x := y) B (hts _ List.mem_cons_self)
  have hg : ∀ w ∈ gw, w.before (as.map (xv a)).toArray s = true := fun w h => hts w (List.mem_cons_of_mem _ h)
  have hown : s.vm.findClass y.cls = some m.cls := findClass_of_methodNamed B.named
  have hb0 := body p e s m below meth c hsz hYY htab ⟨B.exec, B.bytes, hml, hown, hg, hK, fun q h => Or.inr (by omega), Nat.le_refl _, Nat.le_refl _, B.returns, B.notSynchronized⟩
  have hD := hD0.self (sz := sz)
  have hl := lv_entry (as.map (xv a)) (n := nL) (by rw [xargs_len]; exact hlen)
  rw [lg_entry_eq]
  generalize (lg_sl (as.map (xv a)) ++ List.replicate (nL - (lg_sl (as.map (xv a))).length) Slot.unset).toArray = ls at hl ⊢
  refine hb0 ?_ (fun v h => by cases h) hσ ?_ s.heap [] ls hP hD va_S.rf ?_
  · intro v hv
    rcases List.mem_append.mp hv with hv | hv
    · exact xargs_g has v hv
    · rw [List.eq_of_mem_replicate hv]; exact trivial
  · rw [List.length_append, List.length_replicate]
    omega
  · refine ⟨hl.1, hl.2.1, fun q hq => ?_⟩
    obtain ⟨w, h1, h2, h3⟩ := xlv_mem hq
    have h4 : (xargs as)[q.1]? = some w := by
      rcases Nat.lt_or_ge q.1 (xargs as).length with h5 | h5
      · rwa [List.getElem?_append_left h5] at h1
      · rw [List.getElem?_append_right h5] at h1
        exact absurd (List.eq_of_mem_replicate (List.mem_of_getElem? h1)) h2
    have h6 := hl.2.2 _ (xargs_at a as 0 q.1 w h4 h2)
    rw [h3]
    simpa using h6
section XP
variable {p : Program} {l : Launch} {e : Env} {R : Room} {s : State} {m : MethodId} {args : Array Value} {below : List Frame} {meth : Method} {c : Code}
variable {cc : ByteArray} {nL d : Nat} {own : String} {D : va_G} {yv : Nat → ClassId} {a : Nat → Nat} {ρ : Nat → Nat → Option Nat} {N : Nat} {sh : xH} {A : Nat → Prop} {kz : Nat × Nat} {Qm : State → Prop} {ret : Option FieldType} {pc : Nat} {L st : List xV} {σ : xS}
theorem oTS {C : xC} {w0 w : Nat → Bool} {a0 : Nat → Nat} {K : Option xV → (Nat → Bool) → xS → Prop} {c0 : Nat} {L0 st0 : List xV} {σ0 : xS} {mc ms : Nat} (hkq : kz.1 ≤ mc ∧ kz.2 ≤ ms) (hC : XC p R s m args meth c D yv A own cc C.2.2.2.2.2.2 d (xrt C.2.2.2.2.2.1)) (hS0 : xSt own cc C 195) (hE : ∀ (v : Bool) i n E, C.2.2.2.1 (2 * i + if v then 0 else 1) = some (n, E) → xCk l D yv own cc d 195 C.1 v i n E)
    (hk1 : kz.1 ≤ R.cells) (hk2 : kz.2 ≤ R.slots) (hsh : C.1 = shOu w) (hLK : LK a ρ w) (hag : ∀ t, (shOu w0 t).isSome = true → a t = a0 t)
    (hT : xTS C (fun r σ => (∀ u, r ≠ some (xvr u)) ∧ K r w σ) (fun _ _ _ => False) c0 L0 st0 σ0) : XA kz p l e R s m args below meth c D yv a ρ 195 (shOu w) A C.2.2.2.2.2.2 (MQ below (oQ D yv a0 w0 A K) args s mc ms A) c0 L0 st0 σ0 := by
  rw [← hsh]
  refine xTS_sG (kq := (mc, ms)) hkq hC hS0 hE hk1 hk2 (fun r σ t h1 h2 h3 h4 h5 h6 => ?_) hT (fun _ _ _ h => h.elim)
  rw [hsh] at h3 h4 h5
  exact ⟨⟨r, w, a, ρ, σ, rfl, h1.2, h2, h1.1, hLK, h3, hag, h4, h5⟩, h6⟩
theorem xs_aloadL (hC : XC p R s m args meth c D yv A own cc nL d ret) {i : Nat} {x : Nat} (hd : decode cc pc = .ok (.aload i, 2)) (h1 : L[i]? = some (xvr x)) (k : XA kz p l e R s m args below meth c D yv a ρ N sh A nL Qm (pc + 2) L (xvr x :: st) σ) : XA kz p l e R s m args below meth c D yv a ρ N sh A nL Qm pc L st σ := by
  intro hL hst hσ hln H locs ls hP hD hS hl
  exact lv_aload hC.1 hC.2.1 hd (hl.2.2 _ (xlv_in h1 (by simp))) (k hL (xcons hst (hL _ (List.mem_of_getElem? h1))) hσ hln H locs ls hP hD hS hl)
theorem xs_iloadL (hC : XC p R s m args meth c D yv A own cc nL d ret) {i : Nat} {x : Int} (hd : decode cc pc = .ok (.iload i, 2)) (h1 : L[i]? = some (xvi x)) (k : XA kz p l e R s m args below meth c D yv a ρ N sh A nL Qm (pc + 2) L (xvi x :: st) σ) : XA kz p l e R s m args below meth c D yv a ρ N sh A nL Qm pc L st σ := by
  intro hL hst hσ hln H locs ls hP hD hS hl
  exact lv_iload hC.1 hC.2.1 hd (hl.2.2 _ (xlv_in h1 (by simp))) (k hL (xcons hst (hL _ (List.mem_of_getElem? h1))) hσ hln H locs ls hP hD hS hl)
theorem xs_iconst (hC : XC p R s m args meth c D yv A own cc nL d ret) {z : Int} (h1 : -1 ≤ z) (h2 : z ≤ 5) (hd : decode cc pc = .ok (.iconst z, 1)) (k : XA kz p l e R s m args below meth c D yv a ρ N sh A nL Qm (pc + 1) L (xvi z :: st) σ) : XA kz p l e R s m args below meth c D yv a ρ N sh A nL Qm pc L st σ := by
  have hr1 : xR32 z := ⟨by omega, by omega⟩
  intro hL hst hσ hln H locs ls hP hD hS hl
  exact lv_iconst hC.1 hC.2.1 hd rfl (k hL (xcons hst hr1) hσ hln H locs ls hP hD hS hl)
end XP
def Rlaw (σ : xS) (w : Nat → Bool) (r : Option xV) (w' : Nat → Bool) (σ' : xS) : Prop := (∃ z : Int, r = some (xvi z)) ∧ Rx σ w w' σ'
def pubO (ar : List xV → Prop) : vE := fun w as σ Q => JW w σ ∧ ar as ∧ ∀ r w' σ', JW w' σ' → Rlaw σ w r w' σ' → Q r w' σ'
theorem oLp {w : Nat → Bool} {L : List xV} (h : L.all (fun v => match v with
  | .inr (.inr (.inl u)) => decide (u < 47 ∨ u = 194)
  | _ => true) = true) : ∀ u, xvr u ∈ L → (194 ≤ u ∧ u < 195) ∨ (vsh w u).isSome = true := by
  intro u hu
  have h1 := List.all_eq_true.mp h _ hu
  have h2 : u < 47 ∨ u = 194 := of_decide_eq_true h1
  rcases h2 with h2 | h2
  · have h3 : blkV u = 0 := by unfold blkV; rw [if_pos h2]
    obtain ⟨e2, he2⟩ : ∃ e2, wlVF0[u]? = some e2 := ⟨_, List.getElem?_eq_getElem (by rw [vLen]; omega)⟩
    rw [show vsh w u = some e2 from shW_of he2 (Or.inl h3)]
    exact Or.inr rfl
  · exact Or.inl (by omega)
theorem oNl {L : List xV} (h : L.all (fun v => match v with
  | .inr (.inl _) => false
  | _ => true) = true) : ∀ (j : Nat) (z : Int), L[j]? ≠ some (xvl z) := fun j z hj => by
  have h1 := List.all_eq_true.mp h _ (List.mem_of_getElem? hj)
  cases h1
theorem oAg {w : Nat → Bool} {a a1 : Nat → Nat} (h : ∀ t, (vsh w t).isSome = true → a1 t = a t) : ∀ t, (shOu w t).isSome = true → mgA 194 a a1 t = a t := by
  intro t ht
  by_cases h1 : t < 194
  · rw [shOu_lt h1] at ht
    exact (if_pos h1).trans (h t ht)
  · exact if_neg h1
theorem jw_o {w : Nat → Bool} {σ : xS} {j : Nat} {v : Int} (h : JW w σ) : JW w (xput σ 194 j v) := JW.hi h (fun t ht => xput_ne (by omega))
def tL_hand_n : List (Nat × Bool × List xI) := [(8, true, [(8, .i2l, 1), (9, .lastore, 1), (10, .goto 7, 3)]), (17, false, [(17, .iconst 0, 1), (18, .ireturn, 1)])]
def kL_hand_n (w : Nat → Bool) : xC := (shOu w, (fun _ => none), (fun _ => none), (fun _ => none), tL_hand_n, 1, 5)
theorem zL_hand_n (w : Nat → Bool) : xSt RL cL_hand (kL_hand_n w) 195 := ⟨shOu_fin w, (shOu_shp w).1, (shOu_shp w).2, (fun _ _ _ h => by cases h), ⟨(fun _ _ h => by cases h), (fun _ _ h => by cases h)⟩, (by decide +kernel : xokT cL_hand tL_hand_n = true)⟩
def tL_hand_x : List (Nat × Bool × List xI) := [(15, true, [(15, .iconst 1, 1), (16, .ireturn, 1)])]
def kL_hand_x (w : Nat → Bool) : xC := (shOu w, (fun _ => none), (fun _ => none), (fun _ => none), tL_hand_x, 1, 5)
theorem zL_hand_x (w : Nat → Bool) : xSt RL cL_hand (kL_hand_x w) 195 := ⟨shOu_fin w, (shOu_shp w).1, (shOu_shp w).2, (fun _ _ _ h => by cases h), ⟨(fun _ _ h => by cases h), (fun _ _ h => by cases h)⟩, (by decide +kernel : xokT cL_hand tL_hand_x = true)⟩
set_option maxHeartbeats 4000000 in
set_option maxRecDepth 100000 in
theorem mL_hand (l : Launch) (D : va_G) (yv : Nat → ClassId) (ad : Nat → Nat) (hst : l.stackTraces = false) : lMt l D yv ad yL_hand cL_hand 5 (some .int) [(0, 10, 13, 13)] 7 (fun _ => 1) (fun _ => 6) (pubO (fun as => ∃ p0 k0 : Int, as = [xvr 0, xvi p0, xvi k0, xvr 194])) := by
  intro a ρ w sz as σ Q hE hLK hσ has
  obtain ⟨hJ, ⟨p0, k0, rfl⟩, hQ⟩ := hE
  refine lEnter (N := 195) (sh := shOu w) (by decide +kernel) (Nat.le_of_ble_eq_true rfl) hσ has (fun p e s m below meth c hsz hYY htab hC => ?_)
  generalize va_A (xws a yv ρ 195 (shOu w) σ) sz = A at hC hYY ⊢
  show XA (0, 0) p l e (vroom 7 ((fun _ => 1) w) ((fun _ => 6) w)) s m _ below meth c D yv a ρ 195 (shOu w) A 5 _ 0 [xvr 0, xvi p0, xvi k0, xvr 194, xvu] [] σ
  refine xs_aload hC (i := 3) (x := 194) dL_hand_0 rfl ?_
  refine xs_iconst hC (by decide) (by decide) dL_hand_1 ?_
  refine xs_aload hC (i := 0) (x := 0) dL_hand_2 rfl ?_
  refine xs_iload hC (i := 1) (x := p0) dL_hand_3 rfl ?_
  refine xs_iload hC (i := 2) (x := k0) dL_hand_4 rfl ?_
  refine vxs_call (hi := 4) (ht := 13) (ec := 10) (rest := [xvi 0, xvr 194]) (as' := [xvi p0, xvi k0]) (t := 0) (ci := 10) (n := 2) (K := fun r w' σ' => (∃ z : Int, r = some (xvi z)) ∧ JW w' σ' ∧ Rx σ w w' σ') (Kx := fun w' σ' => JW w' σ' ∧ Rx σ w w' σ') (mg_ok 194 195 σ a ρ) hC hYY (mvX10_hand l D yv ad hst) (Nat.le_of_ble_eq_true rfl) famO q_5_229 q_5_230 q_5_231 q_1_1 q_5_232 rfl rfl (by decide +kernel) (by decide) (Nat.le_of_eq (Nat.zero_add _)) (Nat.le_of_eq (Nat.zero_add _)) dL_hand_5 (sh0 _) rfl (by decide) hLK (oLp (by rfl)) (oLp (by rfl)) ⟨hJ, ⟨p0, k0, rfl⟩, (fun r w' σ' h1 h2 => ⟨h2.1, h1, h2.2⟩), (fun w' σ' h1 h2 => ⟨h1, h2⟩)⟩ htab (by decide) q_5_228 dL_hand_13 (Nat.le_of_ble_eq_true rfl) (oNl (by rfl)) (fun r w1 a1 ρ1 σ1 hk hLK1 hag1 => ?_) (fun w1 a1 ρ1 σ1 hk hLK1 hag1 => ?_)
  · obtain ⟨⟨z, rfl⟩, hJ1, hR1⟩ := hk
    refine oTS (C := kL_hand_n w1) (w := w1) (w0 := w) (a0 := a) (kz := (0 + (1), 0 + (6))) (mc := ((fun _ => 1) w)) (ms := ((fun _ => 6) w)) ⟨Nat.le_of_eq (Nat.zero_add _), Nat.le_of_eq (Nat.zero_add _)⟩ hC (zL_hand_n w1) (fun v i n E he => by cases he) (Nat.le_of_eq (Nat.zero_add _)) (Nat.le_of_eq (Nat.zero_add _)) rfl (mg_LK (by decide) hLK1) (oAg hag1) (fun X hX hZ => ⟨400, ?_⟩)
    show xw _ _ _ _ _ _ _ _ _ _ [xvr 0, xvi p0, xvi k0, xvr 194, xvu] [xvi z, xvi 0, xvr 194] _
    exact ⟨rfl, ⟨by decide, by decide⟩, rfl, ⟨(fun _ h => by cases h), hQ _ w1 _ (jw_o (jw_mg (by decide) hJ1)) ⟨⟨_, rfl⟩, (by show σ1 0 1 = σ 0 1; exact hR1.1), hR1.2.1, hR1.2.2⟩⟩⟩
  · obtain ⟨hJ1, hR1⟩ := hk
    refine oTS (C := kL_hand_x w1) (w := w1) (w0 := w) (a0 := a) (kz := (0 + (1), 0 + (6))) (mc := ((fun _ => 1) w)) (ms := ((fun _ => 6) w)) ⟨Nat.le_of_eq (Nat.zero_add _), Nat.le_of_eq (Nat.zero_add _)⟩ hC (zL_hand_x w1) (fun v i n E he => by cases he) (Nat.le_of_eq (Nat.zero_add _)) (Nat.le_of_eq (Nat.zero_add _)) rfl (mg_LK (by decide) hLK1) (oAg hag1) (fun X hX hZ => ⟨400, ?_⟩)
    exact ⟨rfl, ⟨(fun _ h => by cases h), hQ _ w1 _ (jw_mg (by decide) hJ1) ⟨⟨_, rfl⟩, (by show σ1 0 1 = σ 0 1; exact hR1.1), hR1.2.1, hR1.2.2⟩⟩⟩
def tL_odds_n : List (Nat × Bool × List xI) := [(12, true, [(12, .lastore, 1), (13, .goto 7, 3)]), (20, false, [(20, .iconst 0, 1), (21, .ireturn, 1)])]
def kL_odds_n (w : Nat → Bool) : xC := (shOu w, (fun _ => none), (fun _ => none), (fun _ => none), tL_odds_n, 1, 7)
theorem zL_odds_n (w : Nat → Bool) : xSt RL cL_odds (kL_odds_n w) 195 := ⟨shOu_fin w, (shOu_shp w).1, (shOu_shp w).2, (fun _ _ _ h => by cases h), ⟨(fun _ _ h => by cases h), (fun _ _ h => by cases h)⟩, (by decide +kernel : xokT cL_odds tL_odds_n = true)⟩
def tL_odds_x : List (Nat × Bool × List xI) := [(18, true, [(18, .iconst 1, 1), (19, .ireturn, 1)])]
def kL_odds_x (w : Nat → Bool) : xC := (shOu w, (fun _ => none), (fun _ => none), (fun _ => none), tL_odds_x, 1, 7)
theorem zL_odds_x (w : Nat → Bool) : xSt RL cL_odds (kL_odds_x w) 195 := ⟨shOu_fin w, (shOu_shp w).1, (shOu_shp w).2, (fun _ _ _ h => by cases h), ⟨(fun _ _ h => by cases h), (fun _ _ h => by cases h)⟩, (by decide +kernel : xokT cL_odds tL_odds_x = true)⟩
set_option maxHeartbeats 4000000 in
set_option maxRecDepth 100000 in
theorem mL_odds (l : Launch) (D : va_G) (yv : Nat → ClassId) (ad : Nat → Nat) (hst : l.stackTraces = false) : lMt l D yv ad yL_odds cL_odds 7 (some .int) [(0, 13, 16, 13)] 7 (fun w => (if w 13 = true then 0 else 8) + 1) (fun w => (if w 13 = true then 0 else 15684) + 6) (pubO (fun as => ∃ o0 q0 k0 t0 : Int, as = [xvr 0, xvi o0, xvi q0, xvi k0, xvi t0, xvr 194])) := by
  intro a ρ w sz as σ Q hE hLK hσ has
  obtain ⟨hJ, ⟨o0, q0, k0, t0, rfl⟩, hQ⟩ := hE
  refine lEnter (N := 195) (sh := shOu w) (by decide +kernel) (Nat.le_of_ble_eq_true rfl) hσ has (fun p e s m below meth c hsz hYY htab hC => ?_)
  generalize va_A (xws a yv ρ 195 (shOu w) σ) sz = A at hC hYY ⊢
  show XA (0, 0) p l e (vroom 7 ((fun w => (if w 13 = true then 0 else 8) + 1) w) ((fun w => (if w 13 = true then 0 else 15684) + 6) w)) s m _ below meth c D yv a ρ 195 (shOu w) A 7 _ 0 [xvr 0, xvi o0, xvi q0, xvi k0, xvi t0, xvr 194, xvu] [] σ
  refine xs_aloadL hC (i := 5) (x := 194) dL_odds_0 rfl ?_
  refine xs_iconst hC (by decide) (by decide) dL_odds_2 ?_
  refine xs_aload hC (i := 0) (x := 0) dL_odds_3 rfl ?_
  refine xs_iload hC (i := 1) (x := o0) dL_odds_4 rfl ?_
  refine xs_iload hC (i := 2) (x := q0) dL_odds_5 rfl ?_
  refine xs_iload hC (i := 3) (x := k0) dL_odds_6 rfl ?_
  refine xs_iloadL hC (i := 4) (x := t0) dL_odds_7 rfl ?_
  refine vxs_call (hi := 6) (ht := 16) (ec := 13) (rest := [xvi 0, xvr 194]) (as' := [xvi o0, xvi q0, xvi k0, xvi t0]) (t := 0) (ci := 10) (n := 4) (K := fun r w' σ' => (∃ z : Int, r = some (xvl z)) ∧ JW w' σ' ∧ Rx σ w w' σ') (Kx := fun w' σ' => JW w' σ' ∧ Rx σ w w' σ') (mg_ok 194 195 σ a ρ) hC hYY (mvX10_odds l D yv ad hst) (Nat.le_of_ble_eq_true rfl) famO q_6_61 q_6_62 q_6_63 q_1_1 q_6_64 rfl rfl (by decide +kernel) (by decide) (Nat.le_of_eq (Nat.zero_add _)) (Nat.le_of_eq (Nat.zero_add _)) dL_odds_9 (sh0 _) rfl (by decide) hLK (oLp (by rfl)) (oLp (by rfl)) ⟨hJ, ⟨o0, q0, k0, t0, rfl⟩, (fun r w' σ' h1 h2 => ⟨h2.1, h1, h2.2⟩), (fun w' σ' h1 h2 => ⟨h1, h2⟩)⟩ htab (by decide) q_5_228 dL_odds_16 (Nat.le_of_ble_eq_true rfl) (oNl (by rfl)) (fun r w1 a1 ρ1 σ1 hk hLK1 hag1 => ?_) (fun w1 a1 ρ1 σ1 hk hLK1 hag1 => ?_)
  · obtain ⟨⟨z, rfl⟩, hJ1, hR1⟩ := hk
    refine oTS (C := kL_odds_n w1) (w := w1) (w0 := w) (a0 := a) (kz := (0 + ((if w 13 = true then 0 else 8) + 1), 0 + ((if w 13 = true then 0 else 15684) + 6))) (mc := ((fun w => (if w 13 = true then 0 else 8) + 1) w)) (ms := ((fun w => (if w 13 = true then 0 else 15684) + 6) w)) ⟨Nat.le_of_eq (Nat.zero_add _), Nat.le_of_eq (Nat.zero_add _)⟩ hC (zL_odds_n w1) (fun v i n E he => by cases he) (Nat.le_of_eq (Nat.zero_add _)) (Nat.le_of_eq (Nat.zero_add _)) rfl (mg_LK (by decide) hLK1) (oAg hag1) (fun X hX hZ => ⟨400, ?_⟩)
    show xw _ _ _ _ _ _ _ _ _ _ [xvr 0, xvi o0, xvi q0, xvi k0, xvi t0, xvr 194, xvu] [xvl z, xvi 0, xvr 194] _
    exact ⟨rfl, ⟨by decide, by decide⟩, rfl, ⟨(fun _ h => by cases h), hQ _ w1 _ (jw_o (jw_mg (by decide) hJ1)) ⟨⟨_, rfl⟩, (by show σ1 0 1 = σ 0 1; exact hR1.1), hR1.2.1, hR1.2.2⟩⟩⟩
  · obtain ⟨hJ1, hR1⟩ := hk
    refine oTS (C := kL_odds_x w1) (w := w1) (w0 := w) (a0 := a) (kz := (0 + ((if w 13 = true then 0 else 8) + 1), 0 + ((if w 13 = true then 0 else 15684) + 6))) (mc := ((fun w => (if w 13 = true then 0 else 8) + 1) w)) (ms := ((fun w => (if w 13 = true then 0 else 15684) + 6) w)) ⟨Nat.le_of_eq (Nat.zero_add _), Nat.le_of_eq (Nat.zero_add _)⟩ hC (zL_odds_x w1) (fun v i n E he => by cases he) (Nat.le_of_eq (Nat.zero_add _)) (Nat.le_of_eq (Nat.zero_add _)) rfl (mg_LK (by decide) hLK1) (oAg hag1) (fun X hX hZ => ⟨400, ?_⟩)
    exact ⟨rfl, ⟨(fun _ h => by cases h), hQ _ w1 _ (jw_mg (by decide) hJ1) ⟨⟨_, rfl⟩, (by show σ1 0 1 = σ 0 1; exact hR1.1), hR1.2.1, hR1.2.2⟩⟩⟩
def tL_next_n : List (Nat × Bool × List xI) := [(10, true, [(10, .lastore, 1), (11, .goto 7, 3)]), (18, false, [(18, .iconst 0, 1), (19, .ireturn, 1)])]
def kL_next_n (w : Nat → Bool) : xC := (shOu w, (fun _ => none), (fun _ => none), (fun _ => none), tL_next_n, 1, 6)
theorem zL_next_n (w : Nat → Bool) : xSt RL cL_next (kL_next_n w) 195 := ⟨shOu_fin w, (shOu_shp w).1, (shOu_shp w).2, (fun _ _ _ h => by cases h), ⟨(fun _ _ h => by cases h), (fun _ _ h => by cases h)⟩, (by decide +kernel : xokT cL_next tL_next_n = true)⟩
def tL_next_x : List (Nat × Bool × List xI) := [(16, true, [(16, .iconst 1, 1), (17, .ireturn, 1)])]
def kL_next_x (w : Nat → Bool) : xC := (shOu w, (fun _ => none), (fun _ => none), (fun _ => none), tL_next_x, 1, 6)
theorem zL_next_x (w : Nat → Bool) : xSt RL cL_next (kL_next_x w) 195 := ⟨shOu_fin w, (shOu_shp w).1, (shOu_shp w).2, (fun _ _ _ h => by cases h), ⟨(fun _ _ h => by cases h), (fun _ _ h => by cases h)⟩, (by decide +kernel : xokT cL_next tL_next_x = true)⟩
set_option maxHeartbeats 4000000 in
set_option maxRecDepth 100000 in
theorem mL_next (l : Launch) (D : va_G) (yv : Nat → ClassId) (ad : Nat → Nat) (hst : l.stackTraces = false) : lMt l D yv ad yL_next cL_next 6 (some .int) [(0, 11, 14, 13)] 7 (fun w => (if w 13 = true then 0 else 8) + 1) (fun w => (if w 13 = true then 0 else 15684) + 6) (pubO (fun as => ∃ o0 k0 t0 : Int, as = [xvr 0, xvi o0, xvi k0, xvi t0, xvr 194])) := by
  intro a ρ w sz as σ Q hE hLK hσ has
  obtain ⟨hJ, ⟨o0, k0, t0, rfl⟩, hQ⟩ := hE
  refine lEnter (N := 195) (sh := shOu w) (by decide +kernel) (Nat.le_of_ble_eq_true rfl) hσ has (fun p e s m below meth c hsz hYY htab hC => ?_)
  generalize va_A (xws a yv ρ 195 (shOu w) σ) sz = A at hC hYY ⊢
  show XA (0, 0) p l e (vroom 7 ((fun w => (if w 13 = true then 0 else 8) + 1) w) ((fun w => (if w 13 = true then 0 else 15684) + 6) w)) s m _ below meth c D yv a ρ 195 (shOu w) A 6 _ 0 [xvr 0, xvi o0, xvi k0, xvi t0, xvr 194, xvu] [] σ
  refine xs_aloadL hC (i := 4) (x := 194) dL_next_0 rfl ?_
  refine xs_iconst hC (by decide) (by decide) dL_next_2 ?_
  refine xs_aload hC (i := 0) (x := 0) dL_next_3 rfl ?_
  refine xs_iload hC (i := 1) (x := o0) dL_next_4 rfl ?_
  refine xs_iload hC (i := 2) (x := k0) dL_next_5 rfl ?_
  refine xs_iload hC (i := 3) (x := t0) dL_next_6 rfl ?_
  refine vxs_call (hi := 5) (ht := 14) (ec := 11) (rest := [xvi 0, xvr 194]) (as' := [xvi o0, xvi k0, xvi t0]) (t := 0) (ci := 10) (n := 3) (K := fun r w' σ' => (∃ z : Int, r = some (xvl z)) ∧ JW w' σ' ∧ Rx σ w w' σ') (Kx := fun w' σ' => JW w' σ' ∧ Rx σ w w' σ') (mg_ok 194 195 σ a ρ) hC hYY (mvX10_next l D yv ad hst) (Nat.le_of_ble_eq_true rfl) famO q_6_74 q_6_75 q_6_76 q_1_1 q_6_77 rfl rfl (by decide +kernel) (by decide) (Nat.le_of_eq (Nat.zero_add _)) (Nat.le_of_eq (Nat.zero_add _)) dL_next_7 (sh0 _) rfl (by decide) hLK (oLp (by rfl)) (oLp (by rfl)) ⟨hJ, ⟨o0, k0, t0, rfl⟩, (fun r w' σ' h1 h2 => ⟨h2.1, h1, h2.2⟩), (fun w' σ' h1 h2 => ⟨h1, h2⟩)⟩ htab (by decide) q_5_228 dL_next_14 (Nat.le_of_ble_eq_true rfl) (oNl (by rfl)) (fun r w1 a1 ρ1 σ1 hk hLK1 hag1 => ?_) (fun w1 a1 ρ1 σ1 hk hLK1 hag1 => ?_)
  · obtain ⟨⟨z, rfl⟩, hJ1, hR1⟩ := hk
    refine oTS (C := kL_next_n w1) (w := w1) (w0 := w) (a0 := a) (kz := (0 + ((if w 13 = true then 0 else 8) + 1), 0 + ((if w 13 = true then 0 else 15684) + 6))) (mc := ((fun w => (if w 13 = true then 0 else 8) + 1) w)) (ms := ((fun w => (if w 13 = true then 0 else 15684) + 6) w)) ⟨Nat.le_of_eq (Nat.zero_add _), Nat.le_of_eq (Nat.zero_add _)⟩ hC (zL_next_n w1) (fun v i n E he => by cases he) (Nat.le_of_eq (Nat.zero_add _)) (Nat.le_of_eq (Nat.zero_add _)) rfl (mg_LK (by decide) hLK1) (oAg hag1) (fun X hX hZ => ⟨400, ?_⟩)
    show xw _ _ _ _ _ _ _ _ _ _ [xvr 0, xvi o0, xvi k0, xvi t0, xvr 194, xvu] [xvl z, xvi 0, xvr 194] _
    exact ⟨rfl, ⟨by decide, by decide⟩, rfl, ⟨(fun _ h => by cases h), hQ _ w1 _ (jw_o (jw_mg (by decide) hJ1)) ⟨⟨_, rfl⟩, (by show σ1 0 1 = σ 0 1; exact hR1.1), hR1.2.1, hR1.2.2⟩⟩⟩
  · obtain ⟨hJ1, hR1⟩ := hk
    refine oTS (C := kL_next_x w1) (w := w1) (w0 := w) (a0 := a) (kz := (0 + ((if w 13 = true then 0 else 8) + 1), 0 + ((if w 13 = true then 0 else 15684) + 6))) (mc := ((fun w => (if w 13 = true then 0 else 8) + 1) w)) (ms := ((fun w => (if w 13 = true then 0 else 15684) + 6) w)) ⟨Nat.le_of_eq (Nat.zero_add _), Nat.le_of_eq (Nat.zero_add _)⟩ hC (zL_next_x w1) (fun v i n E he => by cases he) (Nat.le_of_eq (Nat.zero_add _)) (Nat.le_of_eq (Nat.zero_add _)) rfl (mg_LK (by decide) hLK1) (oAg hag1) (fun X hX hZ => ⟨400, ?_⟩)
    exact ⟨rfl, ⟨(fun _ h => by cases h), hQ _ w1 _ (jw_mg (by decide) hJ1) ⟨⟨_, rfl⟩, (by show σ1 0 1 = σ 0 1; exact hR1.1), hR1.2.1, hR1.2.2⟩⟩⟩
