theorem q_1_21 : Cond.initialized "java/util/NoSuchElementException" ∈ gw := gw_1 21 (by decide +kernel) rfl
theorem q_5_233 : Cond.classLink RX10 145 "java/util/NoSuchElementException" ∈ gw := gw_5 233 (by decide +kernel) rfl
theorem dX10_hand_0 : decode cX10_hand 0 = .ok (.aload_n 0, 1) := by decide +kernel
theorem dX10_hand_1 : decode cX10_hand 1 = .ok (.getfield 23, 3) := by decide +kernel
theorem dX10_hand_4 : decode cX10_hand 4 = .ok (.iload_n 1, 1) := by decide +kernel
theorem dX10_hand_5 : decode cX10_hand 5 = .ok (.invokevirtual 138, 3) := by decide +kernel
theorem dX10_hand_8 : decode cX10_hand 8 = .ok (.ifCond .eq 14, 3) := by decide +kernel
theorem dX10_hand_11 : decode cX10_hand 11 = .ok (.aload_n 0, 1) := by decide +kernel
theorem dX10_hand_12 : decode cX10_hand 12 = .ok (.getfield 23, 3) := by decide +kernel
theorem dX10_hand_15 : decode cX10_hand 15 = .ok (.iload_n 2, 1) := by decide +kernel
theorem dX10_hand_16 : decode cX10_hand 16 = .ok (.invokevirtual 142, 3) := by decide +kernel
theorem dX10_hand_19 : decode cX10_hand 19 = .ok (.ifCond .ne 13, 3) := by decide +kernel
theorem dX10_hand_22 : decode cX10_hand 22 = .ok (.new 145, 3) := by decide +kernel
theorem dX10_hand_25 : decode cX10_hand 25 = .ok (.dup, 1) := by decide +kernel
theorem dX10_hand_26 : decode cX10_hand 26 = .ok (.ldc 147, 2) := by decide +kernel
theorem dX10_hand_28 : decode cX10_hand 28 = .ok (.invokespecial 149, 3) := by decide +kernel
theorem dX10_hand_31 : decode cX10_hand 31 = .ok (.athrow, 1) := by decide +kernel
theorem dX10_hand_32 : decode cX10_hand 32 = .ok (.aload_n 0, 1) := by decide +kernel
theorem dX10_hand_33 : decode cX10_hand 33 = .ok (.getfield 23, 3) := by decide +kernel
theorem dX10_hand_36 : decode cX10_hand 36 = .ok (.iload_n 1, 1) := by decide +kernel
theorem dX10_hand_37 : decode cX10_hand 37 = .ok (.iload_n 2, 1) := by decide +kernel
theorem dX10_hand_38 : decode cX10_hand 38 = .ok (.invokevirtual 152, 3) := by decide +kernel
theorem dX10_hand_41 : decode cX10_hand 41 = .ok (.ireturn, 1) := by decide +kernel
theorem dX10_odds_0 : decode cX10_odds 0 = .ok (.aload_n 0, 1) := by decide +kernel
theorem dX10_odds_1 : decode cX10_odds 1 = .ok (.iload_n 1, 1) := by decide +kernel
theorem dX10_odds_2 : decode cX10_odds 2 = .ok (.iload_n 2, 1) := by decide +kernel
theorem dX10_odds_3 : decode cX10_odds 3 = .ok (.iload_n 3, 1) := by decide +kernel
theorem dX10_odds_4 : decode cX10_odds 4 = .ok (.invokevirtual 215, 3) := by decide +kernel
theorem dX10_odds_7 : decode cX10_odds 7 = .ok (.ifCond .eq 19, 3) := by decide +kernel
theorem dX10_odds_10 : decode cX10_odds 10 = .ok (.iload_n 1, 1) := by decide +kernel
theorem dX10_odds_11 : decode cX10_odds 11 = .ok (.iload_n 2, 1) := by decide +kernel
theorem dX10_odds_12 : decode cX10_odds 12 = .ok (.if_icmp .eq 14, 3) := by decide +kernel
theorem dX10_odds_15 : decode cX10_odds 15 = .ok (.iload 4, 2) := by decide +kernel
theorem dX10_odds_17 : decode cX10_odds 17 = .ok (.ifCond .lt 9, 3) := by decide +kernel
theorem dX10_odds_20 : decode cX10_odds 20 = .ok (.iload 4, 2) := by decide +kernel
theorem dX10_odds_22 : decode cX10_odds 22 = .ok (.iconst 1, 1) := by decide +kernel
theorem dX10_odds_23 : decode cX10_odds 23 = .ok (.if_icmp .le 13, 3) := by decide +kernel
theorem dX10_odds_26 : decode cX10_odds 26 = .ok (.new 145, 3) := by decide +kernel
theorem dX10_odds_29 : decode cX10_odds 29 = .ok (.dup, 1) := by decide +kernel
theorem dX10_odds_30 : decode cX10_odds 30 = .ok (.ldc 243, 2) := by decide +kernel
theorem dX10_odds_32 : decode cX10_odds 32 = .ok (.invokespecial 149, 3) := by decide +kernel
theorem dX10_odds_35 : decode cX10_odds 35 = .ok (.athrow, 1) := by decide +kernel
theorem dX10_odds_36 : decode cX10_odds 36 = .ok (.aload_n 0, 1) := by decide +kernel
theorem dX10_odds_37 : decode cX10_odds 37 = .ok (.invokevirtual 245, 3) := by decide +kernel
theorem dX10_odds_40 : decode cX10_odds 40 = .ok (.astore 5, 2) := by decide +kernel
theorem dX10_odds_42 : decode cX10_odds 42 = .ok (.aload 5, 2) := by decide +kernel
theorem dX10_odds_44 : decode cX10_odds 44 = .ok (.aload_n 0, 1) := by decide +kernel
theorem dX10_odds_45 : decode cX10_odds 45 = .ok (.getfield 23, 3) := by decide +kernel
theorem dX10_odds_48 : decode cX10_odds 48 = .ok (.iload_n 1, 1) := by decide +kernel
theorem dX10_odds_49 : decode cX10_odds 49 = .ok (.invokevirtual 249, 3) := by decide +kernel
theorem dX10_odds_52 : decode cX10_odds 52 = .ok (.ifCond .ne 13, 3) := by decide +kernel
theorem dX10_odds_55 : decode cX10_odds 55 = .ok (.new 145, 3) := by decide +kernel
theorem dX10_odds_58 : decode cX10_odds 58 = .ok (.dup, 1) := by decide +kernel
theorem dX10_odds_59 : decode cX10_odds 59 = .ok (.ldc 255, 2) := by decide +kernel
theorem dX10_odds_61 : decode cX10_odds 61 = .ok (.invokespecial 149, 3) := by decide +kernel
theorem dX10_odds_64 : decode cX10_odds 64 = .ok (.athrow, 1) := by decide +kernel
theorem dX10_odds_65 : decode cX10_odds 65 = .ok (.aload 5, 2) := by decide +kernel
theorem dX10_odds_67 : decode cX10_odds 67 = .ok (.aload_n 0, 1) := by decide +kernel
theorem dX10_odds_68 : decode cX10_odds 68 = .ok (.getfield 23, 3) := by decide +kernel
theorem dX10_odds_71 : decode cX10_odds 71 = .ok (.iload_n 2, 1) := by decide +kernel
theorem dX10_odds_72 : decode cX10_odds 72 = .ok (.iload_n 3, 1) := by decide +kernel
theorem dX10_odds_73 : decode cX10_odds 73 = .ok (.invokevirtual 257, 3) := by decide +kernel
theorem dX10_odds_76 : decode cX10_odds 76 = .ok (.aload 5, 2) := by decide +kernel
theorem dX10_odds_78 : decode cX10_odds 78 = .ok (.getfield 261, 3) := by decide +kernel
theorem dX10_odds_81 : decode cX10_odds 81 = .ok (.iload 4, 2) := by decide +kernel
theorem dX10_odds_83 : decode cX10_odds 83 = .ok (.invokestatic 265, 3) := by decide +kernel
theorem dX10_odds_86 : decode cX10_odds 86 = .ok (.lreturn, 1) := by decide +kernel
theorem dX10_next_0 : decode cX10_next 0 = .ok (.aload_n 0, 1) := by decide +kernel
theorem dX10_next_1 : decode cX10_next 1 = .ok (.getfield 23, 3) := by decide +kernel
theorem dX10_next_4 : decode cX10_next 4 = .ok (.iload_n 1, 1) := by decide +kernel
theorem dX10_next_5 : decode cX10_next 5 = .ok (.invokevirtual 138, 3) := by decide +kernel
theorem dX10_next_8 : decode cX10_next 8 = .ok (.ifCond .eq 23, 3) := by decide +kernel
theorem dX10_next_11 : decode cX10_next 11 = .ok (.aload_n 0, 1) := by decide +kernel
theorem dX10_next_12 : decode cX10_next 12 = .ok (.getfield 23, 3) := by decide +kernel
theorem dX10_next_15 : decode cX10_next 15 = .ok (.iload_n 2, 1) := by decide +kernel
theorem dX10_next_16 : decode cX10_next 16 = .ok (.invokevirtual 142, 3) := by decide +kernel
theorem dX10_next_19 : decode cX10_next 19 = .ok (.ifCond .eq 12, 3) := by decide +kernel
theorem dX10_next_22 : decode cX10_next 22 = .ok (.iload_n 3, 1) := by decide +kernel
theorem dX10_next_23 : decode cX10_next 23 = .ok (.ifCond .lt 8, 3) := by decide +kernel
theorem dX10_next_26 : decode cX10_next 26 = .ok (.iload_n 3, 1) := by decide +kernel
theorem dX10_next_27 : decode cX10_next 27 = .ok (.iconst 1, 1) := by decide +kernel
theorem dX10_next_28 : decode cX10_next 28 = .ok (.if_icmp .le 14, 3) := by decide +kernel
theorem dX10_next_31 : decode cX10_next 31 = .ok (.new 145, 3) := by decide +kernel
theorem dX10_next_34 : decode cX10_next 34 = .ok (.dup, 1) := by decide +kernel
theorem dX10_next_35 : decode cX10_next 35 = .ok (.ldc_w 269, 3) := by decide +kernel
theorem dX10_next_38 : decode cX10_next 38 = .ok (.invokespecial 149, 3) := by decide +kernel
theorem dX10_next_41 : decode cX10_next 41 = .ok (.athrow, 1) := by decide +kernel
theorem dX10_next_42 : decode cX10_next 42 = .ok (.aload_n 0, 1) := by decide +kernel
theorem dX10_next_43 : decode cX10_next 43 = .ok (.getfield 23, 3) := by decide +kernel
theorem dX10_next_46 : decode cX10_next 46 = .ok (.invokevirtual 190, 3) := by decide +kernel
theorem dX10_next_49 : decode cX10_next 49 = .ok (.istore 4, 2) := by decide +kernel
theorem dX10_next_51 : decode cX10_next 51 = .ok (.iload 4, 2) := by decide +kernel
theorem dX10_next_53 : decode cX10_next 53 = .ok (.ifCond .ne 14, 3) := by decide +kernel
theorem dX10_next_56 : decode cX10_next 56 = .ok (.new 145, 3) := by decide +kernel
theorem dX10_next_59 : decode cX10_next 59 = .ok (.dup, 1) := by decide +kernel
theorem dX10_next_60 : decode cX10_next 60 = .ok (.ldc_w 271, 3) := by decide +kernel
theorem dX10_next_63 : decode cX10_next 63 = .ok (.invokespecial 149, 3) := by decide +kernel
theorem dX10_next_66 : decode cX10_next 66 = .ok (.athrow, 1) := by decide +kernel
theorem dX10_next_67 : decode cX10_next 67 = .ok (.aload_n 0, 1) := by decide +kernel
theorem dX10_next_68 : decode cX10_next 68 = .ok (.invokevirtual 245, 3) := by decide +kernel
theorem dX10_next_71 : decode cX10_next 71 = .ok (.astore 5, 2) := by decide +kernel
theorem dX10_next_73 : decode cX10_next 73 = .ok (.aload 5, 2) := by decide +kernel
theorem dX10_next_75 : decode cX10_next 75 = .ok (.aload_n 0, 1) := by decide +kernel
theorem dX10_next_76 : decode cX10_next 76 = .ok (.getfield 23, 3) := by decide +kernel
theorem dX10_next_79 : decode cX10_next 79 = .ok (.iload_n 1, 1) := by decide +kernel
theorem dX10_next_80 : decode cX10_next 80 = .ok (.invokevirtual 249, 3) := by decide +kernel
theorem dX10_next_83 : decode cX10_next 83 = .ok (.ifCond .ne 13, 3) := by decide +kernel
theorem dX10_next_86 : decode cX10_next 86 = .ok (.new 145, 3) := by decide +kernel
theorem dX10_next_89 : decode cX10_next 89 = .ok (.dup, 1) := by decide +kernel
theorem dX10_next_90 : decode cX10_next 90 = .ok (.ldc 255, 2) := by decide +kernel
theorem dX10_next_92 : decode cX10_next 92 = .ok (.invokespecial 149, 3) := by decide +kernel
theorem dX10_next_95 : decode cX10_next 95 = .ok (.athrow, 1) := by decide +kernel
theorem dX10_next_96 : decode cX10_next 96 = .ok (.aload 5, 2) := by decide +kernel
theorem dX10_next_98 : decode cX10_next 98 = .ok (.iload_n 2, 1) := by decide +kernel
theorem dX10_next_99 : decode cX10_next 99 = .ok (.invokevirtual 273, 3) := by decide +kernel
theorem dX10_next_102 : decode cX10_next 102 = .ok (.aload 5, 2) := by decide +kernel
theorem dX10_next_104 : decode cX10_next 104 = .ok (.getfield 261, 3) := by decide +kernel
theorem dX10_next_107 : decode cX10_next 107 = .ok (.iload 4, 2) := by decide +kernel
theorem dX10_next_109 : decode cX10_next 109 = .ok (.i2l, 1) := by decide +kernel
theorem dX10_next_110 : decode cX10_next 110 = .ok (.lmul, 1) := by decide +kernel
theorem dX10_next_111 : decode cX10_next 111 = .ok (.iload_n 3, 1) := by decide +kernel
theorem dX10_next_112 : decode cX10_next 112 = .ok (.invokestatic 265, 3) := by decide +kernel
theorem dX10_next_115 : decode cX10_next 115 = .ok (.lreturn, 1) := by decide +kernel
/-! hand, odds, next -/
def vR (ad : Nat → Nat) (U : State) : Prop := vk_R RX10 147 "no such person or kind" (ad 2) U ∧ vk_R RX10 243 "no such persons, kind or part" (ad 3) U ∧ vk_R RX10 269 "no such person, kind or part" (ad 4) U ∧ vk_R RX10 255 "too much is unseen, or there is no way" (ad 5) U ∧ vk_R RX10 271 "the heap is empty" (ad 6) U
theorem vR.same {ad : Nat → Nat} {u U : State} (hv : U.vm = u.vm) (h : vR ad u) : vR ad U := ⟨vk_R.same hv h.1, vk_R.same hv h.2.1, vk_R.same hv h.2.2.1, vk_R.same hv h.2.2.2.1, vk_R.same hv h.2.2.2.2⟩
theorem vR.warm {ad : Nat → Nat} {s U : State} (hW : s.WarmedH U.vm) (h : vR ad s) : vR ad U := ⟨vk_R.warm hW h.1, vk_R.warm hW h.2.1, vk_R.warm hW h.2.2.1, vk_R.warm hW h.2.2.2.1, vk_R.warm hW h.2.2.2.2⟩
def vXc (D : va_G) (yv : Nat → ClassId) (a : Nat → Nat) (w : Nat → Bool) (A : Nat → Prop) (Q : (Nat → Bool) → xS → Prop) : String → State → State → Prop := fun E st t =>
  E = px_nse ∧ (∃ (w' : Nat → Bool) (a' : Nat → Nat) (ρ' : Nat → Nat → Option Nat) (σ' : xS), Q w' σ' ∧ LK a' ρ' w' ∧ xgs (vsh w') σ' ∧ (∀ t, (vsh w t).isSome = true → a' t = a t) ∧ va_P D vwCl (xws a' yv ρ' 194 (vsh w') σ') t.heap ∧ va_D A (xws a' yv ρ' 194 (vsh w') σ')) ∧ va_F A st t
abbrev vEx : Type := (Nat → Bool) → List xV → xS → (Option xV → (Nat → Bool) → xS → Prop) → ((Nat → Bool) → xS → Prop) → Prop
/-- what a throwing method finds beside its world -/
def vY (ad : Nat → Nat) (A : Nat → Prop) (U : State) (H : Heap) : Prop := vX U ∧ vR ad U ∧ px_E A U H
theorem vY.same {ad : Nat → Nat} {A : Nat → Prop} {u U : State} {H : Heap} (hv : u.vm = U.vm) (h : vY ad A u H) : vY ad A U H := ⟨vX.same hv h.1, vR.same hv.symm h.2.1, px_E.same hv h.2.2⟩
theorem vY.call {ad : Nat → Nat} {A B : Nat → Prop} {s U : State} {H0 H : Heap} {locs : List Loc} (h : vY ad A s H0) (hS : va_S A H0 H locs) (hF : ∀ q, B q → A q) (hU : U.heap = H) (hW : s.WarmedH U.vm) : vY ad B U U.heap := by
  rw [hU]; exact ⟨vX.warm hW h.1, vR.warm hW h.2.1, (px_E.warm hW (h.2.2.kept hS.2.1)).narrow hF⟩
theorem v_blindY {ad : Nat → Nat} {D : va_G} {y : Nat → ClassId} {sz : Nat} {ws : va_W} {av : List Value} {A : Nat → Prop} : FrameBlind (va_Pc av (fun U => px_P D y sz ws U ∧ vY ad A U U.heap)) := fun a U g mk q => ⟨q.1, (px_blind (D := D) (y := y) (sz := sz) (ws := ws) (av := av) a U g mk ⟨q.1, q.2.1⟩).2, vY.same (u := U) (U := U.calling g mk a) rfl q.2.2⟩
def vxMt (l : Launch) (D : va_G) (yv : Nat → ClassId) (ad : Nat → Nat) (y : MethodName) (cy : ByteArray) (nLy : Nat) (ret : Option FieldType) (d : Nat) (mc ms : (Nat → Bool) → Nat) (E : vEx) : Prop :=
  ∀ (a : Nat → Nat) (ρ : Nat → Nat → Option Nat) (w : Nat → Bool) (sz : Nat) (as : List xV) (σ : xS) (Q : Option xV → (Nat → Bool) → xS → Prop) (Qx : (Nat → Bool) → xS → Prop), E w as σ Q Qx → LK a ρ w → xgs (vsh w) σ → (∀ v ∈ as, xg v) →
    vx_Met l y (px_w y cy nLy ret) (vroom d (mc w) (ms w)) (va_Pc (as.map (xv a)) (fun U => px_P D yv sz (xws a yv ρ 194 (vsh w) σ) U ∧ vY ad (va_A (xws a yv ρ 194 (vsh w) σ) sz) U U.heap)) (vQ D yv a w (va_A (xws a yv ρ 194 (vsh w) σ) sz) Q) (vXc D yv a w (va_A (xws a yv ρ 194 (vsh w) σ) sz) Qx) (mc w) (ms w) (va_A (xws a yv ρ 194 (vsh w) σ) sz)
theorem vEnterX {l : Launch} {D : va_G} {yv : Nat → ClassId} {ad : Nat → Nat} {y : MethodName} {cc : ByteArray} {nL : Nat} {ret : Option FieldType} {N : Nat} {sh : xH} {d mc ms sz : Nat} {a : Nat → Nat} {ρ : Nat → Nat → Option Nat} {as : List xV} {σ : xS} {Qc : Array Value → State → Outcome → State → Prop} {Xc : String → State → State → Prop} (hpl : plainName y.cls = true) (hlen : (xargs as).length ≤ nL) (hσ : xgs sh σ) (has : ∀ v ∈ as, xg v)
    (body : ∀ (p : Program) (e : Env) (s : State) (m : MethodId) (below : List Frame) (meth : Method) (c : Code), s.heap.size = sz → vY ad (va_A (xws a yv ρ N sh σ) sz) s s.heap → (∀ x ∈ c.exceptionTable.toList, False) → XC p (vroom d mc ms) s m (as.map (xv a)).toArray meth c D yv (va_A (xws a yv ρ N sh σ) sz) y.cls cc nL d ret → XA (0, 0) p l e (vroom d mc ms) s m (as.map (xv a)).toArray below meth c D yv a ρ N sh (va_A (xws a yv ρ N sh σ) sz) nL (vx_MQ below Qc Xc (as.map (xv a)).toArray s mc ms (va_A (xws a yv ρ N sh σ) sz)) 0 (xargs as ++ List.replicate (nL - (xargs as).length) xvu) [] σ) :
    vx_Met l y (px_w y cc nL ret) (vroom d mc ms) (va_Pc (as.map (xv a)) (fun U => px_P D yv sz (xws a yv ρ N sh σ) U ∧ vY ad (va_A (xws a yv ρ N sh σ) sz) U U.heap)) Qc Xc mc ms (va_A (xws a yv ρ N sh σ) sz) := by
  refine vx_ofW (cc := cc) (maxL := nL) (ret := ret) hpl rfl ?_
  intro p e s m args below meth c s₁ B hml htab hv
  obtain ⟨rfl, ⟨hsz, hP, hK, hD0⟩, hYY⟩ := hv
  have hts := atoms_spec (ws := px_w y cc nL ret) B.pre
  have hg : ∀ w ∈ gw, w.before (as.map (xv a)).toArray s = true := fun w h => hts w (List.mem_cons_of_mem _ h)
  have hown : s.vm.findClass y.cls = some m.cls := findClass_of_methodNamed B.named
  have hb0 := body p e s m below meth c hsz hYY htab ⟨B.exec, B.bytes, hml, hown, hg, hK, fun q h => Or.inr (by omega), Nat.le_refl _, Nat.le_refl _, B.returns, B.notSynchronized⟩
  have hD := hD0.self (sz := sz)
  have hl := lv_entry (as.map (xv a)) (n := nL) (by rw [xargs_len]; exact hlen)
  rw [lg_entry_eq]
  generalize (lg_sl (as.map (xv a)) ++ List.replicate (nL - (lg_sl (as.map (xv a))).length) Slot.unset).toArray = ls at hl ⊢
  refine hb0 ?_ (fun v h => by cases h) hσ ?_ s.heap [] ls hP hD va_S.rf ?_
  · intro v hv
    rcases List.mem_append.mp hv with hv | hv
    · exact xargs_g has v hv
    · rw [List.eq_of_mem_replicate hv]; exact trivial
  · rw [List.length_append, List.length_replicate]
    omega
  · refine ⟨hl.1, hl.2.1, fun q hq => ?_⟩
    obtain ⟨w, h1, h2, h3⟩ := xlv_mem hq
    have h4 : (xargs as)[q.1]? = some w := by
      rcases Nat.lt_or_ge q.1 (xargs as).length with h5 | h5
      · rwa [List.getElem?_append_left h5] at h1
      · rw [List.getElem?_append_right h5] at h1
        exact absurd (List.eq_of_mem_replicate (List.mem_of_getElem? h1)) h2
    have h6 := hl.2.2 _ (xargs_at a as 0 q.1 w h4 h2)
    rw [h3]
    simpa using h6
section XP
variable {p : Program} {l : Launch} {e : Env} {R : Room} {s : State} {m : MethodId} {args : Array Value} {below : List Frame} {meth : Method} {c : Code}
variable {cc : ByteArray} {nL d : Nat} {own : String} {D : va_G} {yv : Nat → ClassId} {a : Nat → Nat} {ρ : Nat → Nat → Option Nat} {N : Nat} {sh : xH} {A : Nat → Prop} {kz : Nat × Nat} {Qm : State → Prop} {ret : Option FieldType} {pc : Nat} {L st : List xV} {σ : xS}
theorem vTX {C : xC} {w0 w : Nat → Bool} {a0 : Nat → Nat} {K : Option xV → (Nat → Bool) → xS → Prop} {Xc : String → State → State → Prop} {Z : Nat → List xV → xS → Prop} {c0 : Nat} {L0 : List xV} {σ0 : xS} {mc ms : Nat} (hkq : kz.1 ≤ mc ∧ kz.2 ≤ ms) (hC : XC p R s m args meth c D yv A own cc C.2.2.2.2.2.2 d (xrt C.2.2.2.2.2.1)) (hS0 : xSt own cc C 194) (hE : ∀ (v : Bool) i n E, C.2.2.2.1 (2 * i + if v then 0 else 1) = some (n, E) → xCk l D yv own cc d 194 C.1 v i n E)
    (hk1 : kz.1 ≤ R.cells) (hk2 : kz.2 ≤ R.slots) (hsh : C.1 = vsh w) (hLK : LK a ρ w) (hag : ∀ t, (vsh w0 t).isSome = true → a t = a0 t)
    (hT : xTE C (fun r σ => (∀ u, r ≠ some (xvr u)) ∧ K r w σ) Z c0 L0 σ0) (hZ : ∀ c0 L σ, Z c0 L σ → XA kz p l e R s m args below meth c D yv a ρ 194 (vsh w) A C.2.2.2.2.2.2 (vx_MQ below (vQ D yv a0 w0 A K) Xc args s mc ms A) c0 L [] σ) : XA kz p l e R s m args below meth c D yv a ρ 194 (vsh w) A C.2.2.2.2.2.2 (vx_MQ below (vQ D yv a0 w0 A K) Xc args s mc ms A) c0 L0 [] σ0 := by
  rw [← hsh] at hZ ⊢
  refine xTE_Q (kq := (mc, ms)) (Qc := vQ D yv a0 w0 A K) hkq (fun _ _ _ k => vx_ret k) hC hS0 hE hk1 hk2 (fun r σ t h1 h2 h3 h4 h5 h6 => ?_) hT hZ
  rw [hsh] at h3 h4 h5
  exact ⟨⟨r, w, a, ρ, σ, rfl, h1.2, h2, fun u hu => absurd hu (h1.1 u), hLK, h3, hag, h4, h5⟩, h6⟩
theorem vthrow {H : Heap} {locs : List Loc} {w0 w : Nat → Bool} {a0 : Nat → Nat} {Qx : (Nat → Bool) → xS → Prop} (hσ : xgs (vsh w) σ) (hLK : LK a ρ w) (hag : ∀ t, (vsh w0 t).isSome = true → a t = a0 t) (hQx : Qx w σ) (hP : va_P D vwCl (xws a yv ρ 194 (vsh w) σ) H) (hD : va_D A (xws a yv ρ 194 (vsh w) σ)) (hS : va_S A s.heap H locs) (t : State) (h2 : H.size ≤ t.heap.size) (h3 : ∀ q : Nat, q < H.size → t.heap[q]? = H[q]?) : vXc D yv a0 w0 A Qx px_nse s t :=
  ⟨rfl, ⟨w, a, ρ, σ, hQx, hLK, hσ, hag, hP.kept (fun k q hk => h3 q.1 (hP k q hk).lt), hD⟩, Nat.le_trans hS.1 h2, fun q h4 h5 => (h3 q (Nat.lt_of_lt_of_le h4 hS.1)).trans (hS.2.1 q h4 h5)⟩
theorem vs_throw {w0 w : Nat → Bool} {a0 : Nat → Nat} {Qc : Array Value → State → Outcome → State → Prop} {Qx : (Nat → Bool) → xS → Prop} {mc ms is sa : Nat} {text : String} (hC : XC p R s m args meth c D yv A RX10 cc nL d ret) (hst : l.stackTraces = false) (hE : px_E A s s.heap) (htab : ∀ x ∈ c.exceptionTable.toList, False) (hstr : vk_R RX10 is text sa s) (d0 : decode cc pc = .ok (.new 145, 3)) (d3 : decode cc (pc + 3) = .ok (.dup, 1)) (d4 : decode cc (pc + 4) = .ok (.ldc is, 2)) (d6 : decode cc (pc + 6) = .ok (.invokespecial 149, 3)) (d9 : decode cc (pc + 9) = .ok (.athrow, 1)) (hfr : 6 ≤ d) (hk1 : kz.1 + 1 ≤ R.cells) (hk2 : kz.2 + 6 ≤ R.slots) (hq1 : kz.1 + 1 ≤ mc) (hq2 : kz.2 + 6 ≤ ms) (hLK : LK a ρ w) (hag : ∀ t, (vsh w0 t).isSome = true → a t = a0 t) (hQx : Qx w σ) : XA kz p l e R s m args below meth c D yv a ρ 194 (vsh w) A nL (vx_MQ below Qc (vXc D yv a0 w0 A Qx) args s mc ms A) pc L [] σ := by
  obtain ⟨hx, hb, hml, hown, hg, hK, hA, hR1, hR2, hr, hlocks⟩ := hC
  intro hL hst2 hσ hln H locs ls hP hD hS hl
  exact px_throwX (cls := px_nse) (text := text) (names := px_nms) (ik := 145) (is := is) (ic := 149) (A := A) hx hb hst hown (by decide) (by decide) (ix := 13) (rx := prog_28_method_4_code) (by decide +kernel) (by decide +kernel) (by decide +kernel) (by decide +kernel) (hg _ q_5_233) (hg _ q_1_21) hstr (px_hat hg hE) px_thrO hE.1 hE.2.1 hS (hml.trans hl.1.symm).symm d0 d3 d4 d6 d9 (fun x h => (htab x h).elim) (by show 2 + 3 < R.frames; omega) (by show 0 + (13 * (2 + 1) + 43) ≤ R.locals; omega) hk1 hk2 hlocks (fun t _ h2 h3 => vthrow hσ hLK hag hQx hP hD hS t h2 h3) hS.2.2 hq1 hq2
theorem vs_throwW {w0 w : Nat → Bool} {a0 : Nat → Nat} {Qc : Array Value → State → Outcome → State → Prop} {Qx : (Nat → Bool) → xS → Prop} {mc ms is sa : Nat} {text : String} (hC : XC p R s m args meth c D yv A RX10 cc nL d ret) (hst : l.stackTraces = false) (hE : px_E A s s.heap) (htab : ∀ x ∈ c.exceptionTable.toList, False) (hstr : vk_R RX10 is text sa s) (d0 : decode cc pc = .ok (.new 145, 3)) (d3 : decode cc (pc + 3) = .ok (.dup, 1)) (d4 : decode cc (pc + 4) = .ok (.ldc_w is, 3)) (d6 : decode cc (pc + 7) = .ok (.invokespecial 149, 3)) (d9 : decode cc (pc + 10) = .ok (.athrow, 1)) (hfr : 6 ≤ d) (hk1 : kz.1 + 1 ≤ R.cells) (hk2 : kz.2 + 6 ≤ R.slots) (hq1 : kz.1 + 1 ≤ mc) (hq2 : kz.2 + 6 ≤ ms) (hLK : LK a ρ w) (hag : ∀ t, (vsh w0 t).isSome = true → a t = a0 t) (hQx : Qx w σ) : XA kz p l e R s m args below meth c D yv a ρ 194 (vsh w) A nL (vx_MQ below Qc (vXc D yv a0 w0 A Qx) args s mc ms A) pc L [] σ := by
  obtain ⟨hx, hb, hml, hown, hg, hK, hA, hR1, hR2, hr, hlocks⟩ := hC
  intro hL hst2 hσ hln H locs ls hP hD hS hl
  exact px_throwXW (cls := px_nse) (text := text) (names := px_nms) (ik := 145) (is := is) (ic := 149) (A := A) hx hb hst hown (by decide) (by decide) (ix := 13) (rx := prog_28_method_4_code) (by decide +kernel) (by decide +kernel) (by decide +kernel) (by decide +kernel) (hg _ q_5_233) (hg _ q_1_21) hstr (px_hat hg hE) px_thrO hE.1 hE.2.1 hS (hml.trans hl.1.symm).symm d0 d3 d4 d6 d9 (fun x h => (htab x h).elim) (by show 2 + 3 < R.frames; omega) (by show 0 + (13 * (2 + 1) + 43) ≤ R.locals; omega) hk1 hk2 hlocks (fun t _ h2 h3 => vthrow hσ hLK hag hQx hP hD hS t h2 h3) hS.2.2 hq1 hq2
end XP
def Rx (σ : xS) (w w' : Nat → Bool) (σ' : xS) : Prop := σ' 0 1 = σ 0 1 ∧ w' 9 = w 9 ∧ keptW w w' σ σ'
def Rl (_ : List xV) (σ : xS) (w : Nat → Bool) (r : Option xV) (w' : Nat → Bool) (σ' : xS) : Prop := (∃ z : Int, r = some (xvl z)) ∧ Rx σ w w' σ'
def pubX (ar : List xV → Prop) (R : List xV → xS → (Nat → Bool) → Option xV → (Nat → Bool) → xS → Prop) : vEx := fun w as σ Q Qx => JW w σ ∧ ar as ∧ (∀ r w' σ', JW w' σ' → R as σ w r w' σ' → Q r w' σ') ∧ ∀ w' σ', JW w' σ' → Rx σ w w' σ' → Qx w' σ'
section XP
variable {p : Program} {l : Launch} {e : Env} {R : Room} {s : State} {m : MethodId} {args : Array Value} {below : List Frame} {meth : Method} {c : Code}
variable {cc : ByteArray} {nL d : Nat} {own : String} {D : va_G} {yv : Nat → ClassId} {a : Nat → Nat} {ρ : Nat → Nat → Option Nat} {N : Nat} {sh : xH} {A : Nat → Prop} {kz : Nat × Nat} {Qm : State → Prop} {ret : Option FieldType} {pc : Nat} {L st : List xV} {σ : xS}
theorem xs_astoreL (hC : XC p R s m args meth c D yv A own cc nL d ret) {i : Nat} {x : Nat} (hd : decode cc pc = .ok (.astore i, 2)) (hi : i < L.length) (k : XA kz p l e R s m args below meth c D yv a ρ N sh A nL Qm (pc + 2) (xst1 L i (xvr x)) st σ) : XA kz p l e R s m args below meth c D yv a ρ N sh A nL Qm pc L (xvr x :: st) σ := by
  intro hL hst hσ hln H locs ls hP hD hS hl
  exact lv_astore (lv := xlv a L) hC.1 hC.2.1 hd hl (show i < nL from hln ▸ hi) rfl (fun ls hl => k (xst1_g hL (xhd hst)) (xtl hst) hσ (by rw [xst1_n]; exact hln) H locs ls hP hD hS (xst1_l hi hl))
end XP
set_option maxHeartbeats 4000000 in
set_option maxRecDepth 100000 in
theorem mvX10_hand (l : Launch) (D : va_G) (yv : Nat → ClassId) (ad : Nat → Nat) (hst : l.stackTraces = false) : vxMt l D yv ad yX10_hand cX10_hand 3 (some .int) 6 (fun _ => 1) (fun _ => 6) (pubX ar2 Rs) := by
  intro a ρ w sz as σ Q Qx hE hLK hσ has
  obtain ⟨hJ, ⟨p0, k0, rfl⟩, hQ, hX⟩ := hE
  refine vEnterX (N := 194) (sh := vsh w) (by decide +kernel) (Nat.le_of_ble_eq_true rfl) hσ has (fun p e s m below meth c hsz hYY htab hC => ?_)
  generalize va_A (xws a yv ρ 194 (vsh w) σ) sz = A at hC hYY ⊢
  obtain ⟨hXX, hR, hEE⟩ := hYY
  show XA (0, 0) p l e (vroom 6 ((fun _ => 1) w) ((fun _ => 6) w)) s m _ below meth c D yv a ρ 194 (vsh w) A 3 _ 0 [xvr 0, xvi p0, xvi k0] [] σ
  refine vTX (C := kX10_hand_a w) (w := w) (w0 := w) (a0 := a) (mc := 1) (ms := 6) (Z := fun c L σ1 => c = 22 ∧ L = [xvr 0, xvi p0, xvi k0] ∧ σ = σ1) ⟨(Nat.le_of_ble_eq_true rfl), (Nat.le_of_ble_eq_true rfl)⟩ hC (zX10_hand_a w) (fun v i n E he => (hX10_hand_a w l D yv v i n E he).up (Nat.le_of_ble_eq_true rfl)) (Nat.le_of_ble_eq_true rfl) (Nat.le_of_ble_eq_true rfl) rfl hLK (fun _ _ => rfl) (pX10_hand_a hJ.g (fun r σ1 f => ⟨(fun _ h => by cases h), hQ _ w σ1 (frJW hJ f) ⟨⟨_, rfl⟩, f.2 1 (by simp), rfl, kw_fr f⟩⟩) ⟨rfl, rfl, rfl⟩) ?_
  rintro _ _ _ ⟨rfl, rfl, rfl⟩
  exact vs_throw (w := w) hC hst hEE htab hR.1 dX10_hand_22 dX10_hand_25 dX10_hand_26 dX10_hand_28 dX10_hand_31 (Nat.le_of_ble_eq_true rfl) (Nat.le_of_ble_eq_true rfl) (Nat.le_of_ble_eq_true rfl) (Nat.le_of_ble_eq_true rfl) (Nat.le_of_ble_eq_true rfl) hLK (fun _ _ => rfl) (hX w σ hJ ⟨rfl, rfl, kw_rfl⟩)
set_option maxHeartbeats 4000000 in
set_option maxRecDepth 100000 in
theorem mvX10_odds (l : Launch) (D : va_G) (yv : Nat → ClassId) (ad : Nat → Nat) (hst : l.stackTraces = false) : vxMt l D yv ad yX10_odds cX10_odds 6 (some .long) 6 (fun w => (if w 13 = true then 0 else 8) + 1) (fun w => (if w 13 = true then 0 else 15684) + 6) (pubX ar4 Rl) := by
  intro a ρ w sz as σ Q Qx hE hLK hσ has
  obtain ⟨hJ, ⟨o0, q0, k0, t0, rfl⟩, hQ, hX⟩ := hE
  refine vEnterX (N := 194) (sh := vsh w) (by decide +kernel) (Nat.le_of_ble_eq_true rfl) hσ has (fun p e s m below meth c hsz hYY htab hC => ?_)
  generalize va_A (xws a yv ρ 194 (vsh w) σ) sz = A at hC hYY ⊢
  obtain ⟨hXX, hR, hEE⟩ := hYY
  show XA (0, 0) p l e (vroom 6 ((fun w => (if w 13 = true then 0 else 8) + 1) w) ((fun w => (if w 13 = true then 0 else 15684) + 6) w)) s m _ below meth c D yv a ρ 194 (vsh w) A 6 _ 0 [xvr 0, xvi o0, xvi q0, xvi k0, xvi t0, xvu] [] σ
  refine vTX (C := kX10_odds_a w) (w := w) (w0 := w) (a0 := a) (mc := ((fun w => (if w 13 = true then 0 else 8) + 1) w)) (ms := ((fun w => (if w 13 = true then 0 else 15684) + 6) w)) (kz := (0, 0)) (Z := fun c L σ1 => (c = 26 ∧ L = [xvr 0, xvi o0, xvi q0, xvi k0, xvi t0, xvu] ∧ σ = σ1) ∨ ((0 ≤ o0 ∧ o0 ≤ 5) ∧ (0 ≤ q0 ∧ q0 ≤ 5) ∧ (0 ≤ k0 ∧ k0 ≤ 12) ∧ c = 36 ∧ L = [xvr 0, xvi o0, xvi q0, xvi k0, xvi t0, xvu] ∧ σ = σ1)) ⟨Nat.zero_le _, Nat.zero_le _⟩ hC (zX10_odds_a w) (fun v i n E he => (hX10_odds_a w l D yv v i n E he).up (Nat.le_of_ble_eq_true rfl)) (Nat.zero_le _) (Nat.zero_le _) rfl hLK (fun _ _ => rfl) (pX10_odds_a hJ.g (Or.inl ⟨rfl, rfl, rfl⟩) (fun h1 h2 h3 => Or.inr ⟨h1, h2, h3, rfl, rfl, rfl⟩)) ?_
  rintro _ _ _ (⟨rfl, rfl, rfl⟩ | ⟨h1, h2, h3, rfl, rfl, rfl⟩)
  · exact vs_throw (w := w) (kz := (0, 0)) hC hst hEE htab hR.2.1 dX10_odds_26 dX10_odds_29 dX10_odds_30 dX10_odds_32 dX10_odds_35 (Nat.le_of_ble_eq_true rfl) (by show 0 + 1 ≤ _ + 1; omega) (by show 0 + 6 ≤ _ + 6; omega) (by show 0 + 1 ≤ _ + 1; omega) (by show 0 + 6 ≤ _ + 6; omega) hLK (fun _ _ => rfl) (hX w σ hJ ⟨rfl, rfl, kw_rfl⟩)
  refine xs_aload hC (i := 0) (x := 0) dX10_odds_36 rfl ?_
  refine vs_callV (kz := (0, 0)) (rest := []) (as' := []) (t := 0) (ci := 10) (n := 0) (K := fun r w' σ' => r = some (xvr 181) ∧ w' = wOn w 13 ∧ ∀ t, blkV t ≠ 13 → σ' t = σ t) hC hXX (mvX10_takeOnlooker l D yv) (Nat.le_of_ble_eq_true rfl) q_3_238 q_4_0 q_p_18 q_1_1 q_4_1 rfl rfl (by decide +kernel) (by decide) (by show 0 + _ ≤ _ + 1; omega) (by show 0 + _ ≤ _ + 6; omega) dX10_odds_37 (sh0 _) rfl (by decide) hLK (vLp (by rfl)) (fun u hu => by cases hu) ⟨rfl, fun σ' h => ⟨rfl, rfl, h⟩⟩ (fun r w1 a1 ρ1 σ1 hk hLK1 hag1 => ?_)
  obtain ⟨rfl, rfl, h0⟩ := hk
  have hJ1 : JW (wOn w 13) σ1 := (hJ.hi (fun t ht => h0 t (by unfold blkV; split <;> (try split) <;> (try split) <;> (try split) <;> omega))).w (fun c hc => if_neg (by omega))
  refine xs_astoreL hC (i := 5) (x := 181) dX10_odds_40 (Nat.le_of_ble_eq_true rfl) ?_
  show XA _ p l e _ s m _ below meth c D yv a1 ρ1 194 (vsh (wOn w 13)) A 6 _ 42 [xvr 0, xvi o0, xvi q0, xvi k0, xvi t0, xvr 181] [] σ1
  refine vTX (C := kX10_odds_b (wOn w 13)) (w := (wOn w 13)) (w0 := w) (a0 := a) (mc := ((fun w => (if w 13 = true then 0 else 8) + 1) w)) (ms := ((fun w => (if w 13 = true then 0 else 15684) + 6) w)) (kz := (0 + (if w 13 = true then 0 else 8), 0 + (if w 13 = true then 0 else 15684))) (Z := fun c L σ2 => Fr [181, 182, 183, 184, 185, 186, 187, 188] [] σ1 σ2 ∧ c = 55 ∧ L = [xvr 0, xvi o0, xvi q0, xvi k0, xvi t0, xvr 181]) ⟨(by show 0 + _ ≤ _ + 1; omega), (by show 0 + _ ≤ _ + 6; omega)⟩ hC (zX10_odds_b (wOn w 13)) (fun v i n E he => (hX10_odds_b (wOn w 13) (if_pos rfl) l D yv v i n E he).up (Nat.le_of_ble_eq_true rfl)) (by show 0 + _ ≤ _ + 1; omega) (by show 0 + _ ≤ _ + 6; omega) rfl hLK1 hag1 (pX10_odds_b hJ1.g h1 h2 h3 (fun r σ2 f => ⟨(fun _ h => by cases h), hQ _ (wOn w 13) σ2 (hJ1.hi (fun t ht => fr0 f (fun hm => by simp only [List.mem_cons, List.not_mem_nil, or_false] at hm; omega))) ⟨⟨_, rfl⟩, (f.2 1 (by simp)).trans (congrFun (h0 0 (by decide)) 1), rfl, kw_on (by decide) (KT.tr ⟨h0 1 (by decide), h0 31 (by decide)⟩ (kt_fr f))⟩⟩) (fun σ2 f => ⟨f, rfl, rfl⟩)) ?_
  rintro _ _ σ2 ⟨f, rfl, rfl⟩
  exact vs_throw (w := (wOn w 13)) (kz := (0 + (if w 13 = true then 0 else 8), 0 + (if w 13 = true then 0 else 15684))) hC hst hEE htab hR.2.2.2.1 dX10_odds_55 dX10_odds_58 dX10_odds_59 dX10_odds_61 dX10_odds_64 (Nat.le_of_ble_eq_true rfl) (by show 0 + _ + 1 ≤ _ + 1; omega) (by show 0 + _ + 6 ≤ _ + 6; omega) (by show 0 + _ + 1 ≤ _ + 1; omega) (by show 0 + _ + 6 ≤ _ + 6; omega) hLK1 hag1 (hX _ σ2 (hJ1.hi (fun t ht => fr0 f (fun hm => by simp only [List.mem_cons, List.not_mem_nil, or_false] at hm; omega))) ⟨(f.2 1 (by simp)).trans (congrFun (h0 0 (by decide)) 1), rfl, kw_on (by decide) (KT.tr ⟨h0 1 (by decide), h0 31 (by decide)⟩ (kt_fr f))⟩)
set_option maxHeartbeats 4000000 in
set_option maxRecDepth 100000 in
theorem mvX10_next (l : Launch) (D : va_G) (yv : Nat → ClassId) (ad : Nat → Nat) (hst : l.stackTraces = false) : vxMt l D yv ad yX10_next cX10_next 6 (some .long) 6 (fun w => (if w 13 = true then 0 else 8) + 1) (fun w => (if w 13 = true then 0 else 15684) + 6) (pubX ar3 Rl) := by
  intro a ρ w sz as σ Q Qx hE hLK hσ has
  obtain ⟨hJ, ⟨o0, k0, t0, rfl⟩, hQ, hX⟩ := hE
  refine vEnterX (N := 194) (sh := vsh w) (by decide +kernel) (Nat.le_of_ble_eq_true rfl) hσ has (fun p e s m below meth c hsz hYY htab hC => ?_)
  generalize va_A (xws a yv ρ 194 (vsh w) σ) sz = A at hC hYY ⊢
  obtain ⟨hXX, hR, hEE⟩ := hYY
  show XA (0, 0) p l e (vroom 6 ((fun w => (if w 13 = true then 0 else 8) + 1) w) ((fun w => (if w 13 = true then 0 else 15684) + 6) w)) s m _ below meth c D yv a ρ 194 (vsh w) A 6 _ 0 [xvr 0, xvi o0, xvi k0, xvi t0, xvu, xvu] [] σ
  refine vTX (C := kX10_next_a w) (w := w) (w0 := w) (a0 := a) (mc := ((fun w => (if w 13 = true then 0 else 8) + 1) w)) (ms := ((fun w => (if w 13 = true then 0 else 15684) + 6) w)) (kz := (0, 0)) (Z := fun c L σ1 => (c = 31 ∧ L = [xvr 0, xvi o0, xvi k0, xvi t0, xvu, xvu] ∧ σ = σ1) ∨ (∃ lf : Int, c = 56 ∧ L = [xvr 0, xvi o0, xvi k0, xvi t0, xvi lf, xvu] ∧ σ = σ1) ∨ ∃ lf : Int, (0 ≤ o0 ∧ o0 ≤ 5) ∧ (0 ≤ k0 ∧ k0 ≤ 12) ∧ (0 ≤ lf ∧ lf ≤ 52) ∧ c = 67 ∧ L = [xvr 0, xvi o0, xvi k0, xvi t0, xvi lf, xvu] ∧ σ = σ1) ⟨Nat.zero_le _, Nat.zero_le _⟩ hC (zX10_next_a w) (fun v i n E he => (hX10_next_a w l D yv v i n E he).up (Nat.le_of_ble_eq_true rfl)) (Nat.zero_le _) (Nat.zero_le _) rfl hLK (fun _ _ => rfl) (pX10_next_a hJ.g (Or.inl ⟨rfl, rfl, rfl⟩) (fun lf => Or.inr (Or.inl ⟨lf, rfl, rfl, rfl⟩)) (fun lf h1 h2 h3 => Or.inr (Or.inr ⟨lf, h1, h2, h3, rfl, rfl, rfl⟩))) ?_
  rintro _ _ _ (⟨rfl, rfl, rfl⟩ | ⟨lf, rfl, rfl, rfl⟩ | ⟨lf, h1, h2, h3, rfl, rfl, rfl⟩)
  · exact vs_throwW (w := w) (kz := (0, 0)) hC hst hEE htab hR.2.2.1 dX10_next_31 dX10_next_34 dX10_next_35 dX10_next_38 dX10_next_41 (Nat.le_of_ble_eq_true rfl) (by show 0 + 1 ≤ _ + 1; omega) (by show 0 + 6 ≤ _ + 6; omega) (by show 0 + 1 ≤ _ + 1; omega) (by show 0 + 6 ≤ _ + 6; omega) hLK (fun _ _ => rfl) (hX w σ hJ ⟨rfl, rfl, kw_rfl⟩)
  · exact vs_throwW (w := w) (kz := (0, 0)) hC hst hEE htab hR.2.2.2.2 dX10_next_56 dX10_next_59 dX10_next_60 dX10_next_63 dX10_next_66 (Nat.le_of_ble_eq_true rfl) (by show 0 + 1 ≤ _ + 1; omega) (by show 0 + 6 ≤ _ + 6; omega) (by show 0 + 1 ≤ _ + 1; omega) (by show 0 + 6 ≤ _ + 6; omega) hLK (fun _ _ => rfl) (hX w σ hJ ⟨rfl, rfl, kw_rfl⟩)
  refine xs_aload hC (i := 0) (x := 0) dX10_next_67 rfl ?_
  refine vs_callV (kz := (0, 0)) (rest := []) (as' := []) (t := 0) (ci := 10) (n := 0) (K := fun r w' σ' => r = some (xvr 181) ∧ w' = wOn w 13 ∧ ∀ t, blkV t ≠ 13 → σ' t = σ t) hC hXX (mvX10_takeOnlooker l D yv) (Nat.le_of_ble_eq_true rfl) q_3_238 q_4_0 q_p_18 q_1_1 q_4_1 rfl rfl (by decide +kernel) (by decide) (by show 0 + _ ≤ _ + 1; omega) (by show 0 + _ ≤ _ + 6; omega) dX10_next_68 (sh0 _) rfl (by decide) hLK (vLp (by rfl)) (fun u hu => by cases hu) ⟨rfl, fun σ' h => ⟨rfl, rfl, h⟩⟩ (fun r w1 a1 ρ1 σ1 hk hLK1 hag1 => ?_)
  obtain ⟨rfl, rfl, h0⟩ := hk
  have hJ1 : JW (wOn w 13) σ1 := (hJ.hi (fun t ht => h0 t (by unfold blkV; split <;> (try split) <;> (try split) <;> (try split) <;> omega))).w (fun c hc => if_neg (by omega))
  refine xs_astoreL hC (i := 5) (x := 181) dX10_next_71 (Nat.le_of_ble_eq_true rfl) ?_
  show XA _ p l e _ s m _ below meth c D yv a1 ρ1 194 (vsh (wOn w 13)) A 6 _ 73 [xvr 0, xvi o0, xvi k0, xvi t0, xvi lf, xvr 181] [] σ1
  refine vTX (C := kX10_next_b (wOn w 13)) (w := (wOn w 13)) (w0 := w) (a0 := a) (mc := ((fun w => (if w 13 = true then 0 else 8) + 1) w)) (ms := ((fun w => (if w 13 = true then 0 else 15684) + 6) w)) (kz := (0 + (if w 13 = true then 0 else 8), 0 + (if w 13 = true then 0 else 15684))) (Z := fun c L σ2 => Fr [181, 182, 183, 184, 185, 186, 187, 188] [] σ1 σ2 ∧ c = 86 ∧ L = [xvr 0, xvi o0, xvi k0, xvi t0, xvi lf, xvr 181]) ⟨(by show 0 + _ ≤ _ + 1; omega), (by show 0 + _ ≤ _ + 6; omega)⟩ hC (zX10_next_b (wOn w 13)) (fun v i n E he => (hX10_next_b (wOn w 13) (if_pos rfl) l D yv v i n E he).up (Nat.le_of_ble_eq_true rfl)) (by show 0 + _ ≤ _ + 1; omega) (by show 0 + _ ≤ _ + 6; omega) rfl hLK1 hag1 (pX10_next_b hJ1.g h1 h2 h3 (fun r σ2 f => ⟨(fun _ h => by cases h), hQ _ (wOn w 13) σ2 (hJ1.hi (fun t ht => fr0 f (fun hm => by simp only [List.mem_cons, List.not_mem_nil, or_false] at hm; omega))) ⟨⟨_, rfl⟩, (f.2 1 (by simp)).trans (congrFun (h0 0 (by decide)) 1), rfl, kw_on (by decide) (KT.tr ⟨h0 1 (by decide), h0 31 (by decide)⟩ (kt_fr f))⟩⟩) (fun σ2 f => ⟨f, rfl, rfl⟩)) ?_
  rintro _ _ σ2 ⟨f, rfl, rfl⟩
  exact vs_throw (w := (wOn w 13)) (kz := (0 + (if w 13 = true then 0 else 8), 0 + (if w 13 = true then 0 else 15684))) hC hst hEE htab hR.2.2.2.1 dX10_next_86 dX10_next_89 dX10_next_90 dX10_next_92 dX10_next_95 (Nat.le_of_ble_eq_true rfl) (by show 0 + _ + 1 ≤ _ + 1; omega) (by show 0 + _ + 6 ≤ _ + 6; omega) (by show 0 + _ + 1 ≤ _ + 1; omega) (by show 0 + _ + 6 ≤ _ + 6; omega) hLK1 hag1 (hX _ σ2 (hJ1.hi (fun t ht => fr0 f (fun hm => by simp only [List.mem_cons, List.not_mem_nil, or_false] at hm; omega))) ⟨(f.2 1 (by simp)).trans (congrFun (h0 0 (by decide)) 1), rfl, kw_on (by decide) (KT.tr ⟨h0 1 (by decide), h0 31 (by decide)⟩ (kt_fr f))⟩)
