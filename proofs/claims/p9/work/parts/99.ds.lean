/-! Pieces of a method: from a place to a place, in worlds that change. -/
/-- what is looked up once for a running method -/
def XC (p : Program) (R : Room) (s : State) (m : MethodId) (args : Array Value) (meth : Method) (c : Code) (D : va_G) (yv : Nat → ClassId) (A : Nat → Prop) (own : String) (cc : ByteArray) (nL d : Nat) (ret : Option FieldType) : Prop :=
  p.tables.exec = Jvm.exec ∧ c.code = cc ∧ c.maxLocals = nL ∧ s.vm.findClass own = some m.cls ∧ (∀ w ∈ gw, w.before args s = true) ∧ va_K D vwCl (px_tys yv) s ∧ (∀ q : Nat, s.heap.size ≤ q → A q) ∧ d ≤ R.frames ∧ 40 * d ≤ R.locals ∧ meth.sig.returnType = ret ∧ meth.locks = false
/-- a piece: from c0 to a return with Q, or to a place where Z holds -/
def xTE (C : xC) (Q : Option xV → xS → Prop) (Z : Nat → List xV → xS → Prop) (c0 : Nat) (L0 : List xV) (σ0 : xS) : Prop := ∀ X : Nat → List xV → xS → Prop, (∀ n c L σ, xwC C X Q n c L σ → X c L σ) → (∀ c L σ, Z c L σ → X c L σ) → X c0 L0 σ0
section XP
variable {p : Program} {l : Launch} {e : Env} {R : Room} {s : State} {m : MethodId} {args : Array Value} {below : List Frame} {meth : Method} {c : Code}
variable {cc : ByteArray} {nL d : Nat} {own : String} {D : va_G} {yv : Nat → ClassId} {a : Nat → Nat} {ρ : Nat → Nat → Option Nat} {N : Nat} {sh : xH} {A : Nat → Prop} {kz : Nat × Nat} {Qm : State → Prop} {ret : Option FieldType} {pc : Nat} {L st : List xV} {σ : xS}
theorem XA.rise {kz' : Nat × Nat} (h1 : kz.1 ≤ kz'.1) (h2 : kz.2 ≤ kz'.2) (k : XA kz' p l e R s m args below meth c D yv a ρ N sh A nL Qm pc L st σ) : XA kz p l e R s m args below meth c D yv a ρ N sh A nL Qm pc L st σ :=
  fun hL hst hσ hln H locs ls hP hD hS hl => (k hL hst hσ hln H locs ls hP hD hS hl).rise h1 h2
theorem xTE_s {C : xC} {Q : Option xV → xS → Prop} {Z : Nat → List xV → xS → Prop} {Qc : Array Value → State → Outcome → State → Prop} {c0 : Nat} {L0 : List xV} {σ0 : xS} (hC : XC p R s m args meth c D yv A own cc C.2.2.2.2.2.2 d (xrt C.2.2.2.2.2.1)) (hS0 : xSt own cc C N) (hE : ∀ (v : Bool) i n E, C.2.2.2.1 (2 * i + if v then 0 else 1) = some (n, E) → xCk l D yv own cc d N C.1 v i n E)
    (hk1 : kz.1 ≤ R.cells) (hk2 : kz.2 ≤ R.slots) (hQc : ∀ (r : Option xV) (σ : xS) (t : State), Q r σ → (∀ v, r = some v → xg v) → xgs C.1 σ → va_P D vwCl (xws a yv ρ N C.1 σ) t.heap → va_D A (xws a yv ρ N C.1 σ) → va_F A s t → Qc args s (.returned (r.map (xv a))) t)
    (hT : xTE C Q Z c0 L0 σ0) (hZ : ∀ c0 L σ, Z c0 L σ → XA kz p l e R s m args below meth c D yv a ρ N C.1 A C.2.2.2.2.2.2 (MQ below Qc args s kz.1 kz.2 A) c0 L [] σ) : XA kz p l e R s m args below meth c D yv a ρ N C.1 A C.2.2.2.2.2.2 (MQ below Qc args s kz.1 kz.2 A) c0 L0 [] σ0 := by
  obtain ⟨hN, hshp, hsln, hfld, hcon, hok⟩ := hS0
  obtain ⟨hx, hb, hml, hown, hg, hK, hA, hR1, hR2, hr, hlocks⟩ := hC
  exact hT (fun c0 L σ => XA kz p l e R s m args below meth c D yv a ρ N C.1 A C.2.2.2.2.2.2 (MQ below Qc args s kz.1 kz.2 A) c0 L [] σ)
    (fun n c0 L σ h => xw_s hx hb hown hg hK hN hshp hsln hfld hcon (xjmp_ok hok) hr hlocks hQc (fun _ _ _ h => h)
      (fun v i n E he => hE v i n E he p e R s m _ below meth c a ρ A _ _ hx hb hml hown hg hK hA hR1 hR2 kz hk1 hk2) n _ c0 L [] σ (xcode_ok hok c0).1 (xcode_ok hok c0).2 h) hZ
theorem xs_aload (hC : XC p R s m args meth c D yv A own cc nL d ret) {i : Fin 4} {x : Nat} (hd : decode cc pc = .ok (.aload_n i, 1)) (h1 : L[i.val]? = some (xvr x)) (k : XA kz p l e R s m args below meth c D yv a ρ N sh A nL Qm (pc + 1) L (xvr x :: st) σ) : XA kz p l e R s m args below meth c D yv a ρ N sh A nL Qm pc L st σ := by
  intro hL hst hσ hln H locs ls hP hD hS hl
  exact lv_aload_n hC.1 hC.2.1 hd rfl (hl.2.2 _ (xlv_in h1 (by simp))) (k hL (xcons hst (hL _ (List.mem_of_getElem? h1))) hσ hln H locs ls hP hD hS hl)
theorem xs_iload (hC : XC p R s m args meth c D yv A own cc nL d ret) {i : Fin 4} {x : Int} (hd : decode cc pc = .ok (.iload_n i, 1)) (h1 : L[i.val]? = some (xvi x)) (k : XA kz p l e R s m args below meth c D yv a ρ N sh A nL Qm (pc + 1) L (xvi x :: st) σ) : XA kz p l e R s m args below meth c D yv a ρ N sh A nL Qm pc L st σ := by
  intro hL hst hσ hln H locs ls hP hD hS hl
  exact lv_iload_n hC.1 hC.2.1 hd rfl (hl.2.2 _ (xlv_in h1 (by simp))) (k hL (xcons hst (hL _ (List.mem_of_getElem? h1))) hσ hln H locs ls hP hD hS hl)
theorem xs_istore (hC : XC p R s m args meth c D yv A own cc nL d ret) {i : Fin 4} {x : Int} (hd : decode cc pc = .ok (.istore_n i, 1)) (hi : i.val < L.length) (k : XA kz p l e R s m args below meth c D yv a ρ N sh A nL Qm (pc + 1) (xst1 L i.val (xvi x)) st σ) : XA kz p l e R s m args below meth c D yv a ρ N sh A nL Qm pc L (xvi x :: st) σ := by
  intro hL hst hσ hln H locs ls hP hD hS hl
  exact lv_istore_n (lv := xlv a L) hC.1 hC.2.1 hd rfl hl (show i.val < nL from hln ▸ hi) rfl (fun ls hl => k (xst1_g hL (xhd hst)) (xtl hst) hσ (by rw [xst1_n]; exact hln) H locs ls hP hD hS (xst1_l hi hl))
theorem xs_astore (hC : XC p R s m args meth c D yv A own cc nL d ret) {i : Fin 4} {x : Nat} (hd : decode cc pc = .ok (.astore_n i, 1)) (hi : i.val < L.length) (k : XA kz p l e R s m args below meth c D yv a ρ N sh A nL Qm (pc + 1) (xst1 L i.val (xvr x)) st σ) : XA kz p l e R s m args below meth c D yv a ρ N sh A nL Qm pc L (xvr x :: st) σ := by
  intro hL hst hσ hln H locs ls hP hD hS hl
  exact lv_astore_n (lv := xlv a L) hC.1 hC.2.1 hd rfl hl (show i.val < nL from hln ▸ hi) rfl (fun ls hl => k (xst1_g hL (xhd hst)) (xtl hst) hσ (by rw [xst1_n]; exact hln) H locs ls hP hD hS (xst1_l hi hl))
/-- a field's value, read as it stands -/
theorem xs_get (hC : XC p R s m args meth c D yv A own cc nL d ret) (hN : xfin N sh) {i ci j t cd : Nat} {codes : List Nat} {v : xV} (hf : xFd own i ci j) (hs : sh t = some (0, ci, codes)) (hcj : codes[j]? = some cd) (hv : xfv a ρ σ t j cd = xv a v) (hgv : xgs sh σ → xg v) (hd : decode cc pc = .ok (.getfield i, 3)) (k : XA kz p l e R s m args below meth c D yv a ρ N sh A nL Qm (pc + 3) L (v :: st) σ) : XA kz p l e R s m args below meth c D yv a ρ N sh A nL Qm pc L (xvr t :: st) σ := by
  obtain ⟨C, TT, NN, ty0, f1, f2, f3, f4, f5, f6, f7⟩ := hf
  obtain ⟨q, hq⟩ := xtags_in hN hs
  obtain ⟨hx, hb, hml, hown, hg, hK, hA, hR1, hR2, hr, hlocks⟩ := hC
  intro hL hst hσ hln H locs ls hP hD hS hl
  have hv2 : (xfs a ρ σ t codes)[j]? = some (xv a v) := by rw [xfs_at, hcj, ← hv]; rfl
  exact va_get hx hb hg f2 hown hK hP q (xws_at hq hs) f1 j f5 (hg _ f6) (fun _ h9 => h9) hv2 hd (k hL (xcons (xtl hst) (hgv hσ)) hσ hln H locs ls hP hD hS hl)
theorem xs_sipush (hC : XC p R s m args meth c D yv A own cc nL d ret) {z : Int} (h1 : -32768 ≤ z) (h2 : z ≤ 32767) (hd : decode cc pc = .ok (.sipush z, 3)) (k : XA kz p l e R s m args below meth c D yv a ρ N sh A nL Qm (pc + 3) L (xvi z :: st) σ) : XA kz p l e R s m args below meth c D yv a ρ N sh A nL Qm pc L st σ := by
  have hr1 : xR32 z := ⟨by omega, by omega⟩
  have hr2 : (Int16.ofInt z).toInt32 = Int32.ofInt z := Int16.toInt32_ofInt (by have e : Int16.minValue.toInt = -32768 := rfl; omega) (by have e : Int16.maxValue.toInt = 32767 := rfl; omega)
  intro hL hst hσ hln H locs ls hP hD hS hl
  exact lv_sipush hC.1 hC.2.1 hd hr2 (k hL (xcons hst hr1) hσ hln H locs ls hP hD hS hl)
/-- the same heap, seen as another world -/
theorem XA.view {a' : Nat → Nat} {ρ' : Nat → Nat → Option Nat} {N' : Nat} {sh' : xH} {σ' : xS} {L' st' : List xV} (hP : ∀ H : Heap, va_P D vwCl (xws a yv ρ N sh σ) H → va_D A (xws a yv ρ N sh σ) → va_P D vwCl (xws a' yv ρ' N' sh' σ') H ∧ va_D A (xws a' yv ρ' N' sh' σ')) (hL : L'.map (xv a') = L.map (xv a)) (hLu : ∀ i : Nat, L'[i]? = some xvu ↔ L[i]? = some xvu) (hst : st'.map (xv a') = st.map (xv a)) (hgL : (∀ v ∈ L, xg v) → ∀ v ∈ L', xg v) (hgs : (∀ v ∈ st, xg v) → ∀ v ∈ st', xg v) (hσ : xgs sh σ → xgs sh' σ')
    (k : XA kz p l e R s m args below meth c D yv a' ρ' N' sh' A nL Qm pc L' st' σ') : XA kz p l e R s m args below meth c D yv a ρ N sh A nL Qm pc L st σ := by
  intro h1 h2 h3 h4 H locs ls h5 h6 h7 h8
  obtain ⟨g1, g2⟩ := hP H h5 h6
  have hlen : L'.length = L.length := by have := congrArg List.length hL; simpa using this
  have go := k (hgL h1) (hgs h2) (hσ h3) (hlen.trans h4) H locs ls g1 g2 h7
  rw [hst] at go
  refine go ⟨h8.1, h8.2.1, fun ⟨i, v⟩ hq => h8.2.2 (i, v) ?_⟩
  obtain ⟨w, q1, q2, q3⟩ := xlv_mem hq
  have q1 : L'[i]? = some w := q1
  have q3 : v = xv a' w := q3
  cases hw : L[i]? with
  | none =>
    have h9 : i < L'.length := (List.getElem?_eq_some_iff.mp q1).1
    rw [List.getElem?_eq_none_iff] at hw
    omega
  | some w2 =>
    have e1 : xv a' w = xv a w2 := by
      have z := congrArg (fun l : List Value => l[i]?) hL
      simpa [List.getElem?_map, q1, hw] using z
    have hne : w2 ≠ xvu := fun e => q2 (Option.some.inj (q1.symm.trans ((hLu i).mpr (by rw [hw, e]))))
    rw [q3, e1]
    exact xlv_in (a := a) hw hne
end XP
