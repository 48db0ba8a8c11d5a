/-! Methods of the world V(w) that may make blocks (written by hand, wip/p2/hand/99.ej). -/
abbrev vsh (w : Nat → Bool) : xH := shW wlVF0 w
theorem vfi (w : Nat → Bool) : xfin 194 (vsh w) := fiW (l := wlVF0) (w := w) rfl
/-- what the tables say beside the good words -/
def vX (U : State) : Prop := px_X U ∧ va_Nw (.methodLinkNest RX10 380 yX4_init "SevenTable") U ∧ va_Nw (.methodLinkNest RX10 381 yX0_init "SevenTable") U
theorem vX.same {u U : State} (h : u.vm = U.vm) (x : vX u) : vX U := ⟨px_X.same h x.1, va_Nw.same rfl h x.2.1, va_Nw.same rfl h x.2.2⟩
theorem vX.warm {s U : State} (hW : s.WarmedH U.vm) (x : vX s) : vX U := ⟨px_X.warm hW x.1, va_Nw.warmM hW x.2.1, va_Nw.warmM hW x.2.2⟩
theorem v_blind {D : va_G} {y : Nat → ClassId} {sz : Nat} {ws : va_W} {av : List Value} : FrameBlind (va_Pc av (fun U => px_P D y sz ws U ∧ vX U)) := fun a U g mk q => ⟨q.1, (px_blind (D := D) (y := y) (sz := sz) (ws := ws) (av := av) a U g mk ⟨q.1, q.2.1⟩).2, vX.same (u := U) (U := U.calling g mk a) rfl q.2.2⟩
/-- another start, another end -/
theorem v_cons {l : Launch} {y : MethodName} {ws : List Cond} {rm : Room} {Pc Pc' : Array Value → State → Prop} {Qc Qc' : Array Value → State → Outcome → State → Prop} {mc ms : Nat} {free : Addr → Prop} (h : Met l y ws rm Pc Qc mc ms free) (h1 : ∀ a st, Pc' a st → Pc a st) (h2 : ∀ a st o t, Pc' a st → Qc a st o t → Qc' a st o t) : Met l y ws rm Pc' Qc' mc ms free := by
  intro p e h3 h4 h5 s m args below h6 h7 h8 h9
  obtain ⟨n, o, a1, a2, a3, a4, a5⟩ := h p e h3 h4 h5 s m args below h6 h7 (h1 _ _ h8) h9
  exact ⟨n, o, a1, a2, a3, h2 _ _ _ _ h8 a4, a5⟩
theorem xcell_cg {a a' : Nat → Nat} {y : Nat → ClassId} {ρ ρ' : Nat → Nat → Option Nat} {σ σ' : xS} {t : Nat} {e : Nat × Nat × List Nat} (ha : ∀ c, c + 4 ∈ e.2.2 → a' c = a c) (hρ : ρ' t = ρ t) (hσ : σ' t = σ t) : xcell a' y ρ' σ' t e = xcell a y ρ σ t e := by
  match e, ha with
  | (0, ci, codes), ha =>
    have : xfs a' ρ' σ' t codes = xfs a ρ σ t codes := by
      refine List.ext_getElem? (fun k => ?_)
      rw [xfs_at, xfs_at]
      cases hk : codes[k]? with
      | none => rfl
      | some c =>
        match c, hk with
        | 0, _ => simp [xfv, hσ]
        | 1, _ => simp [xfv, hσ]
        | 2, _ => simp [xfv, hσ]
        | 3, _ => simp [xfv, hρ]
        | c + 4, hk => simp [xfv, ha c (List.mem_of_getElem? hk)]
    exact congrArg (fun l => (Sum.inr (ci, l) : va_E)) this
  | (k + 1, n, _), _ => simp [xcell, xcon, hσ, hρ]
theorem vRf0 : (wlVF0.zipIdx.all (fun q => q.1.2.2.all (fun c => decide (c < 4) || (decide (c - 4 < 194) && (decide (blkV (c - 4) = blkV q.2) || decide (blkV (c - 4) = 0)))))) = true := by decide +kernel
/-- references lead into the same block, or to what is always there -/
theorem vRf {t : Nat} {e : Nat × Nat × List Nat} (h : wlVF0[t]? = some e) {c : Nat} (hc : c + 4 ∈ e.2.2) : c < 194 ∧ (blkV c = blkV t ∨ blkV c = 0) := by
  have h1 : (e, t) ∈ wlVF0.zipIdx := List.mem_of_getElem? (i := t) (by rw [List.getElem?_zipIdx, h]; simp)
  have h2 := List.all_eq_true.mp (List.all_eq_true.mp vRf0 _ h1) _ hc
  have h3 : c + 4 < 4 ∨ c < 194 ∧ (blkV c = blkV t ∨ blkV c = 0) := by simpa using h2
  rcases h3 with h3 | h3
  · omega
  · exact h3
theorem vLen : wlVF0.length = 194 := by decide +kernel
/-- a tag that is there leads to tags that are there -/
theorem vSome {w : Nat → Bool} {t : Nat} {e : Nat × Nat × List Nat} (h : vsh w t = some e) {c : Nat} (hc : c + 4 ∈ e.2.2) : c < 194 ∧ (vsh w c).isSome = true := by
  obtain ⟨h1, h2⟩ := shW_e h
  obtain ⟨h3, h4⟩ := vRf h1 hc
  refine ⟨h3, ?_⟩
  obtain ⟨e2, he2⟩ : ∃ e2, wlVF0[c]? = some e2 := ⟨_, List.getElem?_eq_getElem (by rw [vLen]; exact h3)⟩
  rw [show vsh w c = some e2 from shW_of he2 ?_]
  · rfl
  · rcases h4 with h4 | h4
    · rw [h4]; exact h2
    · exact Or.inl h4
/-- the end of such a method -/
def vQ (D : va_G) (yv : Nat → ClassId) (a : Nat → Nat) (w : Nat → Bool) (A : Nat → Prop) (Q : Option xV → (Nat → Bool) → xS → Prop) : Array Value → State → Outcome → State → Prop := fun _ st oc t =>
  (∃ (r : Option xV) (w' : Nat → Bool) (a' : Nat → Nat) (ρ' : Nat → Nat → Option Nat) (σ' : xS), oc = .returned (r.map (xv a')) ∧ Q r w' σ' ∧ (∀ v, r = some v → xg v) ∧ (∀ u, r = some (xvr u) → u < 194) ∧ LK a' ρ' w' ∧ xgs (vsh w') σ' ∧ (∀ t, (vsh w t).isSome = true → a' t = a t) ∧ va_P D vwCl (xws a' yv ρ' 194 (vsh w') σ') t.heap ∧ va_D A (xws a' yv ρ' 194 (vsh w') σ')) ∧ va_F A st t
abbrev vE : Type := (Nat → Bool) → List xV → xS → (Option xV → (Nat → Bool) → xS → Prop) → Prop
abbrev vroom (d mc ms : Nat) : Room := { frames := d, cells := mc, slots := ms, locals := 40 * d }
def vMt (l : Launch) (D : va_G) (yv : Nat → ClassId) (y : MethodName) (cy : ByteArray) (nLy : Nat) (ret : Option FieldType) (d : Nat) (mc ms : (Nat → Bool) → Nat) (E : vE) : Prop :=
  ∀ (a : Nat → Nat) (ρ : Nat → Nat → Option Nat) (w : Nat → Bool) (sz : Nat) (as : List xV) (σ : xS) (Q : Option xV → (Nat → Bool) → xS → Prop), E w as σ Q → LK a ρ w → xgs (vsh w) σ → (∀ v ∈ as, xg v) →
    Met l y (px_w y cy nLy ret) (vroom d (mc w) (ms w)) (va_Pc (as.map (xv a)) (fun U => px_P D yv sz (xws a yv ρ 194 (vsh w) σ) U ∧ vX U)) (vQ D yv a w (va_A (xws a yv ρ 194 (vsh w) σ) sz) Q) (mc w) (ms w) (va_A (xws a yv ρ 194 (vsh w) σ) sz)
theorem vEnter {l : Launch} {D : va_G} {yv : Nat → ClassId} {y : MethodName} {cc : ByteArray} {nL : Nat} {ret : Option FieldType} {N : Nat} {sh : xH} {d mc ms sz : Nat} {a : Nat → Nat} {ρ : Nat → Nat → Option Nat} {as : List xV} {σ : xS} {Qc : Array Value → State → Outcome → State → Prop} (hpl : plainName y.cls = true) (hlen : (xargs as).length ≤ nL) (hσ : xgs sh σ) (has : ∀ v ∈ as, xg v)
    (body : ∀ (p : Program) (e : Env) (s : State) (m : MethodId) (below : List Frame) (meth : Method) (c : Code), s.heap.size = sz → vX s → XC p (vroom d mc ms) s m (as.map (xv a)).toArray meth c D yv (va_A (xws a yv ρ N sh σ) sz) y.cls cc nL d ret → XA (0, 0) p l e (vroom d mc ms) s m (as.map (xv a)).toArray below meth c D yv a ρ N sh (va_A (xws a yv ρ N sh σ) sz) nL (MQ below Qc (as.map (xv a)).toArray s mc ms (va_A (xws a yv ρ N sh σ) sz)) 0 (xargs as ++ List.replicate (nL - (xargs as).length) xvu) [] σ) :
    Met l y (px_w y cc nL ret) (vroom d mc ms) (va_Pc (as.map (xv a)) (fun U => px_P D yv sz (xws a yv ρ N sh σ) U ∧ vX U)) Qc mc ms (va_A (xws a yv ρ N sh σ) sz) := by
  refine Met.ofW (cc := cc) (maxL := nL) (ret := ret) hpl rfl ?_
  intro p e s m args below meth c s₁ B hml hv
  obtain ⟨rfl, ⟨hsz, hP, hK, hD0⟩, hXX⟩ := hv
  have hts := atoms_spec (ws := px_w y cc nL ret) B.pre
  have hg : ∀ w ∈ gw, w.before (as.map (xv a)).toArray s = true := fun w h => hts w (List.mem_cons_of_mem _ h)
  have hown : s.vm.findClass y.cls = some m.cls := findClass_of_methodNamed B.named
  have hb0 := body p e s m below meth c hsz hXX ⟨B.exec, B.bytes, hml, hown, hg, hK, fun q h => Or.inr (by omega), Nat.le_refl _, Nat.le_refl _, B.returns, B.notSynchronized⟩
  have hD := hD0.self (sz := sz)
  have hl := lv_entry (as.map (xv a)) (n := nL) (by rw [xargs_len]; exact hlen)
  rw [lg_entry_eq]
  generalize (lg_sl (as.map (xv a)) ++ List.replicate (nL - (lg_sl (as.map (xv a))).length) Slot.unset).toArray = ls at hl ⊢
  refine hb0 ?_ (fun v h => by cases h) hσ ?_ s.heap [] ls hP hD va_S.rf ?_
  · intro v hv
    rcases List.mem_append.mp hv with hv | hv
    · exact xargs_g has v hv
    · rw [List.eq_of_mem_replicate hv]; exact trivial
  · rw [List.length_append, List.length_replicate]
    omega
  · refine ⟨hl.1, hl.2.1, fun q hq => ?_⟩
    obtain ⟨w, h1, h2, h3⟩ := xlv_mem hq
    have h4 : (xargs as)[q.1]? = some w := by
      rcases Nat.lt_or_ge q.1 (xargs as).length with h5 | h5
      · rwa [List.getElem?_append_left h5] at h1
      · rw [List.getElem?_append_right h5] at h1
        exact absurd (List.eq_of_mem_replicate (List.mem_of_getElem? h1)) h2
    have h6 := hl.2.2 _ (xargs_at a as 0 q.1 w h4 h2)
    rw [h3]
    simpa using h6
section XP
variable {p : Program} {l : Launch} {e : Env} {R : Room} {s : State} {m : MethodId} {args : Array Value} {below : List Frame} {meth : Method} {c : Code}
variable {cc : ByteArray} {nL d : Nat} {own : String} {D : va_G} {yv : Nat → ClassId} {a : Nat → Nat} {ρ : Nat → Nat → Option Nat} {N : Nat} {sh : xH} {A : Nat → Prop} {kz : Nat × Nat} {Qm : State → Prop} {ret : Option FieldType} {pc : Nat} {L st : List xV} {σ : xS}
theorem xTE_sG {C : xC} {Q : Option xV → xS → Prop} {Z : Nat → List xV → xS → Prop} {Qc : Array Value → State → Outcome → State → Prop} {c0 : Nat} {L0 : List xV} {σ0 : xS} {kq : Nat × Nat} (hkq : kz.1 ≤ kq.1 ∧ kz.2 ≤ kq.2) (hC : XC p R s m args meth c D yv A own cc C.2.2.2.2.2.2 d (xrt C.2.2.2.2.2.1)) (hS0 : xSt own cc C N) (hE : ∀ (v : Bool) i n E, C.2.2.2.1 (2 * i + if v then 0 else 1) = some (n, E) → xCk l D yv own cc d N C.1 v i n E)
    (hk1 : kz.1 ≤ R.cells) (hk2 : kz.2 ≤ R.slots) (hQc : ∀ (r : Option xV) (σ : xS) (t : State), Q r σ → (∀ v, r = some v → xg v) → xgs C.1 σ → va_P D vwCl (xws a yv ρ N C.1 σ) t.heap → va_D A (xws a yv ρ N C.1 σ) → va_F A s t → Qc args s (.returned (r.map (xv a))) t)
    (hT : xTE C Q Z c0 L0 σ0) (hZ : ∀ c0 L σ, Z c0 L σ → XA kz p l e R s m args below meth c D yv a ρ N C.1 A C.2.2.2.2.2.2 (MQ below Qc args s kq.1 kq.2 A) c0 L [] σ) : XA kz p l e R s m args below meth c D yv a ρ N C.1 A C.2.2.2.2.2.2 (MQ below Qc args s kq.1 kq.2 A) c0 L0 [] σ0 := by
  obtain ⟨hN, hshp, hsln, hfld, hcon, hok⟩ := hS0
  obtain ⟨hx, hb, hml, hown, hg, hK, hA, hR1, hR2, hr, hlocks⟩ := hC
  exact hT (fun c0 L σ => XA kz p l e R s m args below meth c D yv a ρ N C.1 A C.2.2.2.2.2.2 (MQ below Qc args s kq.1 kq.2 A) c0 L [] σ)
    (fun n c0 L σ h => xw_sG hkq hx hb hown hg hK hN hshp hsln hfld hcon (xjmp_ok hok) hr hlocks hQc (fun _ _ _ h => h)
      (fun v i n E he => hE v i n E he p e R s m _ below meth c a ρ A _ _ hx hb hml hown hg hK hA hR1 hR2 kz hk1 hk2) n _ c0 L [] σ (xcode_ok hok c0).1 (xcode_ok hok c0).2 h) hZ
/-- a piece in V(w) of a method that began in V(w0) -/
theorem vTE {C : xC} {w0 w : Nat → Bool} {a0 : Nat → Nat} {K : Option xV → (Nat → Bool) → xS → Prop} {Z : Nat → List xV → xS → Prop} {c0 : Nat} {L0 : List xV} {σ0 : xS} {mc ms : Nat} (hkq : kz.1 ≤ mc ∧ kz.2 ≤ ms) (hC : XC p R s m args meth c D yv A own cc C.2.2.2.2.2.2 d (xrt C.2.2.2.2.2.1)) (hS0 : xSt own cc C 194) (hE : ∀ (v : Bool) i n E, C.2.2.2.1 (2 * i + if v then 0 else 1) = some (n, E) → xCk l D yv own cc d 194 C.1 v i n E)
    (hk1 : kz.1 ≤ R.cells) (hk2 : kz.2 ≤ R.slots) (hsh : C.1 = vsh w) (hLK : LK a ρ w) (hag : ∀ t, (vsh w0 t).isSome = true → a t = a0 t)
    (hT : xTE C (fun r σ => (∀ u, r ≠ some (xvr u)) ∧ K r w σ) Z c0 L0 σ0) (hZ : ∀ c0 L σ, Z c0 L σ → XA kz p l e R s m args below meth c D yv a ρ 194 (vsh w) A C.2.2.2.2.2.2 (MQ below (vQ D yv a0 w0 A K) args s mc ms A) c0 L [] σ) : XA kz p l e R s m args below meth c D yv a ρ 194 (vsh w) A C.2.2.2.2.2.2 (MQ below (vQ D yv a0 w0 A K) args s mc ms A) c0 L0 [] σ0 := by
  rw [← hsh] at hZ ⊢
  refine xTE_sG (kq := (mc, ms)) hkq hC hS0 hE hk1 hk2 (fun r σ t h1 h2 h3 h4 h5 h6 => ?_) hT hZ
  rw [hsh] at h3 h4 h5
  exact ⟨⟨r, w, a, ρ, σ, rfl, h1.2, h2, fun u hu => absurd hu (h1.1 u), hLK, h3, hag, h4, h5⟩, h6⟩
theorem vrun_go {pc : Nat} {ls : Array Slot} {rest st0 : List Value} {A1 : Nat → Prop} {a0 : Nat → Nat} {w0 : Nat → Bool} {mc ms : Nat} {H : Heap} {locs : List Loc} {K : Option xV → (Nat → Bool) → xS → Prop} {as : Array Value} {free : Addr → Prop}
    (hr : va_Run p l e R s m args below meth c H locs kz.1 kz.2 mc ms (F0 m pc ls st0) rest (vQ D yv a0 w0 A1 K as) free) (hS : va_S A s.heap H locs) (hA : ∀ q, q < H.size → A1 q → A q) (hf : ∀ q, free q → A q)
    (kk : ∀ (r : Option xV) (w' : Nat → Bool) (a' : Nat → Nat) (ρ' : Nat → Nat → Option Nat) (σ' : xS) (H1 : Heap) (locs1 : List Loc), K r w' σ' → (∀ v, r = some v → xg v) → (∀ u, r = some (xvr u) → u < 194) → LK a' ρ' w' → xgs (vsh w') σ' → (∀ t, (vsh w0 t).isSome = true → a' t = a0 t) → va_P D vwCl (xws a' yv ρ' 194 (vsh w') σ') H1 → va_D A1 (xws a' yv ρ' 194 (vsh w') σ') → H.size ≤ H1.size → (∀ q : Nat, q < H.size → ¬ A1 q → H1[q]? = H[q]?) → va_S A s.heap H1 locs1 → W p l e R s m args below meth c H1 locs1 (kz.1 + mc) (kz.2 + ms) Qm (F0 m (pc + 3) ls ((r.map (xv a')).toList ++ rest))) : W p l e R s m args below meth c H locs kz.1 kz.2 Qm (F0 m pc ls st0) := by
  intro T hT X
  obtain ⟨v, st₀, t, T', L, h0, X', hL, e1, e2, ⟨⟨r, w', a', ρ', σ', hv, hk1, hr1, hr2, hlk, hσ1, hag, hP1, hD1⟩, hz, hk⟩, st⟩ := hr T hT X
  cases hv
  rw [h0] at hz hk
  obtain ⟨t2, a1, b1⟩ := kk r w' a' ρ' σ' T'.heap (locs ++ L) hk1 hr1 hr2 hlk hσ1 hag (by rw [e1]; exact hP1) hD1 (by rw [e1]; exact hz) (fun q h1 h2 => by rw [e1]; exact hk q h1 h2)
    ⟨Nat.le_trans hS.1 (by rw [e1]; exact hz), fun q h1 h2 => by rw [e1, hk q (Nat.lt_of_lt_of_le h1 hS.1) (fun z => h2 (hA q (Nat.lt_of_lt_of_le h1 hS.1) z))]; exact hS.2.1 q h1 h2, fun q hq => by
      rcases List.mem_append.mp hq with h | h
      · exact hS.2.2 q h
      · exact hf _ (hL q h)⟩ T' rfl X'
  exact ⟨t2, st t2 a1, b1⟩
/-- worlds that hold V(w) in their first 194 tags -/
def vFam (N : Nat) (shf : (Nat → Bool) → xH) : Prop := 194 ≤ N ∧ (∀ w, xfin N (shf w)) ∧ (∀ w t, t < 194 → shf w t = vsh w t) ∧ (∀ w w' t, 194 ≤ t → shf w t = shf w' t) ∧ ∀ w t e, 194 ≤ t → shf w t = some e → ∀ c, c + 4 ∈ e.2.2 → 194 ≤ c ∧ c < N
theorem vFam_V : vFam 194 vsh := ⟨Nat.le_refl _, vfi, fun _ _ _ => rfl, fun w w' t h => by rw [vfi w t h, vfi w' t h], fun w t e h h2 => by rw [vfi w t h] at h2; cases h2⟩
/-- a call of such a method, from a world that holds V(w); m1, m2, m3 put the new and the old together -/
theorem vs_call {y : MethodName} {cy : ByteArray} {nLy dy i n ci t : Nat} {rety : Option FieldType} {mc ms : (Nat → Bool) → Nat} {w : Nat → Bool} {shf : (Nat → Bool) → xH} {E : vE} {vwq : vw_C} {codes : List Nat} {as' rest : List xV} {K : Option xV → (Nat → Bool) → xS → Prop} (m1 : xS → xS) (m2 : (Nat → Nat) → Nat → Nat) (m3 : (Nat → Nat → Option Nat) → Nat → Nat → Option Nat)
    (hm1 : ∀ f t, (t < 194 → m1 f t = f t) ∧ (194 ≤ t → t < N → m1 f t = σ t)) (hm2 : ∀ f t, (t < 194 → m2 f t = f t) ∧ (194 ≤ t → t < N → m2 f t = a t)) (hm3 : ∀ f t, (t < 194 → m3 f t = f t) ∧ (194 ≤ t → t < N → m3 f t = ρ t))
    (hC : XC p R s m args meth c D yv A own cc nL d ret) (hXX : vX s) (hM : vMt l D yv y cy nLy rety dy mc ms E) (hd : dy + 1 ≤ d) (hF : vFam N shf) (h1 : Cond.methodLink own i y ∈ gw) (h2 : Cond.instanceMethod y ∈ gw) (h3 : Cond.selects y.cls y y ∈ gw) (h4 : Cond.initialized y.cls ∈ gw) (h5 : Cond.code y cy nLy rety ∈ gw)
    (hc : vwCl[ci]? = some vwq) (hq : vwq.1 = y.cls) (hdd : y.cls ≠ "java/lang/invoke/MethodHandle" ∧ y.cls ≠ "java/lang/invoke/VarHandle" ∧ (parseMethodDescriptor y.desc).map (fun d => d.parameters.length) = some n) (hL : nLy ≤ 21) (hk1 : kz.1 + mc w ≤ R.cells) (hk2 : kz.2 + ms w ≤ R.slots) (hdec : decode cc pc = .ok (.invokevirtual i, 3)) (hs : vsh w t = some (0, ci, codes)) (hlen : as'.length = n) (hrest : rest.length ≤ 4) (hLK : LK a ρ w)
    (hLp : ∀ u, xvr u ∈ L → (194 ≤ u ∧ u < N) ∨ (vsh w u).isSome = true) (hrp : ∀ u, xvr u ∈ rest → (194 ≤ u ∧ u < N) ∨ (vsh w u).isSome = true)
    (hE : E w (xvr t :: as') σ K)
    (hk : ∀ r w' a' ρ' σ', K r w' σ' → LK a' ρ' w' → (∀ t, (vsh w t).isSome = true → a' t = a t) → XA (kz.1 + mc w, kz.2 + ms w) p l e R s m args below meth c D yv (m2 a') (m3 ρ') N (shf w') A nL Qm (pc + 3) L (r.toList ++ rest) (m1 σ')) : XA kz p l e R s m args below meth c D yv a ρ N (shf w) A nL Qm pc L ((xvr t :: as').reverse ++ rest) σ := by
  obtain ⟨hx, hb1, hml, hown, hg, hK, hA, hR1, hR2, hr, hlocks⟩ := hC
  obtain ⟨hN0, hfin, hf1, hf2, hf3⟩ := hF
  intro hL1 hst hσ hln H locs ls hP hD hS hl
  have has : ∀ v ∈ xvr t :: as', xg v := fun v hv => hst v (List.mem_append_left _ (List.mem_reverse.mpr hv))
  have hre : ∀ v ∈ rest, xg v := fun v hv => hst v (List.mem_append_right _ hv)
  have hσv : xgs (vsh w) σ := by
    refine ⟨fun u ci codes hu j c hc => ?_, fun u k n l hu j hj => ?_⟩
    · have hu2 : u < 194 := Nat.not_le.mp (fun h => by rw [vfi w u h] at hu; cases hu)
      exact hσ.1 u ci codes (by rw [hf1 w u hu2]; exact hu) j c hc
    · have hu2 : u < 194 := Nat.not_le.mp (fun h => by rw [vfi w u h] at hu; cases hu)
      exact hσ.2 u k n l (by rw [hf1 w u hu2]; exact hu) j hj
  have hMet := hM a ρ w H.size (xvr t :: as') σ K hE hLK hσv has
  have hPs : va_P D vwCl (xws a yv ρ 194 (vsh w) σ) H := xws_P.mpr (fun u e hu hue => xws_P.mp hP u e (by omega) (by rw [hf1 w u hu]; exact hue))
  have hDold := xws_D.mp hD
  have hDs : va_D A (xws a yv ρ 194 (vsh w) σ) := xws_D.mpr ⟨fun u v hu hv hsu hsv => hDold.1 u v (by omega) (by omega) (by rw [hf1 w u hu]; exact hsu) (by rw [hf1 w v hv]; exact hsv), fun u hu hsu => hDold.2 u (by omega) (by rw [hf1 w u hu]; exact hsu)⟩
  have hFq : ∀ q, va_A (xws a yv ρ 194 (vsh w) σ) H.size q → A q := by
    intro q hq
    rcases xws_in hq with ⟨u, e1, hu, hsu, rfl⟩ | hq
    · exact (xws_D.mp hDs).2 u hu (by rw [hsu]; rfl)
    · exact hA q (Nat.le_trans hS.1 hq)
  have hlst : ((xvr t :: as').reverse ++ rest).map (xv a) = (as'.map (xv a)).reverse ++ .ref (a t) :: rest.map (xv a) := by
    simp [xv]
  rw [hlst]
  have hlen2 : (as'.map (xv a)).length = n := by rw [List.length_map]; exact hlen
  have hrun := va_runV (y := y) (As := as'.map (xv a)) (rest := rest.map (xv a)) (b := a t) (C := y.cls) (n := n) (g := F0 m pc ls ((as'.map (xv a)).reverse ++ .ref (a t) :: rest.map (xv a))) (H := H) (locs := locs) (cells := kz.1) (slots := kz.2) (below := below) (meth := meth) (e := e) (R := R) (p := p) (S := ⟨hx, hb1, hml, hown, hg⟩) hMet
    (cwV n hg (px_gV h1 h2 h3 h4 h5) rfl rfl rfl ⟨rfl, hdd⟩ ⟨Nat.le_trans hd hR1, by show 8 + (nLy + 11) + 40 * dy ≤ R.locals; omega⟩)
    ⟨v_blind, hq ▸ xclass (vfi w) hK hPs hc hs, fun U hU hW => ⟨rfl, ⟨by rw [hU], by rw [hU]; exact hPs, va_K.moved hW.alike hK, hDs.weaken (fun _ _ _ _ => trivial)⟩, hXX.warm hW⟩⟩ rfl hlen2 hl.1 rfl (lv_room (by have := xcat a rest; omega)) hdec ⟨hk1, hk2⟩
  refine vrun_go hrun hS (fun q _ h => hFq q h) hFq (fun r w' a' ρ' σ' H1 locs1 k1 k2 k3 k4 k5 k6 hP1 hD1 hz1 hf4 hS1 => ?_)
  have hin : ∀ u, ((194 ≤ u ∧ u < N) ∨ (vsh w u).isSome = true) → m2 a' u = a u := by
    intro u hu
    rcases hu with hu | hu
    · exact (hm2 a' u).2 hu.1 hu.2
    · have hu2 : u < 194 := Nat.not_le.mp (fun h => by rw [vfi w u h] at hu; cases hu)
      rw [(hm2 a' u).1 hu2]; exact k6 u hu
  have hin2 : ∀ v : xV, (∀ u, v = xvr u → (194 ≤ u ∧ u < N) ∨ (vsh w u).isSome = true) → xv (m2 a') v = xv a v := by
    intro v hv
    match v, hv with
    | .inl _, _ => rfl
    | .inr (.inl _), _ => rfl
    | .inr (.inr (.inl u)), hv => simp only [xv]; rw [hin u (hv u rfl)]
    | .inr (.inr (.inr ())), _ => rfl
  have hPn : va_P D vwCl (xws (m2 a') yv (m3 ρ') N (shf w') (m1 σ')) H1 := by
    refine xws_P.mpr (fun u e hu hue => ?_)
    rcases Nat.lt_or_ge u 194 with h6 | h6
    · have h7 := hue
      rw [hf1 w' u h6] at h7
      have h8 := xws_P.mp hP1 u e h6 h7
      rw [(hm2 a' u).1 h6, xcell_cg (a := a') (ρ := ρ') (σ := σ') (fun c hc => (hm2 a' c).1 (vSome h7 hc).1) ((hm3 ρ' u).1 h6) ((hm1 σ' u).1 h6)]
      exact h8
    · have h7 := hue
      rw [hf2 w' w u h6] at h7
      have h8 := xws_P.mp hP u e hu h7
      rw [(hm2 a' u).2 h6 hu, xcell_cg (a := a) (ρ := ρ) (σ := σ) (fun c hc => (hm2 a' c).2 (hf3 w u e h6 h7 c hc).1 (hf3 w u e h6 h7 c hc).2) ((hm3 ρ' u).2 h6 hu) ((hm1 σ' u).2 h6 hu)]
      refine h8.kept (hf4 _ h8.lt (fun hq => ?_))
      rcases xws_in hq with ⟨v, e1, hv, hsv, h9⟩ | hq
      · have := hDold.1 u v hu (by omega) (by rw [h7]; rfl) (by rw [hf1 w v hv, hsv]; rfl) h9
        omega
      · have := h8.lt
        dsimp only at this hq
        omega
  have hDn : va_D A (xws (m2 a') yv (m3 ρ') N (shf w') (m1 σ')) := by
    have hD1' := xws_D.mp hD1
    have hmix : ∀ u v, u < 194 → 194 ≤ v → v < N → (vsh w' u).isSome = true → (shf w v).isSome = true → a' u = a v → False := by
      intro u v hu hv1 hv2 hsu hsv he
      obtain ⟨ev, hev⟩ := Option.isSome_iff_exists.mp hsv
      have h8 := (xws_P.mp hP v ev hv2 hev).lt
      dsimp only at h8
      rcases xws_in (hD1'.2 u hu hsu) with ⟨v2, e1, hv3, hsv2, h9⟩ | hq
      · have := hDold.1 v2 v (by omega) hv2 (by rw [hf1 w v2 hv3, hsv2]; rfl) hsv (by rw [← h9, he])
        omega
      · omega
    refine xws_D.mpr ⟨fun u v hu hv hsu hsv he => ?_, fun u hu hsu => ?_⟩
    · rcases Nat.lt_or_ge u 194 with h6 | h6 <;> rcases Nat.lt_or_ge v 194 with h7 | h7
      · rw [hf1 w' u h6] at hsu
        rw [hf1 w' v h7] at hsv
        rw [(hm2 a' u).1 h6, (hm2 a' v).1 h7] at he
        exact hD1'.1 u v h6 h7 hsu hsv he
      · rw [hf1 w' u h6] at hsu
        rw [hf2 w' w v h7] at hsv
        rw [(hm2 a' u).1 h6, (hm2 a' v).2 h7 hv] at he
        exact (hmix u v h6 h7 hv hsu hsv he).elim
      · rw [hf2 w' w u h6] at hsu
        rw [hf1 w' v h7] at hsv
        rw [(hm2 a' u).2 h6 hu, (hm2 a' v).1 h7] at he
        exact (hmix v u h7 h6 hu hsv hsu he.symm).elim
      · rw [hf2 w' w u h6] at hsu
        rw [hf2 w' w v h7] at hsv
        rw [(hm2 a' u).2 h6 hu, (hm2 a' v).2 h7 hv] at he
        exact hDold.1 u v hu hv hsu hsv he
    · rcases Nat.lt_or_ge u 194 with h6 | h6
      · rw [hf1 w' u h6] at hsu
        rw [(hm2 a' u).1 h6]
        exact hFq _ (hD1'.2 u h6 hsu)
      · rw [hf2 w' w u h6] at hsu
        rw [(hm2 a' u).2 h6 hu]
        exact hDold.2 u hu hsu
  have hσn : xgs (shf w') (m1 σ') := by
    refine ⟨fun u ci codes hu j c hc => ?_, fun u k n l hu j hj => ?_⟩
    · rcases Nat.lt_or_ge u 194 with h6 | h6
      · rw [hf1 w' u h6] at hu
        rw [(hm1 σ' u).1 h6]; exact k5.1 u ci codes hu j c hc
      · have h7 : u < N := Nat.not_le.mp (fun h => by rw [hfin w' u h] at hu; cases hu)
        rw [hf2 w' w u h6] at hu
        rw [(hm1 σ' u).2 h6 h7]; exact hσ.1 u ci codes hu j c hc
    · rcases Nat.lt_or_ge u 194 with h6 | h6
      · rw [hf1 w' u h6] at hu
        rw [(hm1 σ' u).1 h6]; exact k5.2 u k n l hu j hj
      · have h7 : u < N := Nat.not_le.mp (fun h => by rw [hfin w' u h] at hu; cases hu)
        rw [hf2 w' w u h6] at hu
        rw [(hm1 σ' u).2 h6 h7]; exact hσ.2 u k n l hu j hj
  have hln2 : lv_has ls nL (xlv (m2 a') L) := by
    refine ⟨hl.1, hl.2.1, fun ⟨i, v⟩ hq => hl.2.2 (i, v) ?_⟩
    obtain ⟨v2, q1, q2, q3⟩ := xlv_mem hq
    have q1 : L[i]? = some v2 := q1
    have q3 : v = xv (m2 a') v2 := q3
    rw [q3, hin2 v2 (fun u hu => hLp u (hu ▸ List.mem_of_getElem? q1))]
    exact xlv_in (a := a) q1 q2
  have h9 := hk r w' a' ρ' σ' k1 k4 k6 hL1 (xg_app k2 hre) hσn hln H1 locs1 ls hPn hDn hS1 hln2
  rw [xmap_o] at h9
  have e1 : r.map (xv (m2 a')) = r.map (xv a') := by
    match r, k3 with
    | none, _ => rfl
    | some (.inl _), _ => rfl
    | some (.inr (.inl _)), _ => rfl
    | some (.inr (.inr (.inl u))), k3 => simp only [Option.map_some, xv]; rw [(hm2 a' u).1 (k3 u rfl)]
    | some (.inr (.inr (.inr ()))), _ => rfl
  have e2 : rest.map (xv (m2 a')) = rest.map (xv a) := List.map_congr_left (fun v hv => hin2 v (fun u hu => hrp u (hu ▸ hv)))
  rw [e1, e2] at h9
  exact h9
/-- the same, from V(w) itself -/
theorem vs_callV {y : MethodName} {cy : ByteArray} {nLy dy i n ci t : Nat} {rety : Option FieldType} {mc ms : (Nat → Bool) → Nat} {w : Nat → Bool} {E : vE} {vwq : vw_C} {codes : List Nat} {as' rest : List xV} {K : Option xV → (Nat → Bool) → xS → Prop}
    (hC : XC p R s m args meth c D yv A own cc nL d ret) (hXX : vX s) (hM : vMt l D yv y cy nLy rety dy mc ms E) (hd : dy + 1 ≤ d) (h1 : Cond.methodLink own i y ∈ gw) (h2 : Cond.instanceMethod y ∈ gw) (h3 : Cond.selects y.cls y y ∈ gw) (h4 : Cond.initialized y.cls ∈ gw) (h5 : Cond.code y cy nLy rety ∈ gw)
    (hc : vwCl[ci]? = some vwq) (hq : vwq.1 = y.cls) (hdd : y.cls ≠ "java/lang/invoke/MethodHandle" ∧ y.cls ≠ "java/lang/invoke/VarHandle" ∧ (parseMethodDescriptor y.desc).map (fun d => d.parameters.length) = some n) (hL : nLy ≤ 21) (hk1 : kz.1 + mc w ≤ R.cells) (hk2 : kz.2 + ms w ≤ R.slots) (hdec : decode cc pc = .ok (.invokevirtual i, 3)) (hs : vsh w t = some (0, ci, codes)) (hlen : as'.length = n) (hrest : rest.length ≤ 4) (hLK : LK a ρ w)
    (hLp : ∀ u, xvr u ∈ L → (vsh w u).isSome = true) (hrp : ∀ u, xvr u ∈ rest → (vsh w u).isSome = true)
    (hE : E w (xvr t :: as') σ K)
    (hk : ∀ r w' a' ρ' σ', K r w' σ' → LK a' ρ' w' → (∀ t, (vsh w t).isSome = true → a' t = a t) → XA (kz.1 + mc w, kz.2 + ms w) p l e R s m args below meth c D yv a' ρ' 194 (vsh w') A nL Qm (pc + 3) L (r.toList ++ rest) σ') : XA kz p l e R s m args below meth c D yv a ρ 194 (vsh w) A nL Qm pc L ((xvr t :: as').reverse ++ rest) σ :=
  vs_call (N := 194) (shf := vsh) id id id (fun _ _ => ⟨fun _ => rfl, fun h1 h2 => absurd h2 (by omega)⟩) (fun _ _ => ⟨fun _ => rfl, fun h1 h2 => absurd h2 (by omega)⟩) (fun _ _ => ⟨fun _ => rfl, fun h1 h2 => absurd h2 (by omega)⟩) hC hXX hM hd vFam_V h1 h2 h3 h4 h5 hc hq hdd hL hk1 hk2 hdec hs hlen hrest hLK (fun u hu => Or.inr (hLp u hu)) (fun u hu => Or.inr (hrp u hu)) hE hk
end XP
