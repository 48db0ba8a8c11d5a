/-! Pieces that begin with a stack; the reader's text not looked at again. -/
def xTS (C : xC) (Q : Option xV → xS → Prop) (Z : Nat → List xV → xS → Prop) (c0 : Nat) (L0 st0 : List xV) (σ0 : xS) : Prop := ∀ X : Nat → List xV → xS → Prop, (∀ n c L σ, xwC C X Q n c L σ → X c L σ) → (∀ c L σ, Z c L σ → X c L σ) → ∃ n, xw C.1 C.2.1 C.2.2.1 C.2.2.2.1 (xjmp C.2.2.2.2.1) C.2.2.2.2.2.1 X Q n (xcode C.2.2.2.2.1 c0) L0 st0 σ0
section XP
variable {p : Program} {l : Launch} {e : Env} {R : Room} {s : State} {m : MethodId} {args : Array Value} {below : List Frame} {meth : Method} {c : Code}
variable {cc : ByteArray} {nL d : Nat} {own : String} {D : va_G} {yv : Nat → ClassId} {a : Nat → Nat} {ρ : Nat → Nat → Option Nat} {N : Nat} {sh : xH} {A : Nat → Prop} {kz : Nat × Nat} {Qm : State → Prop} {ret : Option FieldType} {pc : Nat} {L st : List xV} {σ : xS}
theorem xTS_sG {C : xC} {Q : Option xV → xS → Prop} {Z : Nat → List xV → xS → Prop} {Qc : Array Value → State → Outcome → State → Prop} {c0 : Nat} {L0 st0 : List xV} {σ0 : xS} {kq : Nat × Nat} (hkq : kz.1 ≤ kq.1 ∧ kz.2 ≤ kq.2) (hC : XC p R s m args meth c D yv A own cc C.2.2.2.2.2.2 d (xrt C.2.2.2.2.2.1)) (hS0 : xSt own cc C N) (hE : ∀ (v : Bool) i n E, C.2.2.2.1 (2 * i + if v then 0 else 1) = some (n, E) → xCk l D yv own cc d N C.1 v i n E)
    (hk1 : kz.1 ≤ R.cells) (hk2 : kz.2 ≤ R.slots) (hQc : ∀ (r : Option xV) (σ : xS) (t : State), Q r σ → (∀ v, r = some v → xg v) → xgs C.1 σ → va_P D vwCl (xws a yv ρ N C.1 σ) t.heap → va_D A (xws a yv ρ N C.1 σ) → va_F A s t → Qc args s (.returned (r.map (xv a))) t)
    (hT : xTS C Q Z c0 L0 st0 σ0) (hZ : ∀ c0 L σ, Z c0 L σ → XA kz p l e R s m args below meth c D yv a ρ N C.1 A C.2.2.2.2.2.2 (MQ below Qc args s kq.1 kq.2 A) c0 L [] σ) : XA kz p l e R s m args below meth c D yv a ρ N C.1 A C.2.2.2.2.2.2 (MQ below Qc args s kq.1 kq.2 A) c0 L0 st0 σ0 := by
  obtain ⟨hN, hshp, hsln, hfld, hcon, hok⟩ := hS0
  obtain ⟨hx, hb, hml, hown, hg, hK, hA, hR1, hR2, hr, hlocks⟩ := hC
  have key : ∀ n k pc L st σ, xat k pc → xok cc k = true → xw C.1 C.2.1 C.2.2.1 C.2.2.2.1 (xjmp C.2.2.2.2.1) C.2.2.2.2.2.1 (fun c0 L σ => XA kz p l e R s m args below meth c D yv a ρ N C.1 A C.2.2.2.2.2.2 (MQ below Qc args s kq.1 kq.2 A) c0 L [] σ) Q n k L st σ → XA kz p l e R s m args below meth c D yv a ρ N C.1 A C.2.2.2.2.2.2 (MQ below Qc args s kq.1 kq.2 A) pc L st σ :=
    xw_sG hkq hx hb hown hg hK hN hshp hsln hfld hcon (xjmp_ok hok) hr hlocks hQc (fun _ _ _ h => h) (fun v i n E he => hE v i n E he p e R s m _ below meth c a ρ A _ _ hx hb hml hown hg hK hA hR1 hR2 kz hk1 hk2)
  obtain ⟨n, hn⟩ := hT (fun c0 L σ => XA kz p l e R s m args below meth c D yv a ρ N C.1 A C.2.2.2.2.2.2 (MQ below Qc args s kq.1 kq.2 A) c0 L [] σ) (fun n c0 L σ h => key n _ c0 L [] σ (xcode_ok hok c0).1 (xcode_ok hok c0).2 h) hZ
  exact key n _ c0 L0 st0 σ0 (xcode_ok hok c0).1 (xcode_ok hok c0).2 hn
theorem vTS {C : xC} {w0 w : Nat → Bool} {a0 : Nat → Nat} {K : Option xV → (Nat → Bool) → xS → Prop} {Z : Nat → List xV → xS → Prop} {c0 : Nat} {L0 st0 : List xV} {σ0 : xS} {mc ms : Nat} (hkq : kz.1 ≤ mc ∧ kz.2 ≤ ms) (hC : XC p R s m args meth c D yv A own cc C.2.2.2.2.2.2 d (xrt C.2.2.2.2.2.1)) (hS0 : xSt own cc C 194) (hE : ∀ (v : Bool) i n E, C.2.2.2.1 (2 * i + if v then 0 else 1) = some (n, E) → xCk l D yv own cc d 194 C.1 v i n E)
    (hk1 : kz.1 ≤ R.cells) (hk2 : kz.2 ≤ R.slots) (hsh : C.1 = vsh w) (hLK : LK a ρ w) (hag : ∀ t, (vsh w0 t).isSome = true → a t = a0 t)
    (hT : xTS C (fun r σ => (∀ u, r ≠ some (xvr u)) ∧ K r w σ) Z c0 L0 st0 σ0) (hZ : ∀ c0 L σ, Z c0 L σ → XA kz p l e R s m args below meth c D yv a ρ 194 (vsh w) A C.2.2.2.2.2.2 (MQ below (vQ D yv a0 w0 A K) args s mc ms A) c0 L [] σ) : XA kz p l e R s m args below meth c D yv a ρ 194 (vsh w) A C.2.2.2.2.2.2 (MQ below (vQ D yv a0 w0 A K) args s mc ms A) c0 L0 st0 σ0 := by
  rw [← hsh] at hZ ⊢
  refine xTS_sG (kq := (mc, ms)) hkq hC hS0 hE hk1 hk2 (fun r σ t h1 h2 h3 h4 h5 h6 => ?_) hT hZ
  rw [hsh] at h3 h4 h5
  exact ⟨⟨r, w, a, ρ, σ, rfl, h1.2, h2, fun u hu => absurd hu (h1.1 u), hLK, h3, hag, h4, h5⟩, h6⟩
/-- a reference is given back -/
theorem vs_aret {w0 w : Nat → Bool} {a0 : Nat → Nat} {K : Option xV → (Nat → Bool) → xS → Prop} {u : Nat} {ty : FieldType} {mc ms : Nat} (hkq : kz.1 ≤ mc ∧ kz.2 ≤ ms) (hC : XC p R s m args meth c D yv A own cc nL d (some ty)) (hty : (∃ n, ty = FieldType.object n) ∨ ∃ t : FieldType, ty = FieldType.array t) (hLK : LK a ρ w) (hag : ∀ t, (vsh w0 t).isSome = true → a t = a0 t) (hu : u < 194) (hK : K (some (xvr u)) w σ) (hd : decode cc pc = .ok (.areturn, 1)) : XA kz p l e R s m args below meth c D yv a ρ 194 (vsh w) A nL (MQ below (vQ D yv a0 w0 A K) args s mc ms A) pc L [xvr u] σ := by
  obtain ⟨hx, hb, hml, hown, hg, hK2, hA, hR1, hR2, hr, hlocks⟩ := hC
  intro hL hst hσ hln H locs ls hP hD hS hl
  refine W.rise hkq.1 hkq.2 ?_
  exact W.aret hx hb hr hty (Or.inr ⟨_, rfl⟩) (fun t ht _ => ⟨⟨some (xvr u), w, a, ρ, σ, rfl, hK, fun v h => by cases h; trivial, fun u2 h => by cases h; exact hu, hLK, hσ, hag, by rw [ht]; exact hP, hD⟩, hS.F ht⟩) hS.2.2 hd hlocks
theorem wlV1 : wlVF1 = wlVF0.set 30 (0, 6, [35, 5, 0, 0, 0, 0, 0, 0, 1, 0, 0]) := by decide +kernel
theorem wlV1_ne {t : Nat} (h : t ≠ 30) : wlVF1[t]? = wlVF0[t]? := by rw [wlV1, List.getElem?_set_ne (Ne.symm h)]
theorem wlV1_30 : wlVF1[30]? = some (0, 6, [35, 5, 0, 0, 0, 0, 0, 0, 1, 0, 0]) := by decide +kernel
theorem wlV0_30 : wlVF0[30]? = some (0, 6, [35, 3, 0, 0, 0, 0, 0, 0, 1, 0, 0]) := by decide +kernel
def vTx (a : Nat → Nat) (ρ : Nat → Nat → Option Nat) : Nat → Nat → Option Nat := fun x j => if x = 30 ∧ j = 1 then some (a 1) else ρ x j
theorem vTx_LK {a : Nat → Nat} {ρ : Nat → Nat → Option Nat} {w : Nat → Bool} (h : LK a ρ w) : LK a (vTx a ρ) w := h
theorem v1_P {w : Nat → Bool} {H : Heap} (hP : va_P D vwCl (xws a yv ρ 194 (shW wlVF1 w) σ) H) : va_P D vwCl (xws a yv (vTx a ρ) 194 (vsh w) σ) H := by
  refine xws_P.mpr (fun t e ht hs => ?_)
  by_cases h30 : t = 30
  · subst h30
    have h1 : shW wlVF1 w 30 = some (0, 6, [35, 5, 0, 0, 0, 0, 0, 0, 1, 0, 0]) := shW_of wlV1_30 (Or.inl rfl)
    have h2 : vsh w 30 = some (0, 6, [35, 3, 0, 0, 0, 0, 0, 0, 1, 0, 0]) := shW_of wlV0_30 (Or.inl rfl)
    rw [h2] at hs
    cases hs
    exact xws_P.mp hP 30 _ (by omega) h1
  · obtain ⟨h1, h2⟩ := shW_e hs
    have h3 := xws_P.mp hP t e ht (shW_of (by rw [wlV1_ne h30]; exact h1) h2)
    rw [xcell_cg (a := a) (ρ := ρ) (σ := σ) (fun _ _ => rfl) (by funext j; unfold vTx; rw [if_neg (fun h => h30 h.1)]) rfl]
    exact h3
theorem v1_some (w : Nat → Bool) (t : Nat) : (vsh w t).isSome = (shW wlVF1 w t).isSome := by
  show (if blkV t = 0 ∨ w (blkV t) = true then wlVF0[t]? else none).isSome = (if blkV t = 0 ∨ w (blkV t) = true then wlVF1[t]? else none).isSome
  by_cases h30 : t = 30
  · subst h30
    rw [wlV1_30, wlV0_30]
    split <;> rfl
  · rw [wlV1_ne h30]
theorem v1_D {w : Nat → Bool} {ρ' : Nat → Nat → Option Nat} {σ' : xS} (hD : va_D A (xws a yv ρ 194 (shW wlVF1 w) σ)) : va_D A (xws a yv ρ' 194 (vsh w) σ') := by
  have h := xws_D.mp hD
  refine xws_D.mpr ⟨fun t u ht hu hst hsu => ?_, fun t ht hst => ?_⟩
  · rw [v1_some] at hst hsu
    exact h.1 t u ht hu hst hsu
  · rw [v1_some] at hst
    exact h.2 t ht hst
theorem v1_gs {w : Nat → Bool} (h : xgs (shW wlVF1 w) σ) : xgs (vsh w) σ := by
  refine ⟨fun t ci codes hs j c hc => ?_, fun t k n l hs i hi => ?_⟩
  · by_cases h30 : t = 30
    · subst h30
      have h1 : shW wlVF1 w 30 = some (0, 6, [35, 5, 0, 0, 0, 0, 0, 0, 1, 0, 0]) := shW_of wlV1_30 (Or.inl rfl)
      have h2 : vsh w 30 = some (0, 6, [35, 3, 0, 0, 0, 0, 0, 0, 1, 0, 0]) := shW_of wlV0_30 (Or.inl rfl)
      rw [h2] at hs
      cases hs
      have h4 := h.1 30 _ _ h1 j
      match j, hc with
      | 0, hc => cases hc; exact ⟨fun h => by omega, fun h => by omega⟩
      | 1, hc => cases hc; exact ⟨fun h => by omega, fun h => by omega⟩
      | j + 2, hc => exact h4 c hc
    · obtain ⟨h1, h2⟩ := shW_e hs
      exact h.1 t ci codes (shW_of (by rw [wlV1_ne h30]; exact h1) h2) j c hc
  · have h30 : t ≠ 30 := fun e => by
      subst e
      have h2 : vsh w 30 = some (0, 6, [35, 3, 0, 0, 0, 0, 0, 0, 1, 0, 0]) := shW_of wlV0_30 (Or.inl rfl)
      rw [h2] at hs
      cases hs
    obtain ⟨h1, h2⟩ := shW_e hs
    exact h.2 t k n l (shW_of (by rw [wlV1_ne h30]; exact h1) h2) i hi
theorem vView {w : Nat → Bool} (k : XA kz p l e R s m args below meth c D yv a (vTx a ρ) 194 (vsh w) A nL Qm pc L st σ) : XA kz p l e R s m args below meth c D yv a ρ 194 (shW wlVF1 w) A nL Qm pc L st σ :=
  XA.view (fun H h1 h2 => ⟨v1_P h1, v1_D h2⟩) rfl (fun _ => Iff.rfl) rfl (fun h => h) (fun h => h) v1_gs k
end XP
