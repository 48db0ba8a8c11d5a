section XP
variable {p : Program} {l : Launch} {e : Env} {R : Room} {s : State} {m : MethodId} {args : Array Value} {below : List Frame} {meth : Method} {c : Code}
variable {cc : ByteArray} {nL d : Nat} {own : String} {D : va_G} {yv : Nat → ClassId} {a : Nat → Nat} {ρ : Nat → Nat → Option Nat} {N : Nat} {sh : xH} {A : Nat → Prop} {kz : Nat × Nat} {Qm : State → Prop} {ret : Option FieldType} {pc : Nat} {L st : List xV} {σ : xS}
/-- a reference out of a row -/
theorem xs_aaload {t k n : Nat} {lx : List Nat} {i : Int} {v : xV} (hC : XC p R s m args meth c D yv A own cc nL d ret) (hN : xfin N sh) (hk : k = 4 ∨ k = 5) (hs : sh t = some (k + 1, n, lx)) (hi : 0 ≤ i ∧ i < n) (hr : xR32 i) (hv : va_rf (ρ t i.toNat) = xv a v) (hgv : xg v) (hd : decode cc pc = .ok (.aaload, 1)) (kk : XA kz p l e R s m args below meth c D yv a ρ N sh A nL Qm (pc + 1) L (v :: st) σ) : XA kz p l e R s m args below meth c D yv a ρ N sh A nL Qm pc L (xvi i :: xvr t :: st) σ := by
  obtain ⟨hx, hb, hml, hown, hg, hK, hA, hR1, hR2, hre, hlocks⟩ := hC
  obtain ⟨q, hq⟩ := xtags_in hN hs
  intro hL hst hσ hln H locs ls hP hD hS hl
  have go := kk hL (xcons (xtl (xtl hst)) hgv) hσ hln H locs ls hP hD hS hl
  have hcl : (Int32.ofInt i).toNatClampNeg = i.toNat := x32cl hr
  have hin : vp_in (Int32.ofInt i) n := by
    intro h
    rcases h with h | h
    · exact absurd h (x32nn hr hi.1)
    · rw [hcl] at h; omega
  have hgo : W p l e R s m args below meth c H locs kz.1 kz.2 Qm (F0 m (pc + 1) ls (va_rf (ρ t (Int32.ofInt i).toNatClampNeg) :: st.map (xv a))) := by
    rw [hcl, hv]; exact go
  rcases hk with rfl | rfl
  · exact va_aldq hx hb hK hP q 4 (C := "SevenTable$Game") (f := ρ t) (xws_at hq hs) rfl hin hd hgo
  · exact va_aldq hx hb hK hP q 5 (C := "SevenTable$Sentence") (f := ρ t) (xws_at hq hs) rfl hin hd hgo
theorem xs_ifnonnull {u tgt : Nat} {off : Int} (hC : XC p R s m args meth c D yv A own cc nL d ret) (hd : decode cc pc = .ok (.ifnonnull off, 3)) (ht : (pc : Int) + off = (tgt : Int)) (kk : XA kz p l e R s m args below meth c D yv a ρ N sh A nL Qm tgt L st σ) : XA kz p l e R s m args below meth c D yv a ρ N sh A nL Qm pc L (xvr u :: st) σ := by
  intro hL hst hσ hln H locs ls hP hD hS hl
  exact lv_ifnonnull hC.1 hC.2.1 hd ht (kk hL (xtl hst) hσ hln H locs ls hP hD hS hl)
theorem xs_ifnonnullN {off : Int} (hC : XC p R s m args meth c D yv A own cc nL d ret) (hd : decode cc pc = .ok (.ifnonnull off, 3)) (kk : XA kz p l e R s m args below meth c D yv a ρ N sh A nL Qm (pc + 3) L st σ) : XA kz p l e R s m args below meth c D yv a ρ N sh A nL Qm pc L (xvu :: st) σ := by
  intro hL hst hσ hln H locs ls hP hD hS hl
  exact lv_ifnonnullN hC.1 hC.2.1 hd (kk hL (xtl hst) hσ hln H locs ls hP hD hS hl)
theorem xs_ifnull {u : Nat} {off : Int} (hC : XC p R s m args meth c D yv A own cc nL d ret) (hd : decode cc pc = .ok (.ifnull off, 3)) (kk : XA kz p l e R s m args below meth c D yv a ρ N sh A nL Qm (pc + 3) L st σ) : XA kz p l e R s m args below meth c D yv a ρ N sh A nL Qm pc L (xvr u :: st) σ := by
  intro hL hst hσ hln H locs ls hP hD hS hl
  exact lv_ifnull hC.1 hC.2.1 hd (kk hL (xtl hst) hσ hln H locs ls hP hD hS hl)
theorem xs_ifnullN {tgt : Nat} {off : Int} (hC : XC p R s m args meth c D yv A own cc nL d ret) (hd : decode cc pc = .ok (.ifnull off, 3)) (ht : (pc : Int) + off = (tgt : Int)) (kk : XA kz p l e R s m args below meth c D yv a ρ N sh A nL Qm tgt L st σ) : XA kz p l e R s m args below meth c D yv a ρ N sh A nL Qm pc L (xvu :: st) σ := by
  intro hL hst hσ hln H locs ls hP hD hS hl
  exact lv_ifnullN hC.1 hC.2.1 hd ht (kk hL (xtl hst) hσ hln H locs ls hP hD hS hl)
/-- a call that leaves the world's shape -/
theorem xs_ck {v : Bool} {i n : Nat} {E : xE} {as rest : List xV} {K : Option xV → xS → Prop} (hC : XC p R s m args meth c D yv A own cc nL d ret) (h : xCk l D yv own cc d N sh v i n E) (hk1 : kz.1 ≤ R.cells) (hk2 : kz.2 ≤ R.slots) (hd : decode cc pc = .ok (if v then .invokevirtual i else .invokestatic i, 3)) (hE : E as σ K) (hlen : as.length = n) (hrest : rest.length ≤ 4) (hk : ∀ r σ', K r σ' → XA kz p l e R s m args below meth c D yv a ρ N sh A nL Qm (pc + 3) L (r.toList ++ rest) σ') : XA kz p l e R s m args below meth c D yv a ρ N sh A nL Qm pc L (as.reverse ++ rest) σ := by
  obtain ⟨hx, hb, hml, hown, hg, hK, hA, hR1, hR2, hre, hlocks⟩ := hC
  exact h p e R s m args below meth c a ρ A nL Qm hx hb hml hown hg hK hA hR1 hR2 kz hk1 hk2 pc L rest as σ K hd hE hlen hrest hk
end XP
