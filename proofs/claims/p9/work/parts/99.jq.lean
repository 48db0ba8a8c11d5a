/-! Rows count in their range alone; the class's calls and the cells that the law looks at. -/
theorem arrV_cg {cI : ClassId} {N : Nat} {f g : Nat → Value} (h : ∀ j, j < N → f j = g j) : arrV cI N f = arrV cI N g := by
  unfold arrV
  rw [show (fun j : Fin N => f j.val) = (fun j : Fin N => g j.val) from funext (fun j => h j.1 j.2)]
def RNG (sh : xH) (σ σ' : xS) : Prop := ∀ t, σ' t = σ t ∨ ∃ k n l, sh t = some (k + 1, n, l) ∧ ∀ i, i < n → σ' t i = σ t i
section XP
variable {p : Program} {l : Launch} {e : Env} {R : Room} {s : State} {m : MethodId} {args : Array Value} {below : List Frame} {meth : Method} {c : Code}
variable {nL : Nat} {D : va_G} {yv : Nat → ClassId} {a : Nat → Nat} {ρ : Nat → Nat → Option Nat} {N : Nat} {sh : xH} {A : Nat → Prop} {kz : Nat × Nat} {Qm : State → Prop} {pc : Nat} {L st : List xV} {σ : xS}
theorem vp_cg {σ' : xS} {y : ClassId} {t k n : Nat} (h : ∀ i, i < n → σ' t i = σ t i) : vp_cell y (n, xcon ρ σ' t k) = vp_cell y (n, xcon ρ σ t k) := by
  unfold xcon
  split
  · exact arrV_cg (f := fun j => Value.long (Int64.ofInt (σ' t j))) (g := fun j => Value.long (Int64.ofInt (σ t j))) (fun j hj => by show Value.long (Int64.ofInt (σ' t j)) = _; rw [h j hj])
  · split
    · exact arrV_cg (f := fun j => Value.int (Int32.ofInt (σ' t j))) (g := fun j => Value.int (Int32.ofInt (σ t j))) (fun j hj => by show Value.int (Int32.ofInt (σ' t j)) = _; rw [h j hj])
    · rfl
theorem XA.rng {σ' : xS} (h : RNG sh σ σ') (k : XA kz p l e R s m args below meth c D yv a ρ N sh A nL Qm pc L st σ') : XA kz p l e R s m args below meth c D yv a ρ N sh A nL Qm pc L st σ := by
  refine XA.view (fun H h1 h2 => ⟨xws_P.mpr (fun t e ht he => ?_), xws_D.mpr (xws_D.mp h2)⟩) rfl (fun _ => Iff.rfl) rfl (fun h => h) (fun h => h) (fun hσ => ⟨fun t ci codes hs j c hc => ?_, fun t k n l hs i hi => ?_⟩) k
  · have z := xws_P.mp h1 t e ht he
    rcases h t with q | ⟨k, n, l, hk, hq⟩
    · rw [xcell_eq q]; exact z
    · rw [hk] at he
      cases he
      have z : H[a t]? = some (vp_cell (yv k) (n, xcon ρ σ t k)) := z
      show H[a t]? = some (vp_cell (yv k) (n, xcon ρ σ' t k))
      rw [vp_cg hq]; exact z
  · rcases h t with q | ⟨k, n, l, hk, hq⟩
    · rw [q]; exact hσ.1 t ci codes hs j c hc
    · rw [hk] at hs; cases hs
  · rcases h t with q | ⟨k2, n2, l2, hk, hq⟩
    · rw [q]; exact hσ.2 t k n l hs i hi
    · rw [hk] at hs
      cases hs
      rw [hq i hi]
      exact hσ.2 t _ _ _ hk i hi
end XP
/-- a row with nothing behind its end -/
def nrm (σ : xS) (t n : Nat) : xS := fun u j => if u = t ∧ n ≤ j then 0 else σ u j
theorem nrm_ne {σ : xS} {t n u : Nat} (h : u ≠ t) : nrm σ t n u = σ u := by
  funext j
  unfold nrm
  rw [if_neg (fun q => h q.1)]
theorem nrm_lt {σ : xS} {t n j : Nat} (h : j < n) : nrm σ t n t j = σ t j := by
  unfold nrm
  rw [if_neg (fun q => by omega)]
theorem nrm_ge {σ : xS} {t n j : Nat} (h : n ≤ j) : nrm σ t n t j = 0 := by
  unfold nrm
  rw [if_pos ⟨rfl, h⟩]
theorem RI.row {σ σ' : xS} (h : RI σ) (e2 : ∀ i, i < 765 → σ' 2 i = σ 2 i) (e8 : σ' 8 = σ 8) (e25 : σ' 25 = σ 25) (e27 : σ' 27 = σ 27) (a : σ' 0 2 = σ 0 2) (b : σ' 0 27 = σ 0 27) (c : σ' 0 37 = σ 0 37) : RI σ' := by
  obtain ⟨h1, h2, h3, h4, h5, h6, h7⟩ := h
  unfold RI
  rw [e8, e25, e27, a, b, c]
  refine ⟨h1.ag8 (fun i hi _ => e2 i (by omega)), h2.eq9 (fun i _ hi => e2 i hi), h3, h4, fun j hj => (h5 j hj).ag8 (fun i hi _ => ?_), h6, h7⟩
  unfold blk
  by_cases c : i < 4
  · rw [if_pos c, if_pos c]; exact e2 i (by omega)
  · rw [if_neg c, if_neg c]
theorem kpG.w {w w' : Nat → Bool} {σ σ' : xS} {f : Nat → Int} (k : kpG w σ w' σ' f) : w' 9 = w 9 ∧ w' 10 = w 10 ∧ (w 13 = true → w' 13 = true) := by
  obtain ⟨i, hi, _, _, w2, _⟩ := k
  exact ⟨w2 9 (by omega), w2 10 (by omega), fun h => (w2 13 (by omega)).trans h⟩
theorem askCR.lo {f : Nat → Int} {p q kind lies r : Int} {w w' : Nat → Bool} {σ σ' : xS} (h : askCR f p q kind lies w σ r w' σ') : σ' 0 1 = σ 0 1 ∧ w' 9 = w 9 ∧ w' 10 = w 10 ∧ (w 13 = true → w' 13 = true) := by
  rcases h with ⟨_, _, rfl, e⟩ | ⟨_, _, _, rfl, e⟩ | ⟨_, _, k, _, _, _, e⟩
  · exact ⟨by rw [e], rfl, rfl, fun h => h⟩
  · exact ⟨by rw [e], rfl, rfl, fun h => h⟩
  · exact ⟨by rw [e 0 (by omega) (by omega) (by omega) (by omega)], k.w⟩
theorem dealCR.lo {f : Nat → Int} {n seed r : Int} {w w' : Nat → Bool} {σ σ' : xS} (h : dealCR f n seed w σ r w' σ') : σ' 0 1 = σ 0 1 ∧ w' 9 = w 9 ∧ w' 10 = w 10 ∧ (w 13 = true → w' 13 = true) := by
  rcases h with ⟨_, _, rfl, e⟩ | ⟨_, _, k, _, e⟩
  · exact ⟨by rw [e], rfl, rfl, fun h => h⟩
  · exact ⟨by rw [e 0 (by omega) (by omega) (by omega)], k.w⟩
theorem undoCR.lo {i : Nat} {g : Nat → Int} {r : Int} {σ σ' : xS} (h : undoCR i g σ r σ') : σ' 0 1 = σ 0 1 := by
  rcases h with ⟨_, _, e⟩ | ⟨_, _, _, _, _, e⟩
  · rw [e]
  · rw [e 0 (by omega) (by omega)]
theorem PLC.lo {f R : Nat → Int} {n r : Int} {w w' : Nat → Bool} {σ σ' : xS} (h : PLC f R n w σ r w' σ') : σ' 0 1 = 0 ∧ w' 9 = w 9 ∧ w' 10 = w 10 ∧ (w 13 = true → w' 13 = true) := by
  obtain ⟨h0, h⟩ := h
  rcases h with ⟨_, _, rfl, _⟩ | ⟨_, _, rfl, _⟩ | ⟨_, _, _, _, k, _⟩
  · exact ⟨h0, rfl, rfl, fun h => h⟩
  · exact ⟨h0, rfl, rfl, fun h => h⟩
  · exact ⟨h0, k.w⟩
theorem EVC.lo {nm f : Nat → Int} {lives r : Int} {w w' : Nat → Bool} {σ σ' : xS} (h : EVC nm f lives w σ r w' σ') : (((0 ≤ lives ∧ lives ≤ 1) → σ' 0 1 = 0) ∧ ((lives < 0 ∨ 1 < lives) → σ' 0 1 = σ 0 1)) ∧ w' 9 = w 9 ∧ w' 10 = w 10 ∧ (w 13 = true → w' 13 = true) := by
  rcases h with ⟨h1, _, rfl, e⟩ | ⟨h1, h0, x, _, c⟩
  · exact ⟨⟨fun q => absurd q h1, fun _ => by rw [e]⟩, rfl, rfl, fun h => h⟩
  · refine ⟨⟨fun _ => h0, fun q => by omega⟩, ?_⟩
    rcases c with ⟨_, _, _, _, rfl, _⟩ | ⟨_, _, _, _, _, _, _, _, c⟩
    · exact ⟨rfl, rfl, fun h => h⟩
    · rcases c with ⟨_, k, _⟩ | ⟨_, rfl, _⟩
      · exact k.w
      · exact ⟨rfl, rfl, fun h => h⟩
theorem GL.fr {w : Nat → Bool} {σ ς ς' : xS} {ts js : List Nat} (h : GL w σ ς) (f : Fr ts js ς ς') (ht : 2 ∉ ts ∧ 5 ∉ ts ∧ 7 ∉ ts ∧ 8 ∉ ts ∧ 25 ∉ ts ∧ 26 ∉ ts ∧ 27 ∉ ts) (hj : 24 ∉ js ∧ 27 ∉ js) : GL w σ ς' :=
  h.rr (fun i _ => congrFun (f.1 2 (by decide) ht.1) i) (fun q _ => congrFun (f.1 5 (by decide) ht.2.1) q) (f.1 7 (by decide) ht.2.2.1) (f.1 8 (by decide) ht.2.2.2.1) (f.1 25 (by decide) ht.2.2.2.2.1) (f.1 26 (by decide) ht.2.2.2.2.2.1) (f.1 27 (by decide) ht.2.2.2.2.2.2) (f.2 24 hj.1) (f.2 27 hj.2)

