/-! Calls into a part of the world: what the caller sees. -/
theorem xMVf {sh : xH} {ci : Nat} {τ : List Nat} {E : xE} {t : Nat} {r : List xV} {σ : xS} {K : Option xV → xS → Prop} {codes : List Nat} (h : sh t = some (0, ci, codes)) (ha : xallB τ (xvr t :: r) = true) (hE : ∀ Q : Option xV → xS → Prop, (∀ r σ', xnr r (K r (xbk τ σ σ')) → Q r σ') → E ((xvr t :: r).map (xdn τ)) (xsel τ σ) Q) : xMV sh ci τ E (xvr t :: r) σ K := by
  unfold xMV xIV
  dsimp only
  rw [h]
  show (if ci = ci then (if xallB τ (xvr t :: r) = true then xMm τ E (xvr t :: r) σ K else False) else False)
  rw [if_pos rfl, if_pos ha]
  exact hE _ (fun r σ' h => h)
theorem xMVp {sh : xH} {ci : Nat} {τ : List Nat} {E : xE} {t : Nat} {r : List xV} {σ : xS} {K : Option xV → xS → Prop} {codes : List Nat} (h : sh t = some (0, ci, codes)) (ha : xallB τ (xvr t :: r) = true) (hs : xbk τ σ (xsel τ σ) = σ) (hE : ∀ Q : Option xV → xS → Prop, (∀ r, xnr r (K r σ) → Q r (xsel τ σ)) → E ((xvr t :: r).map (xdn τ)) (xsel τ σ) Q) : xMV sh ci τ E (xvr t :: r) σ K := by
  refine xMVf h ha (fun Q hQ => hE Q (fun r hr => hQ r _ ?_))
  rw [hs]; exact hr
theorem xMSf {τ : List Nat} {E : xE} {r : List xV} {σ : xS} {K : Option xV → xS → Prop} (ha : xallB τ r = true) (hE : ∀ Q : Option xV → xS → Prop, (∀ r σ', xnr r (K r (xbk τ σ σ')) → Q r σ') → E (r.map (xdn τ)) (xsel τ σ) Q) : xMS τ E r σ K := by
  unfold xMS
  rw [if_pos ha]
  exact hE _ (fun r σ' h => h)
theorem xMSp {τ : List Nat} {E : xE} {r : List xV} {σ : xS} {K : Option xV → xS → Prop} (ha : xallB τ r = true) (hs : xbk τ σ (xsel τ σ) = σ) (hE : ∀ Q : Option xV → xS → Prop, (∀ r, xnr r (K r σ) → Q r (xsel τ σ)) → E (r.map (xdn τ)) (xsel τ σ) Q) : xMS τ E r σ K := by
  refine xMSf ha (fun Q hQ => hE Q (fun r hr => hQ r _ ?_))
  rw [hs]; exact hr
theorem xix_none : ∀ {τ : List Nat} {t : Nat}, t ∉ τ → xix τ t = none := by
  intro τ
  induction τ with
  | nil => intro t _; rfl
  | cons u τ ih =>
    intro t h
    unfold xix
    rw [if_neg (fun e => h (by rw [e]; exact List.mem_cons_self)), ih (fun h2 => h (List.mem_cons_of_mem _ h2))]
    rfl
theorem xix_some : ∀ {τ : List Nat} {t : Nat}, t ∈ τ → ∃ i, xix τ t = some i ∧ τ.getD i 0 = t ∧ i < τ.length := by
  intro τ t h
  cases e : xix τ t with
  | some i => 
    have e2 := xix_e e
    exact ⟨i, rfl, xgetD e2, (List.getElem?_eq_some_iff.mp e2).1⟩
  | none =>
    exfalso
    induction τ with
    | nil => cases h
    | cons u τ ih =>
      unfold xix at e
      by_cases hu : u = t
      · rw [if_pos hu] at e; cases e
      · rw [if_neg hu] at e
        rcases List.mem_cons.mp h with h | h
        · exact hu h.symm
        · refine ih h ?_
          cases e2 : xix τ t with
          | none => rfl
          | some i => rw [e2] at e; cases e
theorem xbk_sel {τ : List Nat} {σ : xS} : xbk τ σ (xsel τ σ) = σ := by
  funext t
  unfold xbk
  by_cases h : t ∈ τ
  · obtain ⟨i, h1, h2, h3⟩ := xix_some h
    rw [h1]
    show σ (τ.getD i 0) = σ t
    rw [h2]
  · rw [xix_none h]
theorem xbk_out {τ : List Nat} {σ σ' : xS} {t : Nat} (h : t ∉ τ) : xbk τ σ σ' t = σ t := by
  unfold xbk; rw [xix_none h]
/-- frames through a call: the part's object isn't the caller's tag 0 -/
theorem Fr.bk {τ ts js ts2 js2 : List Nat} {σ σ' : xS} (h : Fr ts js (xsel τ σ) σ') (h0 : 0 ∉ τ) (hs : ∀ i, i < τ.length → τ.getD i 0 ∈ ts2 ∨ (i ≠ 0 ∧ i ∉ ts)) : Fr ts2 js2 σ (xbk τ σ σ') := by
  refine ⟨fun t ht hn => ?_, fun j _ => by rw [xbk_out h0]⟩
  by_cases hm : t ∈ τ
  · obtain ⟨i, h1, h2, h3⟩ := xix_some hm
    rcases hs i h3 with a | a
    · rw [h2] at a; exact absurd a hn
    · have e : xbk τ σ σ' t = σ' i := by unfold xbk; rw [h1]
      rw [e, h.1 i a.1 a.2]
      show σ (τ.getD i 0) = σ t
      rw [h2]
  · exact xbk_out hm
/-- the part's object is the caller's tag 0 -/
theorem Fr.bk0 {τ ts js ts2 js2 : List Nat} {σ σ' : xS} (h : Fr ts js (xsel τ σ) σ') (h0 : xix τ 0 = some 0) (hs : ∀ i, i < τ.length → i ≠ 0 → τ.getD i 0 ≠ 0 ∧ (τ.getD i 0 ∈ ts2 ∨ i ∉ ts)) (hj : ∀ j ∈ js, j ∈ js2) : Fr ts2 js2 σ (xbk τ σ σ') := by
  refine ⟨fun t ht hn => ?_, fun j hj2 => ?_⟩
  · by_cases hm : t ∈ τ
    · obtain ⟨i, h1, h2, h3⟩ := xix_some hm
      have hi : i ≠ 0 := fun e => by
        have e3 := xix_e h0
        have e4 := xgetD e3
        rw [e, e4] at h2
        exact ht h2.symm
      have e : xbk τ σ σ' t = σ' i := by unfold xbk; rw [h1]
      rcases (hs i h3 hi).2 with a | a
      · rw [h2] at a; exact absurd a hn
      · rw [e, h.1 i hi a]
        show σ (τ.getD i 0) = σ t
        rw [h2]
    · exact xbk_out hm
  · have e : xbk τ σ σ' 0 = σ' 0 := by unfold xbk; rw [h0]
    rw [e, h.2 j (fun h2 => hj2 (hj j h2))]
    show σ (τ.getD 0 0) j = σ 0 j
    rw [xgetD (xix_e h0)]
def tG : List Nat := [0, 1, 2, 3, 4, 5, 6, 7, 8, 9, 10, 11, 12]
/-- what is known of one kind changes -/
theorem CG.sure {σ σ' : xS} (h : CG σ) {p kind : Int} (h1 : 0 ≤ p ∧ p ≤ 5) (h2 : 0 ≤ kind ∧ kind ≤ 12) {ts js : List Nat} (hF : Fr ts js σ σ') (a2 : 2 ∉ ts) (a4 : 4 ∉ ts) (b0 : 0 ∉ js) (b1 : 1 ∉ js) (b8 : 8 ∉ js) (b9 : 9 ∉ js) (e10 : ∀ j, j ≠ (13 * p + kind).toNat → σ' 10 j = σ 10 j) (hw : 0 ≤ σ' 10 (13 * p + kind).toNat ∧ σ' 10 (13 * p + kind).toNat ≤ σ 2 (13 * p + kind).toNat + 1) (hz : 0 ≤ σ' 9 2 ∧ σ' 9 2 ≤ 52) : CG σ' := by
  refine ⟨h.1.eq (hF.2 0 b0) (hF.2 1 b1) (hF.1 4 (by decide) a4) (hF.2 8 b8) (hF.2 9 b9), ?_, fun q j hq hj => ?_, hz⟩
  · rw [hF.1 2 (by decide) a2, hF.1 4 (by decide) a4, hF.2 8 b8, hF.2 9 b9]; exact h.2.1
  · rw [hF.1 2 (by decide) a2]
    by_cases e : 13 * q + j = (13 * p + kind).toNat
    · rw [e]; exact hw
    · rw [e10 _ e]; exact h.2.2.1 q j hq hj
/-- all of a kind is given -/
theorem CG.give {σ σ' : xS} (h : CG σ) {p q kind g : Int} (h1 : 0 ≤ p ∧ p ≤ 5) (hq : 0 ≤ q ∧ q ≤ 5) (h2 : 0 ≤ kind ∧ kind ≤ 12) (hg : σ 2 (13 * q + kind).toNat = g) {ts js : List Nat} (hF : Fr ts js σ σ') (a4 : 4 ∉ ts) (b0 : 0 ∉ js) (b1 : 1 ∉ js) (b8 : 8 ∉ js) (b9 : 9 ∉ js) {w : Nat → Int}
    (e2 : σ' 2 = up (up (σ 2) (13 * q + kind).toNat (σ 2 (13 * q + kind).toNat + -g)) (13 * p + kind).toNat (up (σ 2) (13 * q + kind).toNat (σ 2 (13 * q + kind).toNat + -g) (13 * p + kind).toNat + g)) (ew : ∀ j, j ≠ (13 * q + kind).toNat → w j = σ 10 j)
    (e10 : σ' 10 = up (up w (13 * q + kind).toNat 0) (13 * p + kind).toNat (up w (13 * q + kind).toNat 0 (13 * p + kind).toNat + g)) (hz : 0 ≤ σ' 9 2 ∧ σ' 9 2 ≤ 52) : CG σ' := by
  have hg0 := h.hI hq h2
  have hp0 := h.hI h1 h2
  have hu0 := h.uI h1 h2
  refine ⟨h.1.eq (hF.2 0 b0) (hF.2 1 b1) (hF.1 4 (by decide) a4) (hF.2 8 b8) (hF.2 9 b9), ⟨fun r j hr hj => ?_, ?_⟩, fun r j hr hj => ?_, hz⟩
  · rw [e2]
    by_cases e : 13 * r + j = (13 * p + kind).toNat
    · rw [e, up_s]
      by_cases e3 : (13 * p + kind).toNat = (13 * q + kind).toNat
      · rw [e3, up_s]; omega
      · rw [up_n e3]; omega
    · rw [up_n e]
      by_cases e3 : 13 * r + j = (13 * q + kind).toNat
      · rw [e3, up_s]; omega
      · rw [up_n e3]; exact h.2.1.1 r j hr hj
  · rw [e2, hF.1 4 (by decide) a4, hF.2 8 b8, hF.2 9 b9]
    intro k hk
    rw [ixk h1 h2, ixk hq h2, gsf_up (by omega) (by omega) hk, gsf_up (by omega) (by omega) hk]
    have z := h.2.1.2 k hk
    split <;> omega
  · rw [e2, e10]
    by_cases e : 13 * r + j = (13 * p + kind).toNat
    · rw [e, up_s, up_s]
      by_cases e3 : (13 * p + kind).toNat = (13 * q + kind).toNat
      · rw [e3, up_s, up_s]; omega
      · rw [up_n e3, up_n e3, ew _ e3]; omega
    · rw [up_n e, up_n e]
      by_cases e3 : 13 * r + j = (13 * q + kind).toNat
      · rw [e3, up_s, up_s]; omega
      · rw [up_n e3, up_n e3, ew _ e3]; exact h.2.2.1 r j hr hj
